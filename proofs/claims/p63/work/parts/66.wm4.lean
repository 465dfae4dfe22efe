set_option maxHeartbeats 4000000 in
set_option maxRecDepth 100000 in
theorem s_X9_leastMiles (l : Launch) (D : va_G) (k : Nat → ClassId) (a : Nat → Nat) (st : CT) (sl : CL) (p0 : Int32) (p1 : Int32) (sz : Nat) (hB : CB st) (hp0 : Iv 0 2 p0) : Met l yX9_leastMiles (.code yX9_leastMiles cX9_leastMiles 3 (some .int) :: TB) (rmw 13 0 0) (va_Pc [.ref (a 0), .int p0, .int p1] (PW D k sz (CWS k a st sl))) (QI D (S := CT) (fun r u => CB u ∧ FR [126, 158, 159, 129, 130, 131, 132, 133, 160, 135, 136, 137, 138, 139, 141, 142, 143, 144, 145, 147, 148, 149, 150, 151, 153, 154, 155, 156, 157, 161] st u ∧ (Iv (-2147483648) 999999 r ∧ (True))) (fun u => CWS k a u sl) (fun _ => []) (CWS k a st sl) sz) 0 0 (va_A (CWS k a st sl) sz) := by
  refine Met.ofW (cc := cX9_leastMiles) (maxL := 3) (ret := (some .int)) (by decide) rfl ?_
  intro p e s m args below meth c s₁ B hml hv
  obtain ⟨rfl, hsz, hP, hK, hD0, hN⟩ := hv
  have hx := B.exec
  have hb := B.bytes
  have hr := B.returns
  have hT : ∀ w9 ∈ TB, w9.before ([.ref (a 0), .int p0, .int p1] : List Value).toArray s = true := fun w9 h => atoms_spec (ws := .code yX9_leastMiles cX9_leastMiles 3 (some .int) :: TB) B.pre w9 (List.mem_cons_of_mem _ h)
  have hown : s.vm.findClass RX9 = some m.cls := findClass_of_methodNamed B.named
  have S : CallFix p m c cX9_leastMiles 3 s _ TB RX9 := ⟨hx, hb, hml, hown, hT⟩
  subst hsz
  have hD := hD0.self (sz := s.heap.size)
  generalize hAe : va_A (CWS k a st sl) s.heap.size = A at hD ⊢
  have hA : ∀ q : Nat, s.heap.size ≤ q → A q := fun q h => by rw [← hAe]; exact Or.inr h
  have hS : va_S A s.heap s.heap [] := va_S.rf
  have hl := lv_entry ([.ref (a 0), .int p0, .int p1]) (n := 3) (Nat.le_of_ble_eq_true rfl)
  rw [lg_entry_eq]
  generalize (lg_sl ([.ref (a 0), .int p0, .int p1]) ++ List.replicate (3 - (lg_sl ([.ref (a 0), .int p0, .int p1])).length) Slot.unset).toArray = ls at hl ⊢
  have hl : lv_has ls 3 [(0, .ref (a 0)), (1, .int p0), (2, .int p1)] := hl
  refine nameQ (fun Q hQ => ?_)
  refine lv_aload_n hx hb dX9_leastMiles_0 rfl (lv_at hl 0 rfl) ?_
  refine va_get (D := D) (ci := 9) (v := .ref (a 126)) (C := RX9) (T := TX9) (N := 11) hx hb hT in_X9 hown hK hP 0 cw_0 rfl 8 (by decide) (hT _ t459) (fun _ h9 => h9) rfl dX9_leastMiles_1 ?_
  refine lv_aload_n hx hb dX9_leastMiles_4 rfl (lv_at hl 0 rfl) ?_
  refine va_get (D := D) (ci := 9) (v := .ref (a 17)) (C := RX9) (T := TX9) (N := 11) hx hb hT in_X9 hown hK hP 0 cw_0 rfl 2 (by decide) (hT _ t453) (fun _ h9 => h9) rfl dX9_leastMiles_5 ?_
  refine va_get (D := D) (ci := 8) (v := .ref (a 18)) (C := RX8) (T := TX8) (N := 6) hx hb hT in_X8 hown hK hP 17 cw_17 rfl 0 (by decide) (hT _ t312) (fun _ h9 => h9) rfl dX9_leastMiles_8 ?_
  refine lv_iload_n hx hb dX9_leastMiles_11 rfl (lv_at hl 1 rfl) ?_
  refine lv_iload_n hx hb dX9_leastMiles_12 rfl (lv_at hl 2 rfl) ?_
  refine ca_v hP hD hS hA (fun hDc => run_V (mc := 0) (ms := 0) (As := [.ref (a 18), .int p0, .int p1]) (rest := []) S (s_X3_aim l D k a st sl  p0 p1 _  hB (iv_mono (c := (-1)) (d := 2) hp0 (by decide) (by decide)) ) lkX9_276 ok_X3_aim ⟨rfl, rfl, Nat.le_of_ble_eq_true rfl, Nat.le_of_ble_eq_true rfl⟩ (pw_V (ci := 3) (q0 := 126) hK hN rfl cw_126 hP hDc) rfl hl.1 rfl (Nat.le_of_ble_eq_true rfl) ⟨Nat.zero_le _, Nat.zero_le _⟩ dX9_leastMiles_13) (fun s1 H9 locs9 hs1 hP9 hD9 hS9 => ?_)
  clear hP hD hS
  have hS := hS9
  have hP := hP9
  have hD := hD9
  clear hP9 hD9 hS9
  obtain ⟨hBs1, gs1, qs1_0, fs1⟩ := hs1
  have hFs1 : FR [126, 158, 159, 129, 130, 131, 132, 133, 160, 135, 136, 137, 138, 139, 141, 142, 143, 144, 145, 147, 148, 149, 150, 151, 153, 154, 155, 156, 157, 161] st s1 := fr_ca fr_rf gs1 (sub_1 (List.mem_of_getElem? (i := 0) rfl) (sub_1 (List.mem_of_getElem? (i := 1) rfl) (sub_1 (List.mem_of_getElem? (i := 2) rfl) sub_0)))
  have k3 := fs1
  have h4 : Iv 0 2 (s1 126 7) := (eq_l k3 hp0)
  refine lv_aload_n hx hb dX9_leastMiles_16 rfl (lv_at hl 0 rfl) ?_
  refine va_get (D := D) (ci := 9) (v := .ref (a 126)) (C := RX9) (T := TX9) (N := 11) hx hb hT in_X9 hown hK hP 0 cw_0 rfl 8 (by decide) (hT _ t459) (fun _ h9 => h9) rfl dX9_leastMiles_17 ?_
  refine ro_VA (As := []) (rest := []) S (s_X3_from l D k a s1 sl   _  hBs1  ) lkX9_293 ok_X3_from ⟨rfl, rfl, Nat.le_of_ble_eq_true rfl, Nat.le_of_ble_eq_true rfl⟩ (pw_V (ci := 3) (q0 := 126) hK hN rfl cw_126 hP (hD.weaken (fun _ _ _ _ => trivial))) rfl hl.1 rfl (Nat.le_of_ble_eq_true rfl) ⟨Nat.zero_le _, Nat.zero_le _⟩ dX9_leastMiles_20 (fun r5 er5 => ?_)
  subst er5
  refine lv_aload_n hx hb dX9_leastMiles_23 rfl (lv_at hl 0 rfl) ?_
  refine va_get (D := D) (ci := 9) (v := .ref (a 17)) (C := RX9) (T := TX9) (N := 11) hx hb hT in_X9 hown hK hP 0 cw_0 rfl 2 (by decide) (hT _ t453) (fun _ h9 => h9) rfl dX9_leastMiles_24 ?_
  refine va_get (D := D) (ci := 8) (v := .ref (a 31)) (C := RX8) (T := TX8) (N := 6) hx hb hT in_X8 hown hK hP 17 cw_17 rfl 1 (by decide) (hT _ t314) (fun _ h9 => h9) rfl dX9_leastMiles_27 ?_
  refine ca_v hP hD hS hA (fun hDc => run_V (mc := 0) (ms := 0) (As := [.ref (a 31)]) (rest := []) S (s_X5_copy l D k a s1 sl 128 31  _ (by decide) (by decide) hBs1  ) lkX9_253 ok_X5_copy ⟨rfl, rfl, Nat.le_of_ble_eq_true rfl, Nat.le_of_ble_eq_true rfl⟩ (pw_V (ci := 5) (q0 := 128) hK hN rfl cw_128 hP hDc) rfl hl.1 rfl (Nat.le_of_ble_eq_true rfl) ⟨Nat.zero_le _, Nat.zero_le _⟩ dX9_leastMiles_30) (fun s6 H9 locs9 hs6 hP9 hD9 hS9 => ?_)
  clear hP hD hS
  have hS := hS9
  have hP := hP9
  have hD := hD9
  clear hP9 hD9 hS9
  obtain ⟨hBs6, gs6, fs6⟩ := hs6
  have hFs6 : FR [126, 158, 159, 129, 130, 131, 132, 133, 160, 135, 136, 137, 138, 139, 141, 142, 143, 144, 145, 147, 148, 149, 150, 151, 153, 154, 155, 156, 157, 161] st s6 := fr_ca hFs1 gs6 (sub_1 (List.mem_of_getElem? (i := 3) rfl) (sub_1 (List.mem_of_getElem? (i := 4) rfl) (sub_1 (List.mem_of_getElem? (i := 5) rfl) (sub_1 (List.mem_of_getElem? (i := 6) rfl) (sub_1 (List.mem_of_getElem? (i := 7) rfl) sub_0)))))
  refine lv_aload_n hx hb dX9_leastMiles_33 rfl (lv_at hl 0 rfl) ?_
  refine va_get (D := D) (ci := 9) (v := .ref (a 126)) (C := RX9) (T := TX9) (N := 11) hx hb hT in_X9 hown hK hP 0 cw_0 rfl 8 (by decide) (hT _ t459) (fun _ h9 => h9) rfl dX9_leastMiles_34 ?_
  refine lv_aload_n hx hb dX9_leastMiles_37 rfl (lv_at hl 0 rfl) ?_
  refine va_get (D := D) (ci := 9) (v := .ref (a 17)) (C := RX9) (T := TX9) (N := 11) hx hb hT in_X9 hown hK hP 0 cw_0 rfl 2 (by decide) (hT _ t453) (fun _ h9 => h9) rfl dX9_leastMiles_38 ?_
  refine va_get (D := D) (ci := 8) (v := .ref (a 18)) (C := RX8) (T := TX8) (N := 6) hx hb hT in_X8 hown hK hP 17 cw_17 rfl 0 (by decide) (hT _ t312) (fun _ h9 => h9) rfl dX9_leastMiles_41 ?_
  refine ca_v hP hD hS hA (fun hDc => run_V (mc := 0) (ms := 0) (As := [.ref (a 18)]) (rest := []) S (s_X3_look l D k a s6 sl   _  hBs6  (eq_l (congrFun (gs6 126 (nm_1 (by decide) (nm_1 (by decide) (nm_1 (by decide) (nm_1 (by decide) (nm_1 (by decide) nm_0)))))) 7) (⟨h4.1, h4.2⟩ : Iv 0 2 (s1 126 7)))) lkX9_297 ok_X3_look ⟨rfl, rfl, Nat.le_of_ble_eq_true rfl, Nat.le_of_ble_eq_true rfl⟩ (pw_V (ci := 3) (q0 := 126) hK hN rfl cw_126 hP hDc) rfl hl.1 rfl (Nat.le_of_ble_eq_true rfl) ⟨Nat.zero_le _, Nat.zero_le _⟩ dX9_leastMiles_44) (fun s8 H9 locs9 hs8 hP9 hD9 hS9 => ?_)
  clear hP hD hS
  have hS := hS9
  have hP := hP9
  have hD := hD9
  clear hP9 hD9 hS9
  obtain ⟨hBs8, gs8, qs8_0, qs8_1, fs8⟩ := hs8
  have hFs8 : FR [126, 158, 159, 129, 130, 131, 132, 133, 160, 135, 136, 137, 138, 139, 141, 142, 143, 144, 145, 147, 148, 149, 150, 151, 153, 154, 155, 156, 157, 161] st s8 := fr_ca hFs6 gs8 (sub_1 (List.mem_of_getElem? (i := 0) rfl) (sub_1 (List.mem_of_getElem? (i := 8) rfl) (sub_1 (List.mem_of_getElem? (i := 9) rfl) (sub_1 (List.mem_of_getElem? (i := 10) rfl) (sub_1 (List.mem_of_getElem? (i := 11) rfl) (sub_1 (List.mem_of_getElem? (i := 12) rfl) (sub_1 (List.mem_of_getElem? (i := 13) rfl) (sub_1 (List.mem_of_getElem? (i := 14) rfl) (sub_1 (List.mem_of_getElem? (i := 15) rfl) (sub_1 (List.mem_of_getElem? (i := 16) rfl) (sub_1 (List.mem_of_getElem? (i := 17) rfl) (sub_1 (List.mem_of_getElem? (i := 18) rfl) (sub_1 (List.mem_of_getElem? (i := 19) rfl) (sub_1 (List.mem_of_getElem? (i := 20) rfl) (sub_1 (List.mem_of_getElem? (i := 21) rfl) (sub_1 (List.mem_of_getElem? (i := 22) rfl) (sub_1 (List.mem_of_getElem? (i := 23) rfl) (sub_1 (List.mem_of_getElem? (i := 24) rfl) (sub_1 (List.mem_of_getElem? (i := 25) rfl) (sub_1 (List.mem_of_getElem? (i := 26) rfl) (sub_1 (List.mem_of_getElem? (i := 27) rfl) (sub_1 (List.mem_of_getElem? (i := 28) rfl) (sub_1 (List.mem_of_getElem? (i := 29) rfl) sub_0)))))))))))))))))))))))
  refine lv_aload_n hx hb dX9_leastMiles_47 rfl (lv_at hl 0 rfl) ?_
  refine va_get (D := D) (ci := 9) (v := .ref (a 126)) (C := RX9) (T := TX9) (N := 11) hx hb hT in_X9 hown hK hP 0 cw_0 rfl 8 (by decide) (hT _ t459) (fun _ h9 => h9) rfl dX9_leastMiles_48 ?_
  refine ro_V (As := []) (rest := []) S (s_X3_miles l D k a s8 sl   _  hBs8  ) lkX9_290 ok_X3_miles ⟨rfl, rfl, Nat.le_of_ble_eq_true rfl, Nat.le_of_ble_eq_true rfl⟩ (pw_V (ci := 3) (q0 := 126) hK hN rfl cw_126 hP (hD.weaken (fun _ _ _ _ => trivial))) rfl hl.1 rfl (Nat.le_of_ble_eq_true rfl) ⟨Nat.zero_le _, Nat.zero_le _⟩ dX9_leastMiles_51 (fun r10 er10 => ?_)
  have h11 : Iv (-2147483648) 999999 r10 := er10.1
  rw [hQ]
  exact W.iret (v := r10) hx hb hr (fun t ht hW => ⟨⟨r10, s8, rfl, ⟨hBs8, hFs8, ⟨h11, trivial⟩⟩, by rw [ht]; exact hP, va_K.moved hW.alike (hK.sub (tys' := []) [] rfl), by rw [hAe]; exact hD⟩, by rw [hAe]; exact hS.F ht⟩) hS.2.2 dX9_leastMiles_54
set_option maxHeartbeats 4000000 in
set_option maxRecDepth 100000 in
theorem s_X9_freeWheels (l : Launch) (D : va_G) (k : Nat → ClassId) (a : Nat → Nat) (st : CT) (sl : CL) (sz : Nat) (hB : CB st)  : Met l yX9_freeWheels (.code yX9_freeWheels cX9_freeWheels 3 (some .int) :: TB) (rmk 1) (va_Pc [.ref (a 0)] (PW D k sz (CWS k a st sl))) (vp_Si (fun r => Iv 0 255 r ∧ (True))) 0 0 (fun _ => False) := by
  refine Met.ofW (cc := cX9_freeWheels) (maxL := 3) (ret := (some .int)) (by decide) rfl ?_
  intro p e s m args below meth c s₁ B hml hv
  obtain ⟨rfl, hsz, hP, hK, hD0, hN⟩ := hv
  have hx := B.exec
  have hb := B.bytes
  have hr := B.returns
  have hT : ∀ w9 ∈ TB, w9.before ([.ref (a 0)] : List Value).toArray s = true := fun w9 h => atoms_spec (ws := .code yX9_freeWheels cX9_freeWheels 3 (some .int) :: TB) B.pre w9 (List.mem_cons_of_mem _ h)
  have hown : s.vm.findClass RX9 = some m.cls := findClass_of_methodNamed B.named
  have S : CallFix p m c cX9_freeWheels 3 s _ TB RX9 := ⟨hx, hb, hml, hown, hT⟩
  subst hsz
  have hl := lv_entry ([.ref (a 0)]) (n := 3) (Nat.le_of_ble_eq_true rfl)
  rw [lg_entry_eq]
  generalize (lg_sl ([.ref (a 0)]) ++ List.replicate (3 - (lg_sl ([.ref (a 0)])).length) Slot.unset).toArray = ls at hl ⊢
  have hl : lv_has ls 3 [(0, .ref (a 0))] := hl
  refine nameQ (fun Q hQ => ?_)
  refine lv_iconst (v := 0) hx hb dX9_freeWheels_0 (by decide) ?_
  refine lv_istore_n (lv' := [(1, .int 0), (0, .ref (a 0))]) hx hb dX9_freeWheels_1 rfl hl (by decide) rfl (fun ls hl => ?_)
  refine lv_iconst (v := 0) hx hb dX9_freeWheels_2 (by decide) ?_
  refine lv_istore_n (lv' := [(2, .int 0), (1, .int 0), (0, .ref (a 0))]) hx hb dX9_freeWheels_3 rfl hl (by decide) rfl (fun ls hl => ?_)
  have lp4 : ∀ (n9_4 : Nat) (v2_4 : Int32) (v1_4 : Int32) (ls : Array Slot), Iv 0 8 v2_4 → Iv 0 255 v1_4 → lv_has ls 3 [(2, .int v2_4), (1, .int v1_4), (0, .ref (a 0))] → (8 : Int) - v2_4.toInt < (n9_4 : Int) → W p l e (rmk 1) s m ([.ref (a 0)] : List Value).toArray below meth c s.heap [] 0 0 Q (F0 m 4 ls []) := by
    clear hl
    intro n9_4
    induction n9_4 with
    | zero =>
      intro v2_4 v1_4 ls iv2_4 iv1_4 hl hm4
      exact (fu_0 iv2_4 hm4).elim
    | succ n9_4 ih4 =>
      intro v2_4 v1_4 ls iv2_4 iv1_4 hl hm4
      refine lv_iload_n hx hb dX9_freeWheels_4 rfl (lv_at hl 0 rfl) ?_
      refine lv_aload_n hx hb dX9_freeWheels_5 rfl (lv_at hl 2 rfl) ?_
      refine va_get (D := D) (ci := 9) (v := .ref (a 17)) (C := RX9) (T := TX9) (N := 11) hx hb hT in_X9 hown hK hP 0 cw_0 rfl 2 (by decide) (hT _ t453) (fun _ h9 => h9) rfl dX9_freeWheels_6 ?_
      refine va_get (D := D) (ci := 8) (v := .ref (a 18)) (C := RX8) (T := TX8) (N := 6) hx hb hT in_X8 hown hK hP 17 cw_17 rfl 0 (by decide) (hT _ t312) (fun _ h9 => h9) rfl dX9_freeWheels_9 ?_
      refine va_get (D := D) (ci := 1) (v := .int (st 18 4)) (C := RX1) (T := TX1) (N := 14) hx hb hT in_X1 hown hK hP 18 cw_18 rfl 4 (by decide) (hT _ t215) (fun _ h9 => h9) rfl dX9_freeWheels_12 ?_
      have h154 : Iv 0 8 (st 18 4) := (rb_18_4 hB)
      refine lv_icmp_ge (tgt := 46) hx hb dX9_freeWheels_15 (by decide) (fun c155 => ?_) (fun c155 => ?_)
      · skip
        have n156 : (st 18 4).toInt ≤ v2_4.toInt := (i_le c155)
        refine lv_iload_n hx hb dX9_freeWheels_46 rfl (lv_at hl 1 rfl) ?_
        rw [hQ]
        exact W.iret (v := v1_4) hx hb hr (fun t ht hW => ⟨v1_4, rfl, ⟨iv1_4, trivial⟩, ht⟩) (fun _ h9 => by cases h9) dX9_freeWheels_47
      · skip
        have n157 : v2_4.toInt < (st 18 4).toInt := (i_nle c155)
        have h158 : Iv 0 7 v2_4 := lt_l iv2_4 n157 h154 (by decide)
        have h159 : Iv 1 8 (st 18 4) := lt_r iv2_4 n157 h154 (by decide)
        refine lv_aload_n hx hb dX9_freeWheels_18 rfl (lv_at hl 2 rfl) ?_
        refine va_get (D := D) (ci := 9) (v := .ref (a 17)) (C := RX9) (T := TX9) (N := 11) hx hb hT in_X9 hown hK hP 0 cw_0 rfl 2 (by decide) (hT _ t453) (fun _ h9 => h9) rfl dX9_freeWheels_19 ?_
        refine va_get (D := D) (ci := 8) (v := .ref (a 31)) (C := RX8) (T := TX8) (N := 6) hx hb hT in_X8 hown hK hP 17 cw_17 rfl 1 (by decide) (hT _ t314) (fun _ h9 => h9) rfl dX9_freeWheels_22 ?_
        refine va_get (D := D) (ci := 5) (v := .ref (a 34)) (C := RX5) (T := TX5) (N := 5) hx hb hT in_X5 hown hK hP 31 cw_31 rfl 2 (by decide) (hT _ t175) (fun _ h9 => h9) rfl dX9_freeWheels_25 ?_
        refine lv_iload_n hx hb dX9_freeWheels_28 rfl (lv_at hl 0 rfl) ?_
        refine va_iald hx hb hK hP 34 0 cw_34 rfl (iv_in h158 (by decide) (by decide)) dX9_freeWheels_29 ?_
        refine lv_topi (fun z160 ez160 => ?_)
        refine lv_iconst (v := (-1)) hx hb dX9_freeWheels_30 (by decide) ?_
        refine lv_icmp_ne (tgt := 40) hx hb dX9_freeWheels_31 (by decide) (fun c161 => ?_) (fun c161 => ?_)
        · skip
          obtain ⟨z162, ez162⟩ : ∃ z9 : Int32, z9 = v2_4 + Int32.ofInt 1 := ⟨_, rfl⟩
          have h163 : Iv 1 8 z162 := iv_inc ez162 h158 (by decide) (by decide) (by decide) (by decide) (by decide) (by decide)
          refine lv_iinc (v := z162) (lv' := [(2, .int z162), (1, .int v1_4), (0, .ref (a 0))]) hx hb dX9_freeWheels_40 hl (k := 0) rfl ez162.symm (by decide) rfl (fun ls hl => ?_)
          refine lv_goto (tgt := 4) hx hb dX9_freeWheels_43 (by decide) ?_
          exact ih4 z162 v1_4 _ (iv_mono (c := 0) (d := 8) h163 (by decide) (by decide)) iv1_4 (lv_sub hl [0, 1, 2] rfl) (fu_s (lo := 0) (ti_inc ez162 h158 (by decide) (by decide) (by decide) (by decide)) (by decide) hm4)
        · skip
          have h164 : Iv (-1) (-1) z160 := eq_l c161 (iv_c (by decide) : Iv (-1) (-1) (-1))
          refine lv_iload_n hx hb dX9_freeWheels_34 rfl (lv_at hl 1 rfl) ?_
          refine lv_iconst (v := 1) hx hb dX9_freeWheels_35 (by decide) ?_
          refine lv_iload_n hx hb dX9_freeWheels_36 rfl (lv_at hl 0 rfl) ?_
          refine lv_ishl hx hb dX9_freeWheels_37 ?_
          refine lv_topi (fun z165 ez165 => ?_)
          have h166 : Iv 1 128 z165 := iv_shl 7 ez165 h158 (by decide) (by decide) (by decide)
          refine lv_ior hx hb dX9_freeWheels_38 ?_
          refine lv_topi (fun z167 ez167 => ?_)
          have h168 : Iv 0 255 z167 := iv_or 8 ez167 iv1_4 (iv_mono (c := 0) (d := 128) h166 (by decide) (by decide)) (by decide) (by decide) (by decide) (by decide)
          refine lv_istore_n (lv' := [(1, .int z167), (2, .int v2_4), (0, .ref (a 0))]) hx hb dX9_freeWheels_39 rfl hl (by decide) rfl (fun ls hl => ?_)
          obtain ⟨z169, ez169⟩ : ∃ z9 : Int32, z9 = v2_4 + Int32.ofInt 1 := ⟨_, rfl⟩
          have h170 : Iv 1 8 z169 := iv_inc ez169 h158 (by decide) (by decide) (by decide) (by decide) (by decide) (by decide)
          refine lv_iinc (v := z169) (lv' := [(2, .int z169), (1, .int z167), (0, .ref (a 0))]) hx hb dX9_freeWheels_40 hl (k := 1) rfl ez169.symm (by decide) rfl (fun ls hl => ?_)
          refine lv_goto (tgt := 4) hx hb dX9_freeWheels_43 (by decide) ?_
          exact ih4 z169 z167 _ (iv_mono (c := 0) (d := 8) h170 (by decide) (by decide)) h168 (lv_sub hl [0, 1, 2] rfl) (fu_s (lo := 0) (ti_inc ez169 h158 (by decide) (by decide) (by decide) (by decide)) (by decide) hm4)
  exact lp4 9 0 0 _ (iv_mono (c := 0) (d := 8) (iv_c (by decide) : Iv 0 0 0) (by decide) (by decide)) (iv_mono (c := 0) (d := 255) (iv_c (by decide) : Iv 0 0 0) (by decide) (by decide)) (lv_sub hl [0, 1, 2] rfl) (fu_i (iv_mono (c := 0) (d := 8) (iv_c (by decide) : Iv 0 0 0) (by decide) (by decide)) (by decide))
set_option maxHeartbeats 4000000 in
set_option maxRecDepth 100000 in
theorem s_X9_chooseWheels (l : Launch) (D : va_G) (k : Nat → ClassId) (a : Nat → Nat) (st : CT) (sl : CL) (p0 : Int32) (p1 : Int32) (sz : Nat) (hB : CB st) (hp0 : Iv 0 2 p0) : Met l yX9_chooseWheels (.code yX9_chooseWheels cX9_chooseWheels 9 (some .int) :: TB) (rmw 13 0 0) (va_Pc [.ref (a 0), .int p0, .int p1] (PW D k sz (CWS k a st sl))) (QI D (S := CT) (fun r u => CB u ∧ FR [126, 158, 159, 129, 130, 131, 132, 133, 160, 135, 136, 137, 138, 139, 141, 142, 143, 144, 145, 147, 148, 149, 150, 151, 153, 154, 155, 156, 157, 161] st u ∧ (Iv (-1) 255 r ∧ (True))) (fun u => CWS k a u sl) (fun _ => []) (CWS k a st sl) sz) 0 0 (va_A (CWS k a st sl) sz) := by
  refine Met.ofW (cc := cX9_chooseWheels) (maxL := 9) (ret := (some .int)) (by decide) rfl ?_
  intro p e s m args below meth c s₁ B hml hv
  obtain ⟨rfl, hsz, hP, hK, hD0, hN⟩ := hv
  have hx := B.exec
  have hb := B.bytes
  have hr := B.returns
  have hT : ∀ w9 ∈ TB, w9.before ([.ref (a 0), .int p0, .int p1] : List Value).toArray s = true := fun w9 h => atoms_spec (ws := .code yX9_chooseWheels cX9_chooseWheels 9 (some .int) :: TB) B.pre w9 (List.mem_cons_of_mem _ h)
  have hown : s.vm.findClass RX9 = some m.cls := findClass_of_methodNamed B.named
  have S : CallFix p m c cX9_chooseWheels 9 s _ TB RX9 := ⟨hx, hb, hml, hown, hT⟩
  subst hsz
  have hD := hD0.self (sz := s.heap.size)
  generalize hAe : va_A (CWS k a st sl) s.heap.size = A at hD ⊢
  have hA : ∀ q : Nat, s.heap.size ≤ q → A q := fun q h => by rw [← hAe]; exact Or.inr h
  have hS : va_S A s.heap s.heap [] := va_S.rf
  have hl := lv_entry ([.ref (a 0), .int p0, .int p1]) (n := 9) (Nat.le_of_ble_eq_true rfl)
  rw [lg_entry_eq]
  generalize (lg_sl ([.ref (a 0), .int p0, .int p1]) ++ List.replicate (9 - (lg_sl ([.ref (a 0), .int p0, .int p1])).length) Slot.unset).toArray = ls at hl ⊢
  have hl : lv_has ls 9 [(0, .ref (a 0)), (1, .int p0), (2, .int p1)] := hl
  refine nameQ (fun Q hQ => ?_)
  refine lv_aload_n hx hb dX9_chooseWheels_0 rfl (lv_at hl 0 rfl) ?_
  refine va_get (D := D) (ci := 9) (v := .ref (a 17)) (C := RX9) (T := TX9) (N := 11) hx hb hT in_X9 hown hK hP 0 cw_0 rfl 2 (by decide) (hT _ t453) (fun _ h9 => h9) rfl dX9_chooseWheels_1 ?_
  refine va_get (D := D) (ci := 8) (v := .ref (a 31)) (C := RX8) (T := TX8) (N := 6) hx hb hT in_X8 hown hK hP 17 cw_17 rfl 1 (by decide) (hT _ t314) (fun _ h9 => h9) rfl dX9_chooseWheels_4 ?_
  refine lv_iload_n hx hb dX9_chooseWheels_7 rfl (lv_at hl 1 rfl) ?_
  refine ro_V (As := [.int p0]) (rest := []) S (s_X5_crewOf l D k a st sl 31 p0 _ (by decide) hB  ) lkX9_153 ok_X5_crewOf ⟨rfl, rfl, Nat.le_of_ble_eq_true rfl, Nat.le_of_ble_eq_true rfl⟩ (pw_V (ci := 5) (q0 := 31) hK hN rfl cw_31 hP (hD.weaken (fun _ _ _ _ => trivial))) rfl hl.1 rfl (Nat.le_of_ble_eq_true rfl) ⟨Nat.zero_le _, Nat.zero_le _⟩ dX9_chooseWheels_8 (fun r1 er1 => ?_)
  have h2 : Iv 0 255 r1 := er1.1
  refine lv_istore_n (lv' := [(3, .int r1), (0, .ref (a 0)), (1, .int p0), (2, .int p1)]) hx hb dX9_chooseWheels_11 rfl hl (by decide) rfl (fun ls hl => ?_)
  refine lv_iload_n hx hb dX9_chooseWheels_12 rfl (lv_at hl 0 rfl) ?_
  refine lv_aload_n hx hb dX9_chooseWheels_13 rfl (lv_at hl 1 rfl) ?_
  refine ro_V (As := []) (rest := [.int r1]) S (s_X9_freeWheels l D k a st sl   _  hB  ) lkX9_300 ok_X9_freeWheels ⟨rfl, rfl, Nat.le_of_ble_eq_true rfl, Nat.le_of_ble_eq_true rfl⟩ (pw_V (ci := 9) (q0 := 0) hK hN rfl cw_0 hP (hD.weaken (fun _ _ _ _ => trivial))) rfl hl.1 rfl (Nat.le_of_ble_eq_true rfl) ⟨Nat.zero_le _, Nat.zero_le _⟩ dX9_chooseWheels_14 (fun r3 er3 => ?_)
  have h4 : Iv 0 255 r3 := er3.1
  refine lv_ior hx hb dX9_chooseWheels_17 ?_
  refine lv_topi (fun z5 ez5 => ?_)
  have h6 : Iv 0 255 z5 := iv_or 8 ez5 h2 h4 (by decide) (by decide) (by decide) (by decide)
  refine lv_istore (lv' := [(4, .int z5), (3, .int r1), (0, .ref (a 0)), (1, .int p0), (2, .int p1)]) hx hb dX9_chooseWheels_18 hl (by decide) rfl (fun ls hl => ?_)
  refine lv_iload_n hx hb dX9_chooseWheels_20 rfl (lv_at hl 1 rfl) ?_
  refine ro_SX (As := [.int r1]) (rest := []) S (s_J6_bitCount_0f7a4 l D k a st sl  r1 _  hB  ) (gdC t999) t997 t998 t122 ok_J6_bitCount_0f7a4 ⟨rfl, rfl, Nat.le_of_ble_eq_true rfl, Nat.le_of_ble_eq_true rfl⟩ (pw_S hK hN hP (hD.weaken (fun _ _ _ _ => trivial))) rfl hl.1 rfl (Nat.le_of_ble_eq_true rfl) ⟨Nat.zero_le _, Nat.zero_le _⟩ dX9_chooseWheels_21 (fun r7 er7 => ?_)
  have h8 : Iv 0 63 r7 := er7.1
  refine lv_istore (lv' := [(5, .int r7), (4, .int z5), (3, .int r1), (0, .ref (a 0)), (1, .int p0), (2, .int p1)]) hx hb dX9_chooseWheels_24 hl (by decide) rfl (fun ls hl => ?_)
  refine lv_iconst (v := (-1)) hx hb dX9_chooseWheels_26 (by decide) ?_
  refine lv_istore (lv' := [(6, .int (-1)), (5, .int r7), (4, .int z5), (3, .int r1), (0, .ref (a 0)), (1, .int p0), (2, .int p1)]) hx hb dX9_chooseWheels_27 hl (by decide) rfl (fun ls hl => ?_)
  refine lv_ldcw (v := 1000000) hx hb hown (hT _ t980) dX9_chooseWheels_29 ?_
  refine lv_istore (lv' := [(7, .int 1000000), (6, .int (-1)), (5, .int r7), (4, .int z5), (3, .int r1), (0, .ref (a 0)), (1, .int p0), (2, .int p1)]) hx hb dX9_chooseWheels_32 hl (by decide) rfl (fun ls hl => ?_)
  refine lv_aload_n hx hb dX9_chooseWheels_34 rfl (lv_at hl 5 rfl) ?_
  refine va_get (D := D) (ci := 9) (v := .ref (a 126)) (C := RX9) (T := TX9) (N := 11) hx hb hT in_X9 hown hK hP 0 cw_0 rfl 8 (by decide) (hT _ t459) (fun _ h9 => h9) rfl dX9_chooseWheels_35 ?_
  refine lv_aload_n hx hb dX9_chooseWheels_38 rfl (lv_at hl 5 rfl) ?_
  refine va_get (D := D) (ci := 9) (v := .ref (a 17)) (C := RX9) (T := TX9) (N := 11) hx hb hT in_X9 hown hK hP 0 cw_0 rfl 2 (by decide) (hT _ t453) (fun _ h9 => h9) rfl dX9_chooseWheels_39 ?_
  refine va_get (D := D) (ci := 8) (v := .ref (a 18)) (C := RX8) (T := TX8) (N := 6) hx hb hT in_X8 hown hK hP 17 cw_17 rfl 0 (by decide) (hT _ t312) (fun _ h9 => h9) rfl dX9_chooseWheels_42 ?_
  refine lv_iload_n hx hb dX9_chooseWheels_45 rfl (lv_at hl 6 rfl) ?_
  refine lv_iload_n hx hb dX9_chooseWheels_46 rfl (lv_at hl 7 rfl) ?_
  refine ca_v hP hD hS hA (fun hDc => run_V (mc := 0) (ms := 0) (As := [.ref (a 18), .int p0, .int p1]) (rest := []) S (s_X3_aim l D k a st sl  p0 p1 _  hB (iv_mono (c := (-1)) (d := 2) hp0 (by decide) (by decide)) ) lkX9_276 ok_X3_aim ⟨rfl, rfl, Nat.le_of_ble_eq_true rfl, Nat.le_of_ble_eq_true rfl⟩ (pw_V (ci := 3) (q0 := 126) hK hN rfl cw_126 hP hDc) rfl hl.1 rfl (Nat.le_of_ble_eq_true rfl) ⟨Nat.zero_le _, Nat.zero_le _⟩ dX9_chooseWheels_47) (fun s9 H9 locs9 hs9 hP9 hD9 hS9 => ?_)
  clear hP hD hS
  have hS := hS9
  have hP := hP9
  have hD := hD9
  clear hP9 hD9 hS9
  obtain ⟨hBs9, gs9, qs9_0, fs9⟩ := hs9
  have hFs9 : FR [126, 158, 159, 129, 130, 131, 132, 133, 160, 135, 136, 137, 138, 139, 141, 142, 143, 144, 145, 147, 148, 149, 150, 151, 153, 154, 155, 156, 157, 161] st s9 := fr_ca fr_rf gs9 (sub_1 (List.mem_of_getElem? (i := 0) rfl) (sub_1 (List.mem_of_getElem? (i := 1) rfl) (sub_1 (List.mem_of_getElem? (i := 2) rfl) sub_0)))
  have k11 := fs9
  have h12 : Iv 0 2 (s9 126 7) := (eq_l k11 hp0)
  refine lv_iconst (v := 1) hx hb dX9_chooseWheels_50 (by decide) ?_
  refine lv_istore (lv' := [(8, .int 1), (7, .int 1000000), (6, .int (-1)), (5, .int r7), (4, .int z5), (3, .int r1), (0, .ref (a 0)), (1, .int p0), (2, .int p1)]) hx hb dX9_chooseWheels_51 hl (by decide) rfl (fun ls hl => ?_)
  have lp53 : ∀ (n9_53 : Nat) (v8_53 : Int32) (v7_53 : Int32) (v6_53 : Int32) (t53 : CT) (H9 : Heap) (locs9 : List Loc) (ls : Array Slot), Iv 1 256 v8_53 → Iv (-2147483648) 1000000 v7_53 → Iv (-1) 255 v6_53 → CB t53 → FR [129, 130, 131, 132, 133, 126, 160, 135, 136, 137, 138, 139, 141, 142, 143, 144, 145, 147, 148, 149, 150, 151, 153, 154, 155, 156, 157, 161] s9 t53 → t53 126 7 = s9 126 7 → t53 126 8 = s9 126 8 → va_P D vwCl (CWS k a t53 sl) H9 → va_D A (CWS k a t53 sl) → va_S A s.heap H9 locs9 → lv_has ls 9 [(8, .int v8_53), (7, .int v7_53), (6, .int v6_53), (5, .int r7), (4, .int z5), (3, .int r1), (0, .ref (a 0)), (1, .int p0), (2, .int p1)] → (256 : Int) - v8_53.toInt < (n9_53 : Int) → W p l e (rmw 13 0 0) s m ([.ref (a 0), .int p0, .int p1] : List Value).toArray below meth c H9 locs9 0 0 Q (F0 m 53 ls []) := by
    clear hl hP hD hS
    intro n9_53
    induction n9_53 with
    | zero =>
      intro v8_53 v7_53 v6_53 t53 H9 locs9 ls iv8_53 iv7_53 iv6_53 hBt53 gt53 qt53_0 qt53_1 hP hD hS hl hm53
      exact (fu_0 iv8_53 hm53).elim
    | succ n9_53 ih53 =>
      intro v8_53 v7_53 v6_53 t53 H9 locs9 ls iv8_53 iv7_53 iv6_53 hBt53 gt53 qt53_0 qt53_1 hP hD hS hl hm53
      have hFt53 : FR [126, 158, 159, 129, 130, 131, 132, 133, 160, 135, 136, 137, 138, 139, 141, 142, 143, 144, 145, 147, 148, 149, 150, 151, 153, 154, 155, 156, 157, 161] st t53 := fr_ca hFs9 gt53 (sub_1 (List.mem_of_getElem? (i := 3) rfl) (sub_1 (List.mem_of_getElem? (i := 4) rfl) (sub_1 (List.mem_of_getElem? (i := 5) rfl) (sub_1 (List.mem_of_getElem? (i := 6) rfl) (sub_1 (List.mem_of_getElem? (i := 7) rfl) (sub_1 (List.mem_of_getElem? (i := 0) rfl) (sub_1 (List.mem_of_getElem? (i := 8) rfl) (sub_1 (List.mem_of_getElem? (i := 9) rfl) (sub_1 (List.mem_of_getElem? (i := 10) rfl) (sub_1 (List.mem_of_getElem? (i := 11) rfl) (sub_1 (List.mem_of_getElem? (i := 12) rfl) (sub_1 (List.mem_of_getElem? (i := 13) rfl) (sub_1 (List.mem_of_getElem? (i := 14) rfl) (sub_1 (List.mem_of_getElem? (i := 15) rfl) (sub_1 (List.mem_of_getElem? (i := 16) rfl) (sub_1 (List.mem_of_getElem? (i := 17) rfl) (sub_1 (List.mem_of_getElem? (i := 18) rfl) (sub_1 (List.mem_of_getElem? (i := 19) rfl) (sub_1 (List.mem_of_getElem? (i := 20) rfl) (sub_1 (List.mem_of_getElem? (i := 21) rfl) (sub_1 (List.mem_of_getElem? (i := 22) rfl) (sub_1 (List.mem_of_getElem? (i := 23) rfl) (sub_1 (List.mem_of_getElem? (i := 24) rfl) (sub_1 (List.mem_of_getElem? (i := 25) rfl) (sub_1 (List.mem_of_getElem? (i := 26) rfl) (sub_1 (List.mem_of_getElem? (i := 27) rfl) (sub_1 (List.mem_of_getElem? (i := 28) rfl) (sub_1 (List.mem_of_getElem? (i := 29) rfl) sub_0))))))))))))))))))))))))))))
      refine lv_iload hx hb dX9_chooseWheels_53 (lv_at hl 0 rfl) ?_
      refine lv_sipush (v := 256) hx hb dX9_chooseWheels_55 (by decide) ?_
      refine lv_icmp_ge (tgt := 156) hx hb dX9_chooseWheels_58 (by decide) (fun c906 => ?_) (fun c906 => ?_)
      · skip
        have n907 : (256 : Int32).toInt ≤ v8_53.toInt := (i_le c906)
        have h908 : Iv 256 256 v8_53 := le_r (iv_c (by decide) : Iv 256 256 256) n907 iv8_53 (by decide)
        refine lv_iload hx hb dX9_chooseWheels_156 (lv_at hl 2 rfl) ?_
        rw [hQ]
        exact W.iret (v := v6_53) hx hb hr (fun t ht hW => ⟨⟨v6_53, t53, rfl, ⟨hBt53, hFt53, ⟨iv6_53, trivial⟩⟩, by rw [ht]; exact hP, va_K.moved hW.alike (hK.sub (tys' := []) [] rfl), by rw [hAe]; exact hD⟩, by rw [hAe]; exact hS.F ht⟩) hS.2.2 dX9_chooseWheels_158
      · skip
        have n909 : v8_53.toInt < (256 : Int32).toInt := (i_nle c906)
        have h910 : Iv 1 255 v8_53 := lt_l iv8_53 n909 (iv_c (by decide) : Iv 256 256 256) (by decide)
        refine lv_iload hx hb dX9_chooseWheels_61 (lv_at hl 0 rfl) ?_
        refine lv_iload hx hb dX9_chooseWheels_63 (lv_at hl 4 rfl) ?_
        refine lv_iconst (v := (-1)) hx hb dX9_chooseWheels_65 (by decide) ?_
        refine lv_ixor hx hb dX9_chooseWheels_66 ?_
        refine lv_topi (fun z911 ez911 => ?_)
        refine lv_iand hx hb dX9_chooseWheels_67 ?_
        refine lv_topi (fun z912 ez912 => ?_)
        have h913 : Iv 0 255 z912 := iv_andl ez912 (iv_mono (c := 0) (d := 255) h910 (by decide) (by decide))
        refine lv_if_ne (tgt := 150) hx hb dX9_chooseWheels_68 (by decide) (fun c914 => ?_) (fun c914 => ?_)
        · skip
          have h915 : Iv 1 255 z912 := ne_lo h913 (show ¬ z912 = 0 from c914) (by decide) (by decide)
          obtain ⟨z916, ez916⟩ : ∃ z9 : Int32, z9 = v8_53 + Int32.ofInt 1 := ⟨_, rfl⟩
          have h917 : Iv 2 256 z916 := iv_inc ez916 h910 (by decide) (by decide) (by decide) (by decide) (by decide) (by decide)
          refine lv_iinc (v := z916) (lv' := [(8, .int z916), (7, .int v7_53), (6, .int v6_53), (5, .int r7), (4, .int z5), (3, .int r1), (0, .ref (a 0)), (1, .int p0), (2, .int p1)]) hx hb dX9_chooseWheels_150 hl (k := 0) rfl ez916.symm (by decide) rfl (fun ls hl => ?_)
          refine lv_goto (tgt := 53) hx hb dX9_chooseWheels_153 (by decide) ?_
          exact ih53 z916 v7_53 v6_53 t53 _ _ _ (iv_mono (c := 1) (d := 256) h917 (by decide) (by decide)) iv7_53 iv6_53 hBt53 gt53 qt53_0 qt53_1 hP hD hS (lv_sub hl [0, 1, 2, 3, 4, 5, 6, 7, 8] rfl) (fu_s (lo := 0) (ti_inc ez916 h910 (by decide) (by decide) (by decide) (by decide)) (by decide) hm53)
        · skip
          have h918 : Iv 0 0 z912 := eq_l c914 (iv_c (by decide) : Iv 0 0 0)
          refine lv_iload hx hb dX9_chooseWheels_71 (lv_at hl 0 rfl) ?_
          refine ro_SX (As := [.int v8_53]) (rest := []) S (s_J6_bitCount_0f7a4 l D k a t53 sl  v8_53 _  hBt53  ) (gdC t999) t997 t998 t122 ok_J6_bitCount_0f7a4 ⟨rfl, rfl, Nat.le_of_ble_eq_true rfl, Nat.le_of_ble_eq_true rfl⟩ (pw_S hK hN hP (hD.weaken (fun _ _ _ _ => trivial))) rfl hl.1 rfl (Nat.le_of_ble_eq_true rfl) ⟨Nat.zero_le _, Nat.zero_le _⟩ dX9_chooseWheels_73 (fun r919 er919 => ?_)
          have h920 : Iv 0 63 r919 := er919.1
          refine lv_iload hx hb dX9_chooseWheels_76 (lv_at hl 3 rfl) ?_
          refine lv_icmp_ne (tgt := 150) hx hb dX9_chooseWheels_78 (by decide) (fun c921 => ?_) (fun c921 => ?_)
          · skip
            obtain ⟨z922, ez922⟩ : ∃ z9 : Int32, z9 = v8_53 + Int32.ofInt 1 := ⟨_, rfl⟩
            have h923 : Iv 2 256 z922 := iv_inc ez922 h910 (by decide) (by decide) (by decide) (by decide) (by decide) (by decide)
            refine lv_iinc (v := z922) (lv' := [(8, .int z922), (7, .int v7_53), (6, .int v6_53), (5, .int r7), (4, .int z5), (3, .int r1), (0, .ref (a 0)), (1, .int p0), (2, .int p1)]) hx hb dX9_chooseWheels_150 hl (k := 0) rfl ez922.symm (by decide) rfl (fun ls hl => ?_)
            refine lv_goto (tgt := 53) hx hb dX9_chooseWheels_153 (by decide) ?_
            exact ih53 z922 v7_53 v6_53 t53 _ _ _ (iv_mono (c := 1) (d := 256) h923 (by decide) (by decide)) iv7_53 iv6_53 hBt53 gt53 qt53_0 qt53_1 hP hD hS (lv_sub hl [0, 1, 2, 3, 4, 5, 6, 7, 8] rfl) (fu_s (lo := 0) (ti_inc ez922 h910 (by decide) (by decide) (by decide) (by decide)) (by decide) hm53)
          · skip
            refine lv_aload_n hx hb dX9_chooseWheels_81 rfl (lv_at hl 6 rfl) ?_
            refine va_get (D := D) (ci := 9) (v := .ref (a 126)) (C := RX9) (T := TX9) (N := 11) hx hb hT in_X9 hown hK hP 0 cw_0 rfl 8 (by decide) (hT _ t459) (fun _ h9 => h9) rfl dX9_chooseWheels_82 ?_
            refine ro_VA (As := []) (rest := []) S (s_X3_from l D k a t53 sl   _  hBt53  ) lkX9_293 ok_X3_from ⟨rfl, rfl, Nat.le_of_ble_eq_true rfl, Nat.le_of_ble_eq_true rfl⟩ (pw_V (ci := 3) (q0 := 126) hK hN rfl cw_126 hP (hD.weaken (fun _ _ _ _ => trivial))) rfl hl.1 rfl (Nat.le_of_ble_eq_true rfl) ⟨Nat.zero_le _, Nat.zero_le _⟩ dX9_chooseWheels_85 (fun r924 er924 => ?_)
            subst er924
            refine lv_aload_n hx hb dX9_chooseWheels_88 rfl (lv_at hl 6 rfl) ?_
            refine va_get (D := D) (ci := 9) (v := .ref (a 17)) (C := RX9) (T := TX9) (N := 11) hx hb hT in_X9 hown hK hP 0 cw_0 rfl 2 (by decide) (hT _ t453) (fun _ h9 => h9) rfl dX9_chooseWheels_89 ?_
            refine va_get (D := D) (ci := 8) (v := .ref (a 31)) (C := RX8) (T := TX8) (N := 6) hx hb hT in_X8 hown hK hP 17 cw_17 rfl 1 (by decide) (hT _ t314) (fun _ h9 => h9) rfl dX9_chooseWheels_92 ?_
            refine ca_v hP hD hS hA (fun hDc => run_V (mc := 0) (ms := 0) (As := [.ref (a 31)]) (rest := []) S (s_X5_copy l D k a t53 sl 128 31  _ (by decide) (by decide) hBt53  ) lkX9_253 ok_X5_copy ⟨rfl, rfl, Nat.le_of_ble_eq_true rfl, Nat.le_of_ble_eq_true rfl⟩ (pw_V (ci := 5) (q0 := 128) hK hN rfl cw_128 hP hDc) rfl hl.1 rfl (Nat.le_of_ble_eq_true rfl) ⟨Nat.zero_le _, Nat.zero_le _⟩ dX9_chooseWheels_95) (fun s925 H9 locs9 hs925 hP9 hD9 hS9 => ?_)
            clear hP hD hS
            have hS := hS9
            have hP := hP9
            have hD := hD9
            clear hP9 hD9 hS9
            obtain ⟨hBs925, gs925, fs925⟩ := hs925
            have hFs925 : FR [126, 158, 159, 129, 130, 131, 132, 133, 160, 135, 136, 137, 138, 139, 141, 142, 143, 144, 145, 147, 148, 149, 150, 151, 153, 154, 155, 156, 157, 161] st s925 := fr_ca hFt53 gs925 (sub_1 (List.mem_of_getElem? (i := 3) rfl) (sub_1 (List.mem_of_getElem? (i := 4) rfl) (sub_1 (List.mem_of_getElem? (i := 5) rfl) (sub_1 (List.mem_of_getElem? (i := 6) rfl) (sub_1 (List.mem_of_getElem? (i := 7) rfl) sub_0)))))
            refine lv_aload_n hx hb dX9_chooseWheels_98 rfl (lv_at hl 6 rfl) ?_
            refine va_get (D := D) (ci := 9) (v := .ref (a 126)) (C := RX9) (T := TX9) (N := 11) hx hb hT in_X9 hown hK hP 0 cw_0 rfl 8 (by decide) (hT _ t459) (fun _ h9 => h9) rfl dX9_chooseWheels_99 ?_
            refine ro_VA (As := []) (rest := []) S (s_X3_from l D k a s925 sl   _  hBs925  ) lkX9_293 ok_X3_from ⟨rfl, rfl, Nat.le_of_ble_eq_true rfl, Nat.le_of_ble_eq_true rfl⟩ (pw_V (ci := 3) (q0 := 126) hK hN rfl cw_126 hP (hD.weaken (fun _ _ _ _ => trivial))) rfl hl.1 rfl (Nat.le_of_ble_eq_true rfl) ⟨Nat.zero_le _, Nat.zero_le _⟩ dX9_chooseWheels_102 (fun r927 er927 => ?_)
            subst er927
            refine lv_iload_n hx hb dX9_chooseWheels_105 rfl (lv_at hl 7 rfl) ?_
            refine lv_iload hx hb dX9_chooseWheels_106 (lv_at hl 0 rfl) ?_
            refine ca_v hP hD hS hA (fun hDc => run_V (mc := 0) (ms := 0) (As := [.int p0, .int v8_53]) (rest := []) S (s_X5_seat l D k a s925 sl 128 p0 v8_53 _ (by decide) hBs925  ) lkX9_308 ok_X5_seat ⟨rfl, rfl, Nat.le_of_ble_eq_true rfl, Nat.le_of_ble_eq_true rfl⟩ (pw_V (ci := 5) (q0 := 128) hK hN rfl cw_128 hP hDc) rfl hl.1 rfl (Nat.le_of_ble_eq_true rfl) ⟨Nat.zero_le _, Nat.zero_le _⟩ dX9_chooseWheels_108) (fun s928 H9 locs9 hs928 hP9 hD9 hS9 => ?_)
            clear hP hD hS
            have hS := hS9
            have hP := hP9
            have hD := hD9
            clear hP9 hD9 hS9
            obtain ⟨hBs928, gs928, fs928⟩ := hs928
            have hFs928 : FR [126, 158, 159, 129, 130, 131, 132, 133, 160, 135, 136, 137, 138, 139, 141, 142, 143, 144, 145, 147, 148, 149, 150, 151, 153, 154, 155, 156, 157, 161] st s928 := fr_ca hFs925 gs928 (sub_1 (List.mem_of_getElem? (i := 5) rfl) sub_0)
            refine lv_aload_n hx hb dX9_chooseWheels_111 rfl (lv_at hl 6 rfl) ?_
            refine va_get (D := D) (ci := 9) (v := .ref (a 126)) (C := RX9) (T := TX9) (N := 11) hx hb hT in_X9 hown hK hP 0 cw_0 rfl 8 (by decide) (hT _ t459) (fun _ h9 => h9) rfl dX9_chooseWheels_112 ?_
            refine lv_aload_n hx hb dX9_chooseWheels_115 rfl (lv_at hl 6 rfl) ?_
            refine va_get (D := D) (ci := 9) (v := .ref (a 17)) (C := RX9) (T := TX9) (N := 11) hx hb hT in_X9 hown hK hP 0 cw_0 rfl 2 (by decide) (hT _ t453) (fun _ h9 => h9) rfl dX9_chooseWheels_116 ?_
            refine va_get (D := D) (ci := 8) (v := .ref (a 18)) (C := RX8) (T := TX8) (N := 6) hx hb hT in_X8 hown hK hP 17 cw_17 rfl 0 (by decide) (hT _ t312) (fun _ h9 => h9) rfl dX9_chooseWheels_119 ?_
            refine ca_v hP hD hS hA (fun hDc => run_V (mc := 0) (ms := 0) (As := [.ref (a 18)]) (rest := []) S (s_X3_look l D k a s928 sl   _  hBs928  (eq_l (Eq.trans (congrFun (gs928 126 (nm_1 (by decide) nm_0)) 7) (Eq.trans (congrFun (gs925 126 (nm_1 (by decide) (nm_1 (by decide) (nm_1 (by decide) (nm_1 (by decide) (nm_1 (by decide) nm_0)))))) 7) qt53_0)) (⟨h12.1, h12.2⟩ : Iv 0 2 (s9 126 7)))) lkX9_297 ok_X3_look ⟨rfl, rfl, Nat.le_of_ble_eq_true rfl, Nat.le_of_ble_eq_true rfl⟩ (pw_V (ci := 3) (q0 := 126) hK hN rfl cw_126 hP hDc) rfl hl.1 rfl (Nat.le_of_ble_eq_true rfl) ⟨Nat.zero_le _, Nat.zero_le _⟩ dX9_chooseWheels_122) (fun s930 H9 locs9 hs930 hP9 hD9 hS9 => ?_)
            clear hP hD hS
            have hS := hS9
            have hP := hP9
            have hD := hD9
            clear hP9 hD9 hS9
            obtain ⟨hBs930, gs930, qs930_0, qs930_1, fs930⟩ := hs930
            have hFs930 : FR [126, 158, 159, 129, 130, 131, 132, 133, 160, 135, 136, 137, 138, 139, 141, 142, 143, 144, 145, 147, 148, 149, 150, 151, 153, 154, 155, 156, 157, 161] st s930 := fr_ca hFs928 gs930 (sub_1 (List.mem_of_getElem? (i := 0) rfl) (sub_1 (List.mem_of_getElem? (i := 8) rfl) (sub_1 (List.mem_of_getElem? (i := 9) rfl) (sub_1 (List.mem_of_getElem? (i := 10) rfl) (sub_1 (List.mem_of_getElem? (i := 11) rfl) (sub_1 (List.mem_of_getElem? (i := 12) rfl) (sub_1 (List.mem_of_getElem? (i := 13) rfl) (sub_1 (List.mem_of_getElem? (i := 14) rfl) (sub_1 (List.mem_of_getElem? (i := 15) rfl) (sub_1 (List.mem_of_getElem? (i := 16) rfl) (sub_1 (List.mem_of_getElem? (i := 17) rfl) (sub_1 (List.mem_of_getElem? (i := 18) rfl) (sub_1 (List.mem_of_getElem? (i := 19) rfl) (sub_1 (List.mem_of_getElem? (i := 20) rfl) (sub_1 (List.mem_of_getElem? (i := 21) rfl) (sub_1 (List.mem_of_getElem? (i := 22) rfl) (sub_1 (List.mem_of_getElem? (i := 23) rfl) (sub_1 (List.mem_of_getElem? (i := 24) rfl) (sub_1 (List.mem_of_getElem? (i := 25) rfl) (sub_1 (List.mem_of_getElem? (i := 26) rfl) (sub_1 (List.mem_of_getElem? (i := 27) rfl) (sub_1 (List.mem_of_getElem? (i := 28) rfl) (sub_1 (List.mem_of_getElem? (i := 29) rfl) sub_0)))))))))))))))))))))))
            refine lv_aload_n hx hb dX9_chooseWheels_125 rfl (lv_at hl 6 rfl) ?_
            refine va_get (D := D) (ci := 9) (v := .ref (a 126)) (C := RX9) (T := TX9) (N := 11) hx hb hT in_X9 hown hK hP 0 cw_0 rfl 8 (by decide) (hT _ t459) (fun _ h9 => h9) rfl dX9_chooseWheels_126 ?_
            refine va_get (D := D) (ci := 3) (v := .int (s930 126 6)) (C := RX3) (T := TX3) (N := 10) hx hb hT in_X3 hown hK hP 126 cw_126 rfl 6 (by decide) (hT _ t410) (fun _ h9 => h9) rfl dX9_chooseWheels_129 ?_
            refine lv_iload hx hb dX9_chooseWheels_132 (lv_at hl 1 rfl) ?_
            refine lv_icmp_ge (tgt := 150) hx hb dX9_chooseWheels_134 (by decide) (fun c932 => ?_) (fun c932 => ?_)
            · skip
              have n933 : v7_53.toInt ≤ (s930 126 6).toInt := (i_le c932)
              obtain ⟨z934, ez934⟩ : ∃ z9 : Int32, z9 = v8_53 + Int32.ofInt 1 := ⟨_, rfl⟩
              have h935 : Iv 2 256 z934 := iv_inc ez934 h910 (by decide) (by decide) (by decide) (by decide) (by decide) (by decide)
              refine lv_iinc (v := z934) (lv' := [(8, .int z934), (7, .int v7_53), (6, .int v6_53), (5, .int r7), (4, .int z5), (3, .int r1), (0, .ref (a 0)), (1, .int p0), (2, .int p1)]) hx hb dX9_chooseWheels_150 hl (k := 0) rfl ez934.symm (by decide) rfl (fun ls hl => ?_)
              refine lv_goto (tgt := 53) hx hb dX9_chooseWheels_153 (by decide) ?_
              exact ih53 z934 v7_53 v6_53 s930 _ _ _ (iv_mono (c := 1) (d := 256) h935 (by decide) (by decide)) iv7_53 iv6_53 hBs930 (fr_ca (fr_ca (fr_ca gt53 gs925 (sub_1 (List.mem_of_getElem? (i := 0) rfl) (sub_1 (List.mem_of_getElem? (i := 1) rfl) (sub_1 (List.mem_of_getElem? (i := 2) rfl) (sub_1 (List.mem_of_getElem? (i := 3) rfl) (sub_1 (List.mem_of_getElem? (i := 4) rfl) sub_0)))))) gs928 (sub_1 (List.mem_of_getElem? (i := 2) rfl) sub_0)) gs930 (sub_1 (List.mem_of_getElem? (i := 5) rfl) (sub_1 (List.mem_of_getElem? (i := 6) rfl) (sub_1 (List.mem_of_getElem? (i := 7) rfl) (sub_1 (List.mem_of_getElem? (i := 8) rfl) (sub_1 (List.mem_of_getElem? (i := 9) rfl) (sub_1 (List.mem_of_getElem? (i := 10) rfl) (sub_1 (List.mem_of_getElem? (i := 11) rfl) (sub_1 (List.mem_of_getElem? (i := 12) rfl) (sub_1 (List.mem_of_getElem? (i := 13) rfl) (sub_1 (List.mem_of_getElem? (i := 14) rfl) (sub_1 (List.mem_of_getElem? (i := 15) rfl) (sub_1 (List.mem_of_getElem? (i := 16) rfl) (sub_1 (List.mem_of_getElem? (i := 17) rfl) (sub_1 (List.mem_of_getElem? (i := 18) rfl) (sub_1 (List.mem_of_getElem? (i := 19) rfl) (sub_1 (List.mem_of_getElem? (i := 20) rfl) (sub_1 (List.mem_of_getElem? (i := 21) rfl) (sub_1 (List.mem_of_getElem? (i := 22) rfl) (sub_1 (List.mem_of_getElem? (i := 23) rfl) (sub_1 (List.mem_of_getElem? (i := 24) rfl) (sub_1 (List.mem_of_getElem? (i := 25) rfl) (sub_1 (List.mem_of_getElem? (i := 26) rfl) (sub_1 (List.mem_of_getElem? (i := 27) rfl) sub_0)))))))))))))))))))))))) (Eq.trans qs930_0 (Eq.trans (congrFun (gs928 126 (nm_1 (by decide) nm_0)) 7) (Eq.trans (congrFun (gs925 126 (nm_1 (by decide) (nm_1 (by decide) (nm_1 (by decide) (nm_1 (by decide) (nm_1 (by decide) nm_0)))))) 7) qt53_0))) (Eq.trans qs930_1 (Eq.trans (congrFun (gs928 126 (nm_1 (by decide) nm_0)) 8) (Eq.trans (congrFun (gs925 126 (nm_1 (by decide) (nm_1 (by decide) (nm_1 (by decide) (nm_1 (by decide) (nm_1 (by decide) nm_0)))))) 8) qt53_1))) hP hD hS (lv_sub hl [0, 1, 2, 3, 4, 5, 6, 7, 8] rfl) (fu_s (lo := 0) (ti_inc ez934 h910 (by decide) (by decide) (by decide) (by decide)) (by decide) hm53)
            · skip
              have n936 : (s930 126 6).toInt < v7_53.toInt := (i_nle c932)
              have h937 : Iv (-2147483648) 999999 (s930 126 6) := lt_l (iv_full (s930 126 6)) n936 iv7_53 (by decide)
              have h938 : Iv (-2147483647) 1000000 v7_53 := lt_r (iv_full (s930 126 6)) n936 iv7_53 (by decide)
              refine lv_aload_n hx hb dX9_chooseWheels_137 rfl (lv_at hl 6 rfl) ?_
              refine va_get (D := D) (ci := 9) (v := .ref (a 126)) (C := RX9) (T := TX9) (N := 11) hx hb hT in_X9 hown hK hP 0 cw_0 rfl 8 (by decide) (hT _ t459) (fun _ h9 => h9) rfl dX9_chooseWheels_138 ?_
              refine va_get (D := D) (ci := 3) (v := .int (s930 126 6)) (C := RX3) (T := TX3) (N := 10) hx hb hT in_X3 hown hK hP 126 cw_126 rfl 6 (by decide) (hT _ t410) (fun _ h9 => h9) rfl dX9_chooseWheels_141 ?_
              refine lv_istore (lv' := [(7, .int (s930 126 6)), (8, .int v8_53), (6, .int v6_53), (5, .int r7), (4, .int z5), (3, .int r1), (0, .ref (a 0)), (1, .int p0), (2, .int p1)]) hx hb dX9_chooseWheels_144 hl (by decide) rfl (fun ls hl => ?_)
              refine lv_iload hx hb dX9_chooseWheels_146 (lv_at hl 1 rfl) ?_
              refine lv_istore (lv' := [(6, .int v8_53), (7, .int (s930 126 6)), (8, .int v8_53), (5, .int r7), (4, .int z5), (3, .int r1), (0, .ref (a 0)), (1, .int p0), (2, .int p1)]) hx hb dX9_chooseWheels_148 hl (by decide) rfl (fun ls hl => ?_)
              obtain ⟨z939, ez939⟩ : ∃ z9 : Int32, z9 = v8_53 + Int32.ofInt 1 := ⟨_, rfl⟩
              have h940 : Iv 2 256 z939 := iv_inc ez939 h910 (by decide) (by decide) (by decide) (by decide) (by decide) (by decide)
              refine lv_iinc (v := z939) (lv' := [(8, .int z939), (6, .int v8_53), (7, .int (s930 126 6)), (5, .int r7), (4, .int z5), (3, .int r1), (0, .ref (a 0)), (1, .int p0), (2, .int p1)]) hx hb dX9_chooseWheels_150 hl (k := 2) rfl ez939.symm (by decide) rfl (fun ls hl => ?_)
              refine lv_goto (tgt := 53) hx hb dX9_chooseWheels_153 (by decide) ?_
              exact ih53 z939 (s930 126 6) v8_53 s930 _ _ _ (iv_mono (c := 1) (d := 256) h940 (by decide) (by decide)) (iv_mono (c := (-2147483648)) (d := 1000000) h937 (by decide) (by decide)) (iv_mono (c := (-1)) (d := 255) h910 (by decide) (by decide)) hBs930 (fr_ca (fr_ca (fr_ca gt53 gs925 (sub_1 (List.mem_of_getElem? (i := 0) rfl) (sub_1 (List.mem_of_getElem? (i := 1) rfl) (sub_1 (List.mem_of_getElem? (i := 2) rfl) (sub_1 (List.mem_of_getElem? (i := 3) rfl) (sub_1 (List.mem_of_getElem? (i := 4) rfl) sub_0)))))) gs928 (sub_1 (List.mem_of_getElem? (i := 2) rfl) sub_0)) gs930 (sub_1 (List.mem_of_getElem? (i := 5) rfl) (sub_1 (List.mem_of_getElem? (i := 6) rfl) (sub_1 (List.mem_of_getElem? (i := 7) rfl) (sub_1 (List.mem_of_getElem? (i := 8) rfl) (sub_1 (List.mem_of_getElem? (i := 9) rfl) (sub_1 (List.mem_of_getElem? (i := 10) rfl) (sub_1 (List.mem_of_getElem? (i := 11) rfl) (sub_1 (List.mem_of_getElem? (i := 12) rfl) (sub_1 (List.mem_of_getElem? (i := 13) rfl) (sub_1 (List.mem_of_getElem? (i := 14) rfl) (sub_1 (List.mem_of_getElem? (i := 15) rfl) (sub_1 (List.mem_of_getElem? (i := 16) rfl) (sub_1 (List.mem_of_getElem? (i := 17) rfl) (sub_1 (List.mem_of_getElem? (i := 18) rfl) (sub_1 (List.mem_of_getElem? (i := 19) rfl) (sub_1 (List.mem_of_getElem? (i := 20) rfl) (sub_1 (List.mem_of_getElem? (i := 21) rfl) (sub_1 (List.mem_of_getElem? (i := 22) rfl) (sub_1 (List.mem_of_getElem? (i := 23) rfl) (sub_1 (List.mem_of_getElem? (i := 24) rfl) (sub_1 (List.mem_of_getElem? (i := 25) rfl) (sub_1 (List.mem_of_getElem? (i := 26) rfl) (sub_1 (List.mem_of_getElem? (i := 27) rfl) sub_0)))))))))))))))))))))))) (Eq.trans qs930_0 (Eq.trans (congrFun (gs928 126 (nm_1 (by decide) nm_0)) 7) (Eq.trans (congrFun (gs925 126 (nm_1 (by decide) (nm_1 (by decide) (nm_1 (by decide) (nm_1 (by decide) (nm_1 (by decide) nm_0)))))) 7) qt53_0))) (Eq.trans qs930_1 (Eq.trans (congrFun (gs928 126 (nm_1 (by decide) nm_0)) 8) (Eq.trans (congrFun (gs925 126 (nm_1 (by decide) (nm_1 (by decide) (nm_1 (by decide) (nm_1 (by decide) (nm_1 (by decide) nm_0)))))) 8) qt53_1))) hP hD hS (lv_sub hl [0, 2, 1, 3, 4, 5, 6, 7, 8] rfl) (fu_s (lo := 0) (ti_inc ez939 h910 (by decide) (by decide) (by decide) (by decide)) (by decide) hm53)
  exact lp53 256 1 1000000 (-1) s9 _ _ _ (iv_mono (c := 1) (d := 256) (iv_c (by decide) : Iv 1 1 1) (by decide) (by decide)) (iv_mono (c := (-2147483648)) (d := 1000000) (iv_c (by decide) : Iv 1000000 1000000 1000000) (by decide) (by decide)) (iv_mono (c := (-1)) (d := 255) (iv_c (by decide) : Iv (-1) (-1) (-1)) (by decide) (by decide)) hBs9 fr_rf rfl rfl hP hD hS (lv_sub hl [0, 1, 2, 3, 4, 5, 6, 7, 8] rfl) (fu_i (iv_mono (c := 1) (d := 256) (iv_c (by decide) : Iv 1 1 1) (by decide) (by decide)) (by decide))
set_option maxHeartbeats 4000000 in
set_option maxRecDepth 100000 in
theorem s_X9_way (l : Launch) (D : va_G) (k : Nat → ClassId) (a : Nat → Nat) (st : CT) (sl : CL) (p0 : Int32) (p1 : Int32) (sz : Nat) (hB : CB st)  : Met l yX9_way (.code yX9_way cX9_way 3 (some .int) :: TB) (rmw 14 0 0) (va_Pc [.ref (a 0), .int p0, .int p1] (PW D k sz (CWS k a st sl))) (QI D (S := CT) (fun r u => CB u ∧ FR [126, 158, 159, 129, 130, 131, 132, 133, 160, 135, 136, 137, 138, 139, 141, 142, 143, 144, 145, 147, 148, 149, 150, 151, 153, 154, 155, 156, 157, 161] st u ∧ (Iv (-2147483648) 999999 r ∧ (True))) (fun u => CWS k a u sl) (fun _ => []) (CWS k a st sl) sz) 0 0 (va_A (CWS k a st sl) sz) := by
  refine Met.ofW (cc := cX9_way) (maxL := 3) (ret := (some .int)) (by decide) rfl ?_
  intro p e s m args below meth c s₁ B hml hv
  obtain ⟨rfl, hsz, hP, hK, hD0, hN⟩ := hv
  have hx := B.exec
  have hb := B.bytes
  have hr := B.returns
  have hT : ∀ w9 ∈ TB, w9.before ([.ref (a 0), .int p0, .int p1] : List Value).toArray s = true := fun w9 h => atoms_spec (ws := .code yX9_way cX9_way 3 (some .int) :: TB) B.pre w9 (List.mem_cons_of_mem _ h)
  have hown : s.vm.findClass RX9 = some m.cls := findClass_of_methodNamed B.named
  have S : CallFix p m c cX9_way 3 s _ TB RX9 := ⟨hx, hb, hml, hown, hT⟩
  subst hsz
  have hD := hD0.self (sz := s.heap.size)
  generalize hAe : va_A (CWS k a st sl) s.heap.size = A at hD ⊢
  have hA : ∀ q : Nat, s.heap.size ≤ q → A q := fun q h => by rw [← hAe]; exact Or.inr h
  have hS : va_S A s.heap s.heap [] := va_S.rf
  have hl := lv_entry ([.ref (a 0), .int p0, .int p1]) (n := 3) (Nat.le_of_ble_eq_true rfl)
  rw [lg_entry_eq]
  generalize (lg_sl ([.ref (a 0), .int p0, .int p1]) ++ List.replicate (3 - (lg_sl ([.ref (a 0), .int p0, .int p1])).length) Slot.unset).toArray = ls at hl ⊢
  have hl : lv_has ls 3 [(0, .ref (a 0)), (1, .int p0), (2, .int p1)] := hl
  refine nameQ (fun Q hQ => ?_)
  refine lv_aload_n hx hb dX9_way_0 rfl (lv_at hl 0 rfl) ?_
  refine va_get (D := D) (ci := 9) (v := .ref (a 17)) (C := RX9) (T := TX9) (N := 11) hx hb hT in_X9 hown hK hP 0 cw_0 rfl 2 (by decide) (hT _ t453) (fun _ h9 => h9) rfl dX9_way_1 ?_
  refine va_get (D := D) (ci := 8) (v := .ref (a 18)) (C := RX8) (T := TX8) (N := 6) hx hb hT in_X8 hown hK hP 17 cw_17 rfl 0 (by decide) (hT _ t312) (fun _ h9 => h9) rfl dX9_way_4 ?_
  refine lv_iload_n hx hb dX9_way_7 rfl (lv_at hl 1 rfl) ?_
  refine ro_V (As := [.int p0]) (rest := []) S (s_X1_isCart l D k a st sl  p0 _  hB  ) lkX9_147 ok_X1_isCart ⟨rfl, rfl, Nat.le_of_ble_eq_true rfl, Nat.le_of_ble_eq_true rfl⟩ (pw_V (ci := 1) (q0 := 18) hK hN rfl cw_18 hP (hD.weaken (fun _ _ _ _ => trivial))) rfl hl.1 rfl (Nat.le_of_ble_eq_true rfl) ⟨Nat.zero_le _, Nat.zero_le _⟩ dX9_way_8 (fun r1 er1 => ?_)
  rcases er1 with ⟨rfl, g9⟩ | ⟨rfl, g9⟩
  · skip
    have g2 := g9
    have h3 : Iv 0 2 p0 := g2.1
    refine lv_if_eq (tgt := 28) hx hb dX9_way_11 (by decide) (fun c4 => ?_) (fun c4 => ?_)
    · first | exact absurd c4 (by decide) | exact absurd (by decide) c4
    refine lv_aload_n hx hb dX9_way_14 rfl (lv_at hl 0 rfl) ?_
    refine va_get (D := D) (ci := 9) (v := .ref (a 17)) (C := RX9) (T := TX9) (N := 11) hx hb hT in_X9 hown hK hP 0 cw_0 rfl 2 (by decide) (hT _ t453) (fun _ h9 => h9) rfl dX9_way_15 ?_
    refine va_get (D := D) (ci := 8) (v := .ref (a 18)) (C := RX8) (T := TX8) (N := 6) hx hb hT in_X8 hown hK hP 17 cw_17 rfl 0 (by decide) (hT _ t312) (fun _ h9 => h9) rfl dX9_way_18 ?_
    refine lv_iload_n hx hb dX9_way_21 rfl (lv_at hl 2 rfl) ?_
    refine ro_V (As := [.int p1]) (rest := []) S (s_X1_isPlace l D k a st sl  p1 _  hB  ) lkX9_171 ok_X1_isPlace ⟨rfl, rfl, Nat.le_of_ble_eq_true rfl, Nat.le_of_ble_eq_true rfl⟩ (pw_V (ci := 1) (q0 := 18) hK hN rfl cw_18 hP (hD.weaken (fun _ _ _ _ => trivial))) rfl hl.1 rfl (Nat.le_of_ble_eq_true rfl) ⟨Nat.zero_le _, Nat.zero_le _⟩ dX9_way_22 (fun r5 er5 => ?_)
    rcases er5 with ⟨rfl, g9⟩ | ⟨rfl, g9⟩
    · skip
      have g6 := g9
      have h7 : Iv 0 5 p1 := g6.1
      refine lv_if_ne (tgt := 31) hx hb dX9_way_25 (by decide) (fun c8 => ?_) (fun c8 => ?_)
      rotate_left
      · first | exact absurd c8 (by decide) | exact absurd (by decide) c8
      refine lv_aload_n hx hb dX9_way_31 rfl (lv_at hl 0 rfl) ?_
      refine lv_iload_n hx hb dX9_way_32 rfl (lv_at hl 1 rfl) ?_
      refine lv_iload_n hx hb dX9_way_33 rfl (lv_at hl 2 rfl) ?_
      refine ca_i hP hD hS hA (fun hDc => run_V (mc := 0) (ms := 0) (As := [.int p0, .int p1]) (rest := []) S (s_X9_leastMiles l D k a st sl  p0 p1 _  hB h3 ) lkX9_264 ok_X9_leastMiles ⟨rfl, rfl, Nat.le_of_ble_eq_true rfl, Nat.le_of_ble_eq_true rfl⟩ (pw_V (ci := 9) (q0 := 0) hK hN rfl cw_0 hP hDc) rfl hl.1 rfl (Nat.le_of_ble_eq_true rfl) ⟨Nat.zero_le _, Nat.zero_le _⟩ dX9_way_34) (fun r10 s9 H9 locs9 hs9 hP9 hD9 hS9 => ?_)
      clear hP hD hS
      have hS := hS9
      have hP := hP9
      have hD := hD9
      clear hP9 hD9 hS9
      obtain ⟨hBs9, gs9, fs9⟩ := hs9
      have hFs9 : FR [126, 158, 159, 129, 130, 131, 132, 133, 160, 135, 136, 137, 138, 139, 141, 142, 143, 144, 145, 147, 148, 149, 150, 151, 153, 154, 155, 156, 157, 161] st s9 := fr_ca fr_rf gs9 (sub_1 (List.mem_of_getElem? (i := 0) rfl) (sub_1 (List.mem_of_getElem? (i := 1) rfl) (sub_1 (List.mem_of_getElem? (i := 2) rfl) (sub_1 (List.mem_of_getElem? (i := 3) rfl) (sub_1 (List.mem_of_getElem? (i := 4) rfl) (sub_1 (List.mem_of_getElem? (i := 5) rfl) (sub_1 (List.mem_of_getElem? (i := 6) rfl) (sub_1 (List.mem_of_getElem? (i := 7) rfl) (sub_1 (List.mem_of_getElem? (i := 8) rfl) (sub_1 (List.mem_of_getElem? (i := 9) rfl) (sub_1 (List.mem_of_getElem? (i := 10) rfl) (sub_1 (List.mem_of_getElem? (i := 11) rfl) (sub_1 (List.mem_of_getElem? (i := 12) rfl) (sub_1 (List.mem_of_getElem? (i := 13) rfl) (sub_1 (List.mem_of_getElem? (i := 14) rfl) (sub_1 (List.mem_of_getElem? (i := 15) rfl) (sub_1 (List.mem_of_getElem? (i := 16) rfl) (sub_1 (List.mem_of_getElem? (i := 17) rfl) (sub_1 (List.mem_of_getElem? (i := 18) rfl) (sub_1 (List.mem_of_getElem? (i := 19) rfl) (sub_1 (List.mem_of_getElem? (i := 20) rfl) (sub_1 (List.mem_of_getElem? (i := 21) rfl) (sub_1 (List.mem_of_getElem? (i := 22) rfl) (sub_1 (List.mem_of_getElem? (i := 23) rfl) (sub_1 (List.mem_of_getElem? (i := 24) rfl) (sub_1 (List.mem_of_getElem? (i := 25) rfl) (sub_1 (List.mem_of_getElem? (i := 26) rfl) (sub_1 (List.mem_of_getElem? (i := 27) rfl) (sub_1 (List.mem_of_getElem? (i := 28) rfl) (sub_1 (List.mem_of_getElem? (i := 29) rfl) sub_0))))))))))))))))))))))))))))))
      have h11 : Iv (-2147483648) 999999 r10 := fs9.1
      rw [hQ]
      exact W.iret (v := r10) hx hb hr (fun t ht hW => ⟨⟨r10, s9, rfl, ⟨hBs9, hFs9, ⟨h11, trivial⟩⟩, by rw [ht]; exact hP, va_K.moved hW.alike (hK.sub (tys' := []) [] rfl), by rw [hAe]; exact hD⟩, by rw [hAe]; exact hS.F ht⟩) hS.2.2 dX9_way_37
    · skip
      have g12 := g9
      refine lv_if_ne (tgt := 31) hx hb dX9_way_25 (by decide) (fun c13 => ?_) (fun c13 => ?_)
      · first | exact absurd c13 (by decide) | exact absurd (by decide) c13
      refine lv_bipush (v := (-2)) hx hb dX9_way_28 (by decide) ?_
      rw [hQ]
      exact W.iret (v := (-2)) hx hb hr (fun t ht hW => ⟨⟨(-2), st, rfl, ⟨hB, fr_rf, ⟨(iv_mono (c := (-2147483648)) (d := 999999) (iv_c (by decide) : Iv (-2) (-2) (-2)) (by decide) (by decide)), trivial⟩⟩, by rw [ht]; exact hP, va_K.moved hW.alike (hK.sub (tys' := []) [] rfl), by rw [hAe]; exact hD⟩, by rw [hAe]; exact hS.F ht⟩) hS.2.2 dX9_way_30
  · skip
    have g14 := g9
    refine lv_if_eq (tgt := 28) hx hb dX9_way_11 (by decide) (fun c15 => ?_) (fun c15 => ?_)
    rotate_left
    · first | exact absurd c15 (by decide) | exact absurd (by decide) c15
    refine lv_bipush (v := (-2)) hx hb dX9_way_28 (by decide) ?_
    rw [hQ]
    exact W.iret (v := (-2)) hx hb hr (fun t ht hW => ⟨⟨(-2), st, rfl, ⟨hB, fr_rf, ⟨(iv_mono (c := (-2147483648)) (d := 999999) (iv_c (by decide) : Iv (-2) (-2) (-2)) (by decide) (by decide)), trivial⟩⟩, by rw [ht]; exact hP, va_K.moved hW.alike (hK.sub (tys' := []) [] rfl), by rw [hAe]; exact hD⟩, by rw [hAe]; exact hS.F ht⟩) hS.2.2 dX9_way_30
set_option maxHeartbeats 4000000 in
set_option maxRecDepth 100000 in
theorem s_X9_wants (l : Launch) (D : va_G) (k : Nat → ClassId) (a : Nat → Nat) (st : CT) (sl : CL) (p0 : Int32) (p1 : Int32) (p2 : Int32) (sz : Nat) (hB : CB st)  : Met l yX9_wants (.code yX9_wants cX9_wants 4 (some .int) :: TB) (rmw 14 0 0) (va_Pc [.ref (a 0), .int p0, .int p1, .int p2] (PW D k sz (CWS k a st sl))) (QI D (S := CT) (fun r u => CB u ∧ FR [126, 158, 159, 129, 130, 131, 132, 133, 160, 135, 136, 137, 138, 139, 141, 142, 143, 144, 145, 147, 148, 149, 150, 151, 153, 154, 155, 156, 157, 161] st u ∧ ((True))) (fun u => CWS k a u sl) (fun _ => []) (CWS k a st sl) sz) 0 0 (va_A (CWS k a st sl) sz) := by
  refine Met.ofW (cc := cX9_wants) (maxL := 4) (ret := (some .int)) (by decide) rfl ?_
  intro p e s m args below meth c s₁ B hml hv
  obtain ⟨rfl, hsz, hP, hK, hD0, hN⟩ := hv
  have hx := B.exec
  have hb := B.bytes
  have hr := B.returns
  have hT : ∀ w9 ∈ TB, w9.before ([.ref (a 0), .int p0, .int p1, .int p2] : List Value).toArray s = true := fun w9 h => atoms_spec (ws := .code yX9_wants cX9_wants 4 (some .int) :: TB) B.pre w9 (List.mem_cons_of_mem _ h)
  have hown : s.vm.findClass RX9 = some m.cls := findClass_of_methodNamed B.named
  have S : CallFix p m c cX9_wants 4 s _ TB RX9 := ⟨hx, hb, hml, hown, hT⟩
  subst hsz
  have hD := hD0.self (sz := s.heap.size)
  generalize hAe : va_A (CWS k a st sl) s.heap.size = A at hD ⊢
  have hA : ∀ q : Nat, s.heap.size ≤ q → A q := fun q h => by rw [← hAe]; exact Or.inr h
  have hS : va_S A s.heap s.heap [] := va_S.rf
  have hl := lv_entry ([.ref (a 0), .int p0, .int p1, .int p2]) (n := 4) (Nat.le_of_ble_eq_true rfl)
  rw [lg_entry_eq]
  generalize (lg_sl ([.ref (a 0), .int p0, .int p1, .int p2]) ++ List.replicate (4 - (lg_sl ([.ref (a 0), .int p0, .int p1, .int p2])).length) Slot.unset).toArray = ls at hl ⊢
  have hl : lv_has ls 4 [(0, .ref (a 0)), (1, .int p0), (2, .int p1), (3, .int p2)] := hl
  refine nameQ (fun Q hQ => ?_)
  refine lv_aload_n hx hb dX9_wants_0 rfl (lv_at hl 0 rfl) ?_
  refine va_get (D := D) (ci := 9) (v := .ref (a 17)) (C := RX9) (T := TX9) (N := 11) hx hb hT in_X9 hown hK hP 0 cw_0 rfl 2 (by decide) (hT _ t453) (fun _ h9 => h9) rfl dX9_wants_1 ?_
  refine va_get (D := D) (ci := 8) (v := .ref (a 18)) (C := RX8) (T := TX8) (N := 6) hx hb hT in_X8 hown hK hP 17 cw_17 rfl 0 (by decide) (hT _ t312) (fun _ h9 => h9) rfl dX9_wants_4 ?_
  refine lv_iload_n hx hb dX9_wants_7 rfl (lv_at hl 1 rfl) ?_
  refine ro_V (As := [.int p0]) (rest := []) S (s_X1_isCart l D k a st sl  p0 _  hB  ) lkX9_147 ok_X1_isCart ⟨rfl, rfl, Nat.le_of_ble_eq_true rfl, Nat.le_of_ble_eq_true rfl⟩ (pw_V (ci := 1) (q0 := 18) hK hN rfl cw_18 hP (hD.weaken (fun _ _ _ _ => trivial))) rfl hl.1 rfl (Nat.le_of_ble_eq_true rfl) ⟨Nat.zero_le _, Nat.zero_le _⟩ dX9_wants_8 (fun r1 er1 => ?_)
  rcases er1 with ⟨rfl, g9⟩ | ⟨rfl, g9⟩
  · skip
    have g2 := g9
    have h3 : Iv 0 2 p0 := g2.1
    refine lv_if_eq (tgt := 28) hx hb dX9_wants_11 (by decide) (fun c4 => ?_) (fun c4 => ?_)
    · first | exact absurd c4 (by decide) | exact absurd (by decide) c4
    refine lv_aload_n hx hb dX9_wants_14 rfl (lv_at hl 0 rfl) ?_
    refine va_get (D := D) (ci := 9) (v := .ref (a 17)) (C := RX9) (T := TX9) (N := 11) hx hb hT in_X9 hown hK hP 0 cw_0 rfl 2 (by decide) (hT _ t453) (fun _ h9 => h9) rfl dX9_wants_15 ?_
    refine va_get (D := D) (ci := 8) (v := .ref (a 18)) (C := RX8) (T := TX8) (N := 6) hx hb hT in_X8 hown hK hP 17 cw_17 rfl 0 (by decide) (hT _ t312) (fun _ h9 => h9) rfl dX9_wants_18 ?_
    refine lv_iload_n hx hb dX9_wants_21 rfl (lv_at hl 2 rfl) ?_
    refine ro_V (As := [.int p1]) (rest := []) S (s_X1_isPlace l D k a st sl  p1 _  hB  ) lkX9_171 ok_X1_isPlace ⟨rfl, rfl, Nat.le_of_ble_eq_true rfl, Nat.le_of_ble_eq_true rfl⟩ (pw_V (ci := 1) (q0 := 18) hK hN rfl cw_18 hP (hD.weaken (fun _ _ _ _ => trivial))) rfl hl.1 rfl (Nat.le_of_ble_eq_true rfl) ⟨Nat.zero_le _, Nat.zero_le _⟩ dX9_wants_22 (fun r5 er5 => ?_)
    rcases er5 with ⟨rfl, g9⟩ | ⟨rfl, g9⟩
    · skip
      have g6 := g9
      have h7 : Iv 0 5 p1 := g6.1
      refine lv_if_ne (tgt := 31) hx hb dX9_wants_25 (by decide) (fun c8 => ?_) (fun c8 => ?_)
      rotate_left
      · first | exact absurd c8 (by decide) | exact absurd (by decide) c8
      refine lv_aload_n hx hb dX9_wants_31 rfl (lv_at hl 0 rfl) ?_
      refine lv_iload_n hx hb dX9_wants_32 rfl (lv_at hl 1 rfl) ?_
      refine lv_iload_n hx hb dX9_wants_33 rfl (lv_at hl 2 rfl) ?_
      refine ca_i hP hD hS hA (fun hDc => run_V (mc := 0) (ms := 0) (As := [.int p0, .int p1]) (rest := []) S (s_X9_leastMiles l D k a st sl  p0 p1 _  hB h3 ) lkX9_264 ok_X9_leastMiles ⟨rfl, rfl, Nat.le_of_ble_eq_true rfl, Nat.le_of_ble_eq_true rfl⟩ (pw_V (ci := 9) (q0 := 0) hK hN rfl cw_0 hP hDc) rfl hl.1 rfl (Nat.le_of_ble_eq_true rfl) ⟨Nat.zero_le _, Nat.zero_le _⟩ dX9_wants_34) (fun r10 s9 H9 locs9 hs9 hP9 hD9 hS9 => ?_)
      clear hP hD hS
      have hS := hS9
      have hP := hP9
      have hD := hD9
      clear hP9 hD9 hS9
      obtain ⟨hBs9, gs9, fs9⟩ := hs9
      have hFs9 : FR [126, 158, 159, 129, 130, 131, 132, 133, 160, 135, 136, 137, 138, 139, 141, 142, 143, 144, 145, 147, 148, 149, 150, 151, 153, 154, 155, 156, 157, 161] st s9 := fr_ca fr_rf gs9 (sub_1 (List.mem_of_getElem? (i := 0) rfl) (sub_1 (List.mem_of_getElem? (i := 1) rfl) (sub_1 (List.mem_of_getElem? (i := 2) rfl) (sub_1 (List.mem_of_getElem? (i := 3) rfl) (sub_1 (List.mem_of_getElem? (i := 4) rfl) (sub_1 (List.mem_of_getElem? (i := 5) rfl) (sub_1 (List.mem_of_getElem? (i := 6) rfl) (sub_1 (List.mem_of_getElem? (i := 7) rfl) (sub_1 (List.mem_of_getElem? (i := 8) rfl) (sub_1 (List.mem_of_getElem? (i := 9) rfl) (sub_1 (List.mem_of_getElem? (i := 10) rfl) (sub_1 (List.mem_of_getElem? (i := 11) rfl) (sub_1 (List.mem_of_getElem? (i := 12) rfl) (sub_1 (List.mem_of_getElem? (i := 13) rfl) (sub_1 (List.mem_of_getElem? (i := 14) rfl) (sub_1 (List.mem_of_getElem? (i := 15) rfl) (sub_1 (List.mem_of_getElem? (i := 16) rfl) (sub_1 (List.mem_of_getElem? (i := 17) rfl) (sub_1 (List.mem_of_getElem? (i := 18) rfl) (sub_1 (List.mem_of_getElem? (i := 19) rfl) (sub_1 (List.mem_of_getElem? (i := 20) rfl) (sub_1 (List.mem_of_getElem? (i := 21) rfl) (sub_1 (List.mem_of_getElem? (i := 22) rfl) (sub_1 (List.mem_of_getElem? (i := 23) rfl) (sub_1 (List.mem_of_getElem? (i := 24) rfl) (sub_1 (List.mem_of_getElem? (i := 25) rfl) (sub_1 (List.mem_of_getElem? (i := 26) rfl) (sub_1 (List.mem_of_getElem? (i := 27) rfl) (sub_1 (List.mem_of_getElem? (i := 28) rfl) (sub_1 (List.mem_of_getElem? (i := 29) rfl) sub_0))))))))))))))))))))))))))))))
      have h11 : Iv (-2147483648) 999999 r10 := fs9.1
      refine lv_iconst (v := (-1)) hx hb dX9_wants_37 (by decide) ?_
      refine lv_icmp_eq (tgt := 56) hx hb dX9_wants_38 (by decide) (fun c12 => ?_) (fun c12 => ?_)
      · skip
        have h13 : Iv (-1) (-1) r10 := eq_l c12 (iv_c (by decide) : Iv (-1) (-1) (-1))
        refine lv_iconst (v := (-1)) hx hb dX9_wants_56 (by decide) ?_
        rw [hQ]
        exact W.iret (v := (-1)) hx hb hr (fun t ht hW => ⟨⟨(-1), s9, rfl, ⟨hBs9, hFs9, trivial⟩, by rw [ht]; exact hP, va_K.moved hW.alike (hK.sub (tys' := []) [] rfl), by rw [hAe]; exact hD⟩, by rw [hAe]; exact hS.F ht⟩) hS.2.2 dX9_wants_57
      · skip
        refine lv_iload_n hx hb dX9_wants_41 rfl (lv_at hl 3 rfl) ?_
        refine lv_if_lt (tgt := 56) hx hb dX9_wants_42 (by decide) (fun c14 => ?_) (fun c14 => ?_)
        · skip
          have n15 : p2.toInt < (0 : Int32).toInt := (i_lt c14)
          have h16 : Iv (-2147483648) (-1) p2 := lt_l (iv_full p2) n15 (iv_c (by decide) : Iv 0 0 0) (by decide)
          refine lv_iconst (v := (-1)) hx hb dX9_wants_56 (by decide) ?_
          rw [hQ]
          exact W.iret (v := (-1)) hx hb hr (fun t ht hW => ⟨⟨(-1), s9, rfl, ⟨hBs9, hFs9, trivial⟩, by rw [ht]; exact hP, va_K.moved hW.alike (hK.sub (tys' := []) [] rfl), by rw [hAe]; exact hD⟩, by rw [hAe]; exact hS.F ht⟩) hS.2.2 dX9_wants_57
        · skip
          have n17 : (0 : Int32).toInt ≤ p2.toInt := (i_nlt c14)
          have h18 : Iv 0 2147483647 p2 := le_r (iv_c (by decide) : Iv 0 0 0) n17 (iv_full p2) (by decide)
          refine lv_iload_n hx hb dX9_wants_45 rfl (lv_at hl 3 rfl) ?_
          refine lv_aload_n hx hb dX9_wants_46 rfl (lv_at hl 0 rfl) ?_
          refine va_get (D := D) (ci := 9) (v := .ref (a 126)) (C := RX9) (T := TX9) (N := 11) hx hb hT in_X9 hown hK hP 0 cw_0 rfl 8 (by decide) (hT _ t459) (fun _ h9 => h9) rfl dX9_wants_47 ?_
          refine va_get (D := D) (ci := 3) (v := .int (s9 126 5)) (C := RX3) (T := TX3) (N := 10) hx hb hT in_X3 hown hK hP 126 cw_126 rfl 5 (by decide) (hT _ t408) (fun _ h9 => h9) rfl dX9_wants_50 ?_
          have h19 : Iv 0 4 (s9 126 5) := (rb_126_5 hBs9)
          refine lv_icmp_lt (tgt := 58) hx hb dX9_wants_53 (by decide) (fun c20 => ?_) (fun c20 => ?_)
          · skip
            have n21 : p2.toInt < (s9 126 5).toInt := (i_lt c20)
            have h22 : Iv 0 3 p2 := lt_l h18 n21 h19 (by decide)
            have h23 : Iv 1 4 (s9 126 5) := lt_r h18 n21 h19 (by decide)
            refine lv_aload_n hx hb dX9_wants_58 rfl (lv_at hl 0 rfl) ?_
            refine va_get (D := D) (ci := 9) (v := .ref (a 126)) (C := RX9) (T := TX9) (N := 11) hx hb hT in_X9 hown hK hP 0 cw_0 rfl 8 (by decide) (hT _ t459) (fun _ h9 => h9) rfl dX9_wants_59 ?_
            refine va_get (D := D) (ci := 3) (v := .ref (a 161)) (C := RX3) (T := TX3) (N := 10) hx hb hT in_X3 hown hK hP 126 cw_126 rfl 4 (by decide) (hT _ t406) (fun _ h9 => h9) rfl dX9_wants_62 ?_
            refine lv_iload_n hx hb dX9_wants_65 rfl (lv_at hl 3 rfl) ?_
            refine va_iald hx hb hK hP 161 0 cw_161 rfl (iv_in h22 (by decide) (by decide)) dX9_wants_66 ?_
            refine lv_topi (fun z24 ez24 => ?_)
            rw [hQ]
            exact W.iret (v := z24) hx hb hr (fun t ht hW => ⟨⟨z24, s9, rfl, ⟨hBs9, hFs9, trivial⟩, by rw [ht]; exact hP, va_K.moved hW.alike (hK.sub (tys' := []) [] rfl), by rw [hAe]; exact hD⟩, by rw [hAe]; exact hS.F ht⟩) hS.2.2 dX9_wants_67
          · skip
            have n25 : (s9 126 5).toInt ≤ p2.toInt := (i_nlt c20)
            refine lv_iconst (v := (-1)) hx hb dX9_wants_56 (by decide) ?_
            rw [hQ]
            exact W.iret (v := (-1)) hx hb hr (fun t ht hW => ⟨⟨(-1), s9, rfl, ⟨hBs9, hFs9, trivial⟩, by rw [ht]; exact hP, va_K.moved hW.alike (hK.sub (tys' := []) [] rfl), by rw [hAe]; exact hD⟩, by rw [hAe]; exact hS.F ht⟩) hS.2.2 dX9_wants_57
    · skip
      have g26 := g9
      refine lv_if_ne (tgt := 31) hx hb dX9_wants_25 (by decide) (fun c27 => ?_) (fun c27 => ?_)
      · first | exact absurd c27 (by decide) | exact absurd (by decide) c27
      refine lv_bipush (v := (-2)) hx hb dX9_wants_28 (by decide) ?_
      rw [hQ]
      exact W.iret (v := (-2)) hx hb hr (fun t ht hW => ⟨⟨(-2), st, rfl, ⟨hB, fr_rf, trivial⟩, by rw [ht]; exact hP, va_K.moved hW.alike (hK.sub (tys' := []) [] rfl), by rw [hAe]; exact hD⟩, by rw [hAe]; exact hS.F ht⟩) hS.2.2 dX9_wants_30
  · skip
    have g28 := g9
    refine lv_if_eq (tgt := 28) hx hb dX9_wants_11 (by decide) (fun c29 => ?_) (fun c29 => ?_)
    rotate_left
    · first | exact absurd c29 (by decide) | exact absurd (by decide) c29
    refine lv_bipush (v := (-2)) hx hb dX9_wants_28 (by decide) ?_
    rw [hQ]
    exact W.iret (v := (-2)) hx hb hr (fun t ht hW => ⟨⟨(-2), st, rfl, ⟨hB, fr_rf, trivial⟩, by rw [ht]; exact hP, va_K.moved hW.alike (hK.sub (tys' := []) [] rfl), by rw [hAe]; exact hD⟩, by rw [hAe]; exact hS.F ht⟩) hS.2.2 dX9_wants_30
set_option maxHeartbeats 4000000 in
set_option maxRecDepth 100000 in
theorem s_X9_reach (l : Launch) (D : va_G) (k : Nat → ClassId) (a : Nat → Nat) (st : CT) (sl : CL) (p0 : Int32) (sz : Nat) (hB : CB st)  : Met l yX9_reach (.code yX9_reach cX9_reach 4 (some .int) :: TB) (rmw 14 0 0) (va_Pc [.ref (a 0), .int p0] (PW D k sz (CWS k a st sl))) (QI D (S := CT) (fun r u => CB u ∧ FR [126, 158, 159, 129, 130, 131, 132, 133, 160, 135, 136, 137, 138, 139, 141, 142, 143, 144, 145, 147, 148, 149, 150, 151, 153, 154, 155, 156, 157, 161] st u ∧ (Iv (-2) 63 r ∧ (True))) (fun u => CWS k a u sl) (fun _ => []) (CWS k a st sl) sz) 0 0 (va_A (CWS k a st sl) sz) := by
  refine Met.ofW (cc := cX9_reach) (maxL := 4) (ret := (some .int)) (by decide) rfl ?_
  intro p e s m args below meth c s₁ B hml hv
  obtain ⟨rfl, hsz, hP, hK, hD0, hN⟩ := hv
  have hx := B.exec
  have hb := B.bytes
  have hr := B.returns
  have hT : ∀ w9 ∈ TB, w9.before ([.ref (a 0), .int p0] : List Value).toArray s = true := fun w9 h => atoms_spec (ws := .code yX9_reach cX9_reach 4 (some .int) :: TB) B.pre w9 (List.mem_cons_of_mem _ h)
  have hown : s.vm.findClass RX9 = some m.cls := findClass_of_methodNamed B.named
  have S : CallFix p m c cX9_reach 4 s _ TB RX9 := ⟨hx, hb, hml, hown, hT⟩
  subst hsz
  have hD := hD0.self (sz := s.heap.size)
  generalize hAe : va_A (CWS k a st sl) s.heap.size = A at hD ⊢
  have hA : ∀ q : Nat, s.heap.size ≤ q → A q := fun q h => by rw [← hAe]; exact Or.inr h
  have hS : va_S A s.heap s.heap [] := va_S.rf
  have hl := lv_entry ([.ref (a 0), .int p0]) (n := 4) (Nat.le_of_ble_eq_true rfl)
  rw [lg_entry_eq]
  generalize (lg_sl ([.ref (a 0), .int p0]) ++ List.replicate (4 - (lg_sl ([.ref (a 0), .int p0])).length) Slot.unset).toArray = ls at hl ⊢
  have hl : lv_has ls 4 [(0, .ref (a 0)), (1, .int p0)] := hl
  refine nameQ (fun Q hQ => ?_)
  refine lv_aload_n hx hb dX9_reach_0 rfl (lv_at hl 0 rfl) ?_
  refine va_get (D := D) (ci := 9) (v := .ref (a 17)) (C := RX9) (T := TX9) (N := 11) hx hb hT in_X9 hown hK hP 0 cw_0 rfl 2 (by decide) (hT _ t453) (fun _ h9 => h9) rfl dX9_reach_1 ?_
  refine va_get (D := D) (ci := 8) (v := .ref (a 18)) (C := RX8) (T := TX8) (N := 6) hx hb hT in_X8 hown hK hP 17 cw_17 rfl 0 (by decide) (hT _ t312) (fun _ h9 => h9) rfl dX9_reach_4 ?_
  refine lv_iload_n hx hb dX9_reach_7 rfl (lv_at hl 1 rfl) ?_
  refine ro_V (As := [.int p0]) (rest := []) S (s_X1_isCart l D k a st sl  p0 _  hB  ) lkX9_147 ok_X1_isCart ⟨rfl, rfl, Nat.le_of_ble_eq_true rfl, Nat.le_of_ble_eq_true rfl⟩ (pw_V (ci := 1) (q0 := 18) hK hN rfl cw_18 hP (hD.weaken (fun _ _ _ _ => trivial))) rfl hl.1 rfl (Nat.le_of_ble_eq_true rfl) ⟨Nat.zero_le _, Nat.zero_le _⟩ dX9_reach_8 (fun r1 er1 => ?_)
  rcases er1 with ⟨rfl, g9⟩ | ⟨rfl, g9⟩
  · skip
    have g2 := g9
    have h3 : Iv 0 2 p0 := g2.1
    refine lv_if_ne (tgt := 17) hx hb dX9_reach_11 (by decide) (fun c4 => ?_) (fun c4 => ?_)
    rotate_left
    · first | exact absurd c4 (by decide) | exact absurd (by decide) c4
    refine lv_iconst (v := 0) hx hb dX9_reach_17 (by decide) ?_
    refine lv_istore_n (lv' := [(2, .int 0), (0, .ref (a 0)), (1, .int p0)]) hx hb dX9_reach_18 rfl hl (by decide) rfl (fun ls hl => ?_)
    refine lv_iconst (v := 0) hx hb dX9_reach_19 (by decide) ?_
    refine lv_istore_n (lv' := [(3, .int 0), (2, .int 0), (0, .ref (a 0)), (1, .int p0)]) hx hb dX9_reach_20 rfl hl (by decide) rfl (fun ls hl => ?_)
    have lp21 : ∀ (n9_21 : Nat) (v3_21 : Int32) (v2_21 : Int32) (t21 : CT) (H9 : Heap) (locs9 : List Loc) (ls : Array Slot), Iv 0 6 v3_21 → Iv 0 63 v2_21 → CB t21 → FR [126, 158, 159, 129, 130, 131, 132, 133, 160, 135, 136, 137, 138, 139, 141, 142, 143, 144, 145, 147, 148, 149, 150, 151, 153, 154, 155, 156, 157, 161] st t21 → va_P D vwCl (CWS k a t21 sl) H9 → va_D A (CWS k a t21 sl) → va_S A s.heap H9 locs9 → lv_has ls 4 [(3, .int v3_21), (2, .int v2_21), (0, .ref (a 0)), (1, .int p0)] → (6 : Int) - v3_21.toInt < (n9_21 : Int) → W p l e (rmw 14 0 0) s m ([.ref (a 0), .int p0] : List Value).toArray below meth c H9 locs9 0 0 Q (F0 m 21 ls []) := by
      clear hl hP hD hS
      intro n9_21
      induction n9_21 with
      | zero =>
        intro v3_21 v2_21 t21 H9 locs9 ls iv3_21 iv2_21 hBt21 gt21 hP hD hS hl hm21
        exact (fu_0 iv3_21 hm21).elim
      | succ n9_21 ih21 =>
        intro v3_21 v2_21 t21 H9 locs9 ls iv3_21 iv2_21 hBt21 gt21 hP hD hS hl hm21
        have hFt21 : FR [126, 158, 159, 129, 130, 131, 132, 133, 160, 135, 136, 137, 138, 139, 141, 142, 143, 144, 145, 147, 148, 149, 150, 151, 153, 154, 155, 156, 157, 161] st t21 := fr_ca fr_rf gt21 (sub_1 (List.mem_of_getElem? (i := 0) rfl) (sub_1 (List.mem_of_getElem? (i := 1) rfl) (sub_1 (List.mem_of_getElem? (i := 2) rfl) (sub_1 (List.mem_of_getElem? (i := 3) rfl) (sub_1 (List.mem_of_getElem? (i := 4) rfl) (sub_1 (List.mem_of_getElem? (i := 5) rfl) (sub_1 (List.mem_of_getElem? (i := 6) rfl) (sub_1 (List.mem_of_getElem? (i := 7) rfl) (sub_1 (List.mem_of_getElem? (i := 8) rfl) (sub_1 (List.mem_of_getElem? (i := 9) rfl) (sub_1 (List.mem_of_getElem? (i := 10) rfl) (sub_1 (List.mem_of_getElem? (i := 11) rfl) (sub_1 (List.mem_of_getElem? (i := 12) rfl) (sub_1 (List.mem_of_getElem? (i := 13) rfl) (sub_1 (List.mem_of_getElem? (i := 14) rfl) (sub_1 (List.mem_of_getElem? (i := 15) rfl) (sub_1 (List.mem_of_getElem? (i := 16) rfl) (sub_1 (List.mem_of_getElem? (i := 17) rfl) (sub_1 (List.mem_of_getElem? (i := 18) rfl) (sub_1 (List.mem_of_getElem? (i := 19) rfl) (sub_1 (List.mem_of_getElem? (i := 20) rfl) (sub_1 (List.mem_of_getElem? (i := 21) rfl) (sub_1 (List.mem_of_getElem? (i := 22) rfl) (sub_1 (List.mem_of_getElem? (i := 23) rfl) (sub_1 (List.mem_of_getElem? (i := 24) rfl) (sub_1 (List.mem_of_getElem? (i := 25) rfl) (sub_1 (List.mem_of_getElem? (i := 26) rfl) (sub_1 (List.mem_of_getElem? (i := 27) rfl) (sub_1 (List.mem_of_getElem? (i := 28) rfl) (sub_1 (List.mem_of_getElem? (i := 29) rfl) sub_0))))))))))))))))))))))))))))))
        refine lv_iload_n hx hb dX9_reach_21 rfl (lv_at hl 0 rfl) ?_
        refine lv_aload_n hx hb dX9_reach_22 rfl (lv_at hl 2 rfl) ?_
        refine va_get (D := D) (ci := 9) (v := .ref (a 17)) (C := RX9) (T := TX9) (N := 11) hx hb hT in_X9 hown hK hP 0 cw_0 rfl 2 (by decide) (hT _ t453) (fun _ h9 => h9) rfl dX9_reach_23 ?_
        refine va_get (D := D) (ci := 8) (v := .ref (a 18)) (C := RX8) (T := TX8) (N := 6) hx hb hT in_X8 hown hK hP 17 cw_17 rfl 0 (by decide) (hT _ t312) (fun _ h9 => h9) rfl dX9_reach_26 ?_
        refine va_get (D := D) (ci := 1) (v := .int (t21 18 1)) (C := RX1) (T := TX1) (N := 14) hx hb hT in_X1 hown hK hP 18 cw_18 rfl 1 (by decide) (hT _ t201) (fun _ h9 => h9) rfl dX9_reach_29 ?_
        refine k_top (y := (st 18 1)) (congrFun (hFt21 18 (nm_1 (by decide) (nm_1 (by decide) (nm_1 (by decide) (nm_1 (by decide) (nm_1 (by decide) (nm_1 (by decide) (nm_1 (by decide) (nm_1 (by decide) (nm_1 (by decide) (nm_1 (by decide) (nm_1 (by decide) (nm_1 (by decide) (nm_1 (by decide) (nm_1 (by decide) (nm_1 (by decide) (nm_1 (by decide) (nm_1 (by decide) (nm_1 (by decide) (nm_1 (by decide) (nm_1 (by decide) (nm_1 (by decide) (nm_1 (by decide) (nm_1 (by decide) (nm_1 (by decide) (nm_1 (by decide) (nm_1 (by decide) (nm_1 (by decide) (nm_1 (by decide) (nm_1 (by decide) (nm_1 (by decide) nm_0))))))))))))))))))))))))))))))) 1) ?_
        have h138 : Iv 0 6 (st 18 1) := (rb_18_1 hB)
        refine lv_icmp_ge (tgt := 57) hx hb dX9_reach_32 (by decide) (fun c139 => ?_) (fun c139 => ?_)
        · skip
          have n140 : (st 18 1).toInt ≤ v3_21.toInt := (i_le c139)
          refine lv_iload_n hx hb dX9_reach_57 rfl (lv_at hl 1 rfl) ?_
          rw [hQ]
          exact W.iret (v := v2_21) hx hb hr (fun t ht hW => ⟨⟨v2_21, t21, rfl, ⟨hBt21, hFt21, ⟨(iv_mono (c := (-2)) (d := 63) iv2_21 (by decide) (by decide)), trivial⟩⟩, by rw [ht]; exact hP, va_K.moved hW.alike (hK.sub (tys' := []) [] rfl), by rw [hAe]; exact hD⟩, by rw [hAe]; exact hS.F ht⟩) hS.2.2 dX9_reach_58
        · skip
          have n141 : v3_21.toInt < (st 18 1).toInt := (i_nle c139)
          have h142 : Iv 0 5 v3_21 := lt_l iv3_21 n141 h138 (by decide)
          have h143 : Iv 1 6 (st 18 1) := lt_r iv3_21 n141 h138 (by decide)
          refine lv_aload_n hx hb dX9_reach_35 rfl (lv_at hl 2 rfl) ?_
          refine lv_iload_n hx hb dX9_reach_36 rfl (lv_at hl 3 rfl) ?_
          refine lv_iload_n hx hb dX9_reach_37 rfl (lv_at hl 0 rfl) ?_
          refine ca_i hP hD hS hA (fun hDc => run_V (mc := 0) (ms := 0) (As := [.int p0, .int v3_21]) (rest := []) S (s_X9_leastMiles l D k a t21 sl  p0 v3_21 _  hBt21 h3 ) lkX9_264 ok_X9_leastMiles ⟨rfl, rfl, Nat.le_of_ble_eq_true rfl, Nat.le_of_ble_eq_true rfl⟩ (pw_V (ci := 9) (q0 := 0) hK hN rfl cw_0 hP hDc) rfl hl.1 rfl (Nat.le_of_ble_eq_true rfl) ⟨Nat.zero_le _, Nat.zero_le _⟩ dX9_reach_38) (fun r145 s144 H9 locs9 hs144 hP9 hD9 hS9 => ?_)
          clear hP hD hS
          have hS := hS9
          have hP := hP9
          have hD := hD9
          clear hP9 hD9 hS9
          obtain ⟨hBs144, gs144, fs144⟩ := hs144
          have hFs144 : FR [126, 158, 159, 129, 130, 131, 132, 133, 160, 135, 136, 137, 138, 139, 141, 142, 143, 144, 145, 147, 148, 149, 150, 151, 153, 154, 155, 156, 157, 161] st s144 := fr_ca hFt21 gs144 (sub_1 (List.mem_of_getElem? (i := 0) rfl) (sub_1 (List.mem_of_getElem? (i := 1) rfl) (sub_1 (List.mem_of_getElem? (i := 2) rfl) (sub_1 (List.mem_of_getElem? (i := 3) rfl) (sub_1 (List.mem_of_getElem? (i := 4) rfl) (sub_1 (List.mem_of_getElem? (i := 5) rfl) (sub_1 (List.mem_of_getElem? (i := 6) rfl) (sub_1 (List.mem_of_getElem? (i := 7) rfl) (sub_1 (List.mem_of_getElem? (i := 8) rfl) (sub_1 (List.mem_of_getElem? (i := 9) rfl) (sub_1 (List.mem_of_getElem? (i := 10) rfl) (sub_1 (List.mem_of_getElem? (i := 11) rfl) (sub_1 (List.mem_of_getElem? (i := 12) rfl) (sub_1 (List.mem_of_getElem? (i := 13) rfl) (sub_1 (List.mem_of_getElem? (i := 14) rfl) (sub_1 (List.mem_of_getElem? (i := 15) rfl) (sub_1 (List.mem_of_getElem? (i := 16) rfl) (sub_1 (List.mem_of_getElem? (i := 17) rfl) (sub_1 (List.mem_of_getElem? (i := 18) rfl) (sub_1 (List.mem_of_getElem? (i := 19) rfl) (sub_1 (List.mem_of_getElem? (i := 20) rfl) (sub_1 (List.mem_of_getElem? (i := 21) rfl) (sub_1 (List.mem_of_getElem? (i := 22) rfl) (sub_1 (List.mem_of_getElem? (i := 23) rfl) (sub_1 (List.mem_of_getElem? (i := 24) rfl) (sub_1 (List.mem_of_getElem? (i := 25) rfl) (sub_1 (List.mem_of_getElem? (i := 26) rfl) (sub_1 (List.mem_of_getElem? (i := 27) rfl) (sub_1 (List.mem_of_getElem? (i := 28) rfl) (sub_1 (List.mem_of_getElem? (i := 29) rfl) sub_0))))))))))))))))))))))))))))))
          have h146 : Iv (-2147483648) 999999 r145 := fs144.1
          refine lv_iconst (v := (-1)) hx hb dX9_reach_41 (by decide) ?_
          refine lv_icmp_eq (tgt := 51) hx hb dX9_reach_42 (by decide) (fun c147 => ?_) (fun c147 => ?_)
          · skip
            have h148 : Iv (-1) (-1) r145 := eq_l c147 (iv_c (by decide) : Iv (-1) (-1) (-1))
            obtain ⟨z149, ez149⟩ : ∃ z9 : Int32, z9 = v3_21 + Int32.ofInt 1 := ⟨_, rfl⟩
            have h150 : Iv 1 6 z149 := iv_inc ez149 h142 (by decide) (by decide) (by decide) (by decide) (by decide) (by decide)
            refine lv_iinc (v := z149) (lv' := [(3, .int z149), (2, .int v2_21), (0, .ref (a 0)), (1, .int p0)]) hx hb dX9_reach_51 hl (k := 0) rfl ez149.symm (by decide) rfl (fun ls hl => ?_)
            refine lv_goto (tgt := 21) hx hb dX9_reach_54 (by decide) ?_
            exact ih21 z149 v2_21 s144 _ _ _ (iv_mono (c := 0) (d := 6) h150 (by decide) (by decide)) iv2_21 hBs144 (fr_ca gt21 gs144 (sub_1 (List.mem_of_getElem? (i := 0) rfl) (sub_1 (List.mem_of_getElem? (i := 1) rfl) (sub_1 (List.mem_of_getElem? (i := 2) rfl) (sub_1 (List.mem_of_getElem? (i := 3) rfl) (sub_1 (List.mem_of_getElem? (i := 4) rfl) (sub_1 (List.mem_of_getElem? (i := 5) rfl) (sub_1 (List.mem_of_getElem? (i := 6) rfl) (sub_1 (List.mem_of_getElem? (i := 7) rfl) (sub_1 (List.mem_of_getElem? (i := 8) rfl) (sub_1 (List.mem_of_getElem? (i := 9) rfl) (sub_1 (List.mem_of_getElem? (i := 10) rfl) (sub_1 (List.mem_of_getElem? (i := 11) rfl) (sub_1 (List.mem_of_getElem? (i := 12) rfl) (sub_1 (List.mem_of_getElem? (i := 13) rfl) (sub_1 (List.mem_of_getElem? (i := 14) rfl) (sub_1 (List.mem_of_getElem? (i := 15) rfl) (sub_1 (List.mem_of_getElem? (i := 16) rfl) (sub_1 (List.mem_of_getElem? (i := 17) rfl) (sub_1 (List.mem_of_getElem? (i := 18) rfl) (sub_1 (List.mem_of_getElem? (i := 19) rfl) (sub_1 (List.mem_of_getElem? (i := 20) rfl) (sub_1 (List.mem_of_getElem? (i := 21) rfl) (sub_1 (List.mem_of_getElem? (i := 22) rfl) (sub_1 (List.mem_of_getElem? (i := 23) rfl) (sub_1 (List.mem_of_getElem? (i := 24) rfl) (sub_1 (List.mem_of_getElem? (i := 25) rfl) (sub_1 (List.mem_of_getElem? (i := 26) rfl) (sub_1 (List.mem_of_getElem? (i := 27) rfl) (sub_1 (List.mem_of_getElem? (i := 28) rfl) (sub_1 (List.mem_of_getElem? (i := 29) rfl) sub_0))))))))))))))))))))))))))))))) hP hD hS (lv_sub hl [0, 1, 2, 3] rfl) (fu_s (lo := 0) (ti_inc ez149 h142 (by decide) (by decide) (by decide) (by decide)) (by decide) hm21)
          · skip
            refine lv_iload_n hx hb dX9_reach_45 rfl (lv_at hl 1 rfl) ?_
            refine lv_iconst (v := 1) hx hb dX9_reach_46 (by decide) ?_
            refine lv_iload_n hx hb dX9_reach_47 rfl (lv_at hl 0 rfl) ?_
            refine lv_ishl hx hb dX9_reach_48 ?_
            refine lv_topi (fun z151 ez151 => ?_)
            have h152 : Iv 1 32 z151 := iv_shl 5 ez151 h142 (by decide) (by decide) (by decide)
            refine lv_ior hx hb dX9_reach_49 ?_
            refine lv_topi (fun z153 ez153 => ?_)
            have h154 : Iv 0 63 z153 := iv_or 6 ez153 iv2_21 (iv_mono (c := 0) (d := 32) h152 (by decide) (by decide)) (by decide) (by decide) (by decide) (by decide)
            refine lv_istore_n (lv' := [(2, .int z153), (3, .int v3_21), (0, .ref (a 0)), (1, .int p0)]) hx hb dX9_reach_50 rfl hl (by decide) rfl (fun ls hl => ?_)
            obtain ⟨z155, ez155⟩ : ∃ z9 : Int32, z9 = v3_21 + Int32.ofInt 1 := ⟨_, rfl⟩
            have h156 : Iv 1 6 z155 := iv_inc ez155 h142 (by decide) (by decide) (by decide) (by decide) (by decide) (by decide)
            refine lv_iinc (v := z155) (lv' := [(3, .int z155), (2, .int z153), (0, .ref (a 0)), (1, .int p0)]) hx hb dX9_reach_51 hl (k := 1) rfl ez155.symm (by decide) rfl (fun ls hl => ?_)
            refine lv_goto (tgt := 21) hx hb dX9_reach_54 (by decide) ?_
            exact ih21 z155 z153 s144 _ _ _ (iv_mono (c := 0) (d := 6) h156 (by decide) (by decide)) h154 hBs144 (fr_ca gt21 gs144 (sub_1 (List.mem_of_getElem? (i := 0) rfl) (sub_1 (List.mem_of_getElem? (i := 1) rfl) (sub_1 (List.mem_of_getElem? (i := 2) rfl) (sub_1 (List.mem_of_getElem? (i := 3) rfl) (sub_1 (List.mem_of_getElem? (i := 4) rfl) (sub_1 (List.mem_of_getElem? (i := 5) rfl) (sub_1 (List.mem_of_getElem? (i := 6) rfl) (sub_1 (List.mem_of_getElem? (i := 7) rfl) (sub_1 (List.mem_of_getElem? (i := 8) rfl) (sub_1 (List.mem_of_getElem? (i := 9) rfl) (sub_1 (List.mem_of_getElem? (i := 10) rfl) (sub_1 (List.mem_of_getElem? (i := 11) rfl) (sub_1 (List.mem_of_getElem? (i := 12) rfl) (sub_1 (List.mem_of_getElem? (i := 13) rfl) (sub_1 (List.mem_of_getElem? (i := 14) rfl) (sub_1 (List.mem_of_getElem? (i := 15) rfl) (sub_1 (List.mem_of_getElem? (i := 16) rfl) (sub_1 (List.mem_of_getElem? (i := 17) rfl) (sub_1 (List.mem_of_getElem? (i := 18) rfl) (sub_1 (List.mem_of_getElem? (i := 19) rfl) (sub_1 (List.mem_of_getElem? (i := 20) rfl) (sub_1 (List.mem_of_getElem? (i := 21) rfl) (sub_1 (List.mem_of_getElem? (i := 22) rfl) (sub_1 (List.mem_of_getElem? (i := 23) rfl) (sub_1 (List.mem_of_getElem? (i := 24) rfl) (sub_1 (List.mem_of_getElem? (i := 25) rfl) (sub_1 (List.mem_of_getElem? (i := 26) rfl) (sub_1 (List.mem_of_getElem? (i := 27) rfl) (sub_1 (List.mem_of_getElem? (i := 28) rfl) (sub_1 (List.mem_of_getElem? (i := 29) rfl) sub_0))))))))))))))))))))))))))))))) hP hD hS (lv_sub hl [0, 1, 2, 3] rfl) (fu_s (lo := 0) (ti_inc ez155 h142 (by decide) (by decide) (by decide) (by decide)) (by decide) hm21)
    exact lp21 7 0 0 st _ _ _ (iv_mono (c := 0) (d := 6) (iv_c (by decide) : Iv 0 0 0) (by decide) (by decide)) (iv_mono (c := 0) (d := 63) (iv_c (by decide) : Iv 0 0 0) (by decide) (by decide)) hB fr_rf hP hD hS (lv_sub hl [0, 1, 2, 3] rfl) (fu_i (iv_mono (c := 0) (d := 6) (iv_c (by decide) : Iv 0 0 0) (by decide) (by decide)) (by decide))
  · skip
    have g157 := g9
    refine lv_if_ne (tgt := 17) hx hb dX9_reach_11 (by decide) (fun c158 => ?_) (fun c158 => ?_)
    · first | exact absurd c158 (by decide) | exact absurd (by decide) c158
    refine lv_bipush (v := (-2)) hx hb dX9_reach_14 (by decide) ?_
    rw [hQ]
    exact W.iret (v := (-2)) hx hb hr (fun t ht hW => ⟨⟨(-2), st, rfl, ⟨hB, fr_rf, ⟨(iv_mono (c := (-2)) (d := 63) (iv_c (by decide) : Iv (-2) (-2) (-2)) (by decide) (by decide)), trivial⟩⟩, by rw [ht]; exact hP, va_K.moved hW.alike (hK.sub (tys' := []) [] rfl), by rw [hAe]; exact hD⟩, by rw [hAe]; exact hS.F ht⟩) hS.2.2 dX9_reach_16
set_option maxHeartbeats 4000000 in
set_option maxRecDepth 100000 in
theorem s_X9_far (l : Launch) (D : va_G) (k : Nat → ClassId) (a : Nat → Nat) (st : CT) (sl : CL) (p0 : Int32) (p1 : Int32) (sz : Nat) (hB : CB st)  : Met l yX9_far (.code yX9_far cX9_far 3 (some .int) :: TB) (rmw 3 0 0) (va_Pc [.ref (a 0), .int p0, .int p1] (PW D k sz (CWS k a st sl))) (QI D (S := CT) (fun r u => CB u ∧ FR [126, 158, 159] st u ∧ u 126 9 = st 126 9 ∧ ((True))) (fun u => CWS k a u sl) (fun _ => []) (CWS k a st sl) sz) 0 0 (va_A (CWS k a st sl) sz) := by
  refine Met.ofW (cc := cX9_far) (maxL := 3) (ret := (some .int)) (by decide) rfl ?_
  intro p e s m args below meth c s₁ B hml hv
  obtain ⟨rfl, hsz, hP, hK, hD0, hN⟩ := hv
  have hx := B.exec
  have hb := B.bytes
  have hr := B.returns
  have hT : ∀ w9 ∈ TB, w9.before ([.ref (a 0), .int p0, .int p1] : List Value).toArray s = true := fun w9 h => atoms_spec (ws := .code yX9_far cX9_far 3 (some .int) :: TB) B.pre w9 (List.mem_cons_of_mem _ h)
  have hown : s.vm.findClass RX9 = some m.cls := findClass_of_methodNamed B.named
  have S : CallFix p m c cX9_far 3 s _ TB RX9 := ⟨hx, hb, hml, hown, hT⟩
  subst hsz
  have hD := hD0.self (sz := s.heap.size)
  generalize hAe : va_A (CWS k a st sl) s.heap.size = A at hD ⊢
  have hA : ∀ q : Nat, s.heap.size ≤ q → A q := fun q h => by rw [← hAe]; exact Or.inr h
  have hS : va_S A s.heap s.heap [] := va_S.rf
  have hl := lv_entry ([.ref (a 0), .int p0, .int p1]) (n := 3) (Nat.le_of_ble_eq_true rfl)
  rw [lg_entry_eq]
  generalize (lg_sl ([.ref (a 0), .int p0, .int p1]) ++ List.replicate (3 - (lg_sl ([.ref (a 0), .int p0, .int p1])).length) Slot.unset).toArray = ls at hl ⊢
  have hl : lv_has ls 3 [(0, .ref (a 0)), (1, .int p0), (2, .int p1)] := hl
  refine nameQ (fun Q hQ => ?_)
  refine lv_aload_n hx hb dX9_far_0 rfl (lv_at hl 0 rfl) ?_
  refine va_get (D := D) (ci := 9) (v := .ref (a 17)) (C := RX9) (T := TX9) (N := 11) hx hb hT in_X9 hown hK hP 0 cw_0 rfl 2 (by decide) (hT _ t453) (fun _ h9 => h9) rfl dX9_far_1 ?_
  refine va_get (D := D) (ci := 8) (v := .ref (a 18)) (C := RX8) (T := TX8) (N := 6) hx hb hT in_X8 hown hK hP 17 cw_17 rfl 0 (by decide) (hT _ t312) (fun _ h9 => h9) rfl dX9_far_4 ?_
  refine lv_iload_n hx hb dX9_far_7 rfl (lv_at hl 1 rfl) ?_
  refine ro_V (As := [.int p0]) (rest := []) S (s_X1_isPlace l D k a st sl  p0 _  hB  ) lkX9_171 ok_X1_isPlace ⟨rfl, rfl, Nat.le_of_ble_eq_true rfl, Nat.le_of_ble_eq_true rfl⟩ (pw_V (ci := 1) (q0 := 18) hK hN rfl cw_18 hP (hD.weaken (fun _ _ _ _ => trivial))) rfl hl.1 rfl (Nat.le_of_ble_eq_true rfl) ⟨Nat.zero_le _, Nat.zero_le _⟩ dX9_far_8 (fun r1 er1 => ?_)
  rcases er1 with ⟨rfl, g9⟩ | ⟨rfl, g9⟩
  · skip
    have g2 := g9
    have h3 : Iv 0 5 p0 := g2.1
    refine lv_if_eq (tgt := 28) hx hb dX9_far_11 (by decide) (fun c4 => ?_) (fun c4 => ?_)
    · first | exact absurd c4 (by decide) | exact absurd (by decide) c4
    refine lv_aload_n hx hb dX9_far_14 rfl (lv_at hl 0 rfl) ?_
    refine va_get (D := D) (ci := 9) (v := .ref (a 17)) (C := RX9) (T := TX9) (N := 11) hx hb hT in_X9 hown hK hP 0 cw_0 rfl 2 (by decide) (hT _ t453) (fun _ h9 => h9) rfl dX9_far_15 ?_
    refine va_get (D := D) (ci := 8) (v := .ref (a 18)) (C := RX8) (T := TX8) (N := 6) hx hb hT in_X8 hown hK hP 17 cw_17 rfl 0 (by decide) (hT _ t312) (fun _ h9 => h9) rfl dX9_far_18 ?_
    refine lv_iload_n hx hb dX9_far_21 rfl (lv_at hl 2 rfl) ?_
    refine ro_V (As := [.int p1]) (rest := []) S (s_X1_isPlace l D k a st sl  p1 _  hB  ) lkX9_171 ok_X1_isPlace ⟨rfl, rfl, Nat.le_of_ble_eq_true rfl, Nat.le_of_ble_eq_true rfl⟩ (pw_V (ci := 1) (q0 := 18) hK hN rfl cw_18 hP (hD.weaken (fun _ _ _ _ => trivial))) rfl hl.1 rfl (Nat.le_of_ble_eq_true rfl) ⟨Nat.zero_le _, Nat.zero_le _⟩ dX9_far_22 (fun r5 er5 => ?_)
    rcases er5 with ⟨rfl, g9⟩ | ⟨rfl, g9⟩
    · skip
      have g6 := g9
      have h7 : Iv 0 5 p1 := g6.1
      refine lv_if_ne (tgt := 31) hx hb dX9_far_25 (by decide) (fun c8 => ?_) (fun c8 => ?_)
      rotate_left
      · first | exact absurd c8 (by decide) | exact absurd (by decide) c8
      refine lv_aload_n hx hb dX9_far_31 rfl (lv_at hl 0 rfl) ?_
      refine va_get (D := D) (ci := 9) (v := .ref (a 126)) (C := RX9) (T := TX9) (N := 11) hx hb hT in_X9 hown hK hP 0 cw_0 rfl 8 (by decide) (hT _ t459) (fun _ h9 => h9) rfl dX9_far_32 ?_
      refine lv_aload_n hx hb dX9_far_35 rfl (lv_at hl 0 rfl) ?_
      refine va_get (D := D) (ci := 9) (v := .ref (a 17)) (C := RX9) (T := TX9) (N := 11) hx hb hT in_X9 hown hK hP 0 cw_0 rfl 2 (by decide) (hT _ t453) (fun _ h9 => h9) rfl dX9_far_36 ?_
      refine va_get (D := D) (ci := 8) (v := .ref (a 18)) (C := RX8) (T := TX8) (N := 6) hx hb hT in_X8 hown hK hP 17 cw_17 rfl 0 (by decide) (hT _ t312) (fun _ h9 => h9) rfl dX9_far_39 ?_
      refine lv_iconst (v := (-1)) hx hb dX9_far_42 (by decide) ?_
      refine lv_iload_n hx hb dX9_far_43 rfl (lv_at hl 2 rfl) ?_
      refine ca_v hP hD hS hA (fun hDc => run_V (mc := 0) (ms := 0) (As := [.ref (a 18), .int (-1), .int p1]) (rest := []) S (s_X3_aim l D k a st sl  (-1) p1 _  hB (iv_mono (c := (-1)) (d := 2) (iv_c (by decide) : Iv (-1) (-1) (-1)) (by decide) (by decide)) ) lkX9_276 ok_X3_aim ⟨rfl, rfl, Nat.le_of_ble_eq_true rfl, Nat.le_of_ble_eq_true rfl⟩ (pw_V (ci := 3) (q0 := 126) hK hN rfl cw_126 hP hDc) rfl hl.1 rfl (Nat.le_of_ble_eq_true rfl) ⟨Nat.zero_le _, Nat.zero_le _⟩ dX9_far_44) (fun s9 H9 locs9 hs9 hP9 hD9 hS9 => ?_)
      clear hP hD hS
      have hS := hS9
      have hP := hP9
      have hD := hD9
      clear hP9 hD9 hS9
      obtain ⟨hBs9, gs9, qs9_0, fs9⟩ := hs9
      have hFs9 : FR [126, 158, 159] st s9 := fr_ca fr_rf gs9 (sub_1 (List.mem_of_getElem? (i := 0) rfl) (sub_1 (List.mem_of_getElem? (i := 1) rfl) (sub_1 (List.mem_of_getElem? (i := 2) rfl) sub_0)))
      have k11 := fs9
      have h12 : Iv (-1) (-1) (s9 126 7) := (eq_l k11 (iv_c (by decide) : Iv (-1) (-1) (-1)))
      refine lv_aload_n hx hb dX9_far_47 rfl (lv_at hl 0 rfl) ?_
      refine va_get (D := D) (ci := 9) (v := .ref (a 126)) (C := RX9) (T := TX9) (N := 11) hx hb hT in_X9 hown hK hP 0 cw_0 rfl 8 (by decide) (hT _ t459) (fun _ h9 => h9) rfl dX9_far_48 ?_
      refine va_get (D := D) (ci := 3) (v := .ref (a 158)) (C := RX3) (T := TX3) (N := 10) hx hb hT in_X3 hown hK hP 126 cw_126 rfl 1 (by decide) (hT _ t402) (fun _ h9 => h9) rfl dX9_far_51 ?_
      refine lv_iload_n hx hb dX9_far_54 rfl (lv_at hl 1 rfl) ?_
      refine va_iald hx hb hK hP 158 0 cw_158 rfl (iv_in h3 (by decide) (by decide)) dX9_far_55 ?_
      refine lv_topi (fun z13 ez13 => ?_)
      refine lv_ldcw (v := 1000000) hx hb hown (hT _ t980) dX9_far_56 ?_
      refine lv_icmp_ge (tgt := 74) hx hb dX9_far_59 (by decide) (fun c14 => ?_) (fun c14 => ?_)
      · skip
        have n15 : (1000000 : Int32).toInt ≤ z13.toInt := (i_le c14)
        have h16 : Iv 1000000 2147483647 z13 := le_r (iv_c (by decide) : Iv 1000000 1000000 1000000) n15 (iv_full z13) (by decide)
        refine lv_iconst (v := (-1)) hx hb dX9_far_74 (by decide) ?_
        rw [hQ]
        exact W.iret (v := (-1)) hx hb hr (fun t ht hW => ⟨⟨(-1), s9, rfl, ⟨hBs9, hFs9, qs9_0, trivial⟩, by rw [ht]; exact hP, va_K.moved hW.alike (hK.sub (tys' := []) [] rfl), by rw [hAe]; exact hD⟩, by rw [hAe]; exact hS.F ht⟩) hS.2.2 dX9_far_75
      · skip
        have n17 : z13.toInt < (1000000 : Int32).toInt := (i_nle c14)
        have h18 : Iv (-2147483648) 999999 z13 := lt_l (iv_full z13) n17 (iv_c (by decide) : Iv 1000000 1000000 1000000) (by decide)
        refine lv_aload_n hx hb dX9_far_62 rfl (lv_at hl 0 rfl) ?_
        refine va_get (D := D) (ci := 9) (v := .ref (a 126)) (C := RX9) (T := TX9) (N := 11) hx hb hT in_X9 hown hK hP 0 cw_0 rfl 8 (by decide) (hT _ t459) (fun _ h9 => h9) rfl dX9_far_63 ?_
        refine va_get (D := D) (ci := 3) (v := .ref (a 158)) (C := RX3) (T := TX3) (N := 10) hx hb hT in_X3 hown hK hP 126 cw_126 rfl 1 (by decide) (hT _ t402) (fun _ h9 => h9) rfl dX9_far_66 ?_
        refine lv_iload_n hx hb dX9_far_69 rfl (lv_at hl 1 rfl) ?_
        refine va_iald hx hb hK hP 158 0 cw_158 rfl (iv_in h3 (by decide) (by decide)) dX9_far_70 ?_
        refine lv_topi (fun z19 ez19 => ?_)
        refine lv_goto (tgt := 75) hx hb dX9_far_71 (by decide) ?_
        rw [hQ]
        exact W.iret (v := z19) hx hb hr (fun t ht hW => ⟨⟨z19, s9, rfl, ⟨hBs9, hFs9, qs9_0, trivial⟩, by rw [ht]; exact hP, va_K.moved hW.alike (hK.sub (tys' := []) [] rfl), by rw [hAe]; exact hD⟩, by rw [hAe]; exact hS.F ht⟩) hS.2.2 dX9_far_75
    · skip
      have g20 := g9
      refine lv_if_ne (tgt := 31) hx hb dX9_far_25 (by decide) (fun c21 => ?_) (fun c21 => ?_)
      · first | exact absurd c21 (by decide) | exact absurd (by decide) c21
      refine lv_bipush (v := (-2)) hx hb dX9_far_28 (by decide) ?_
      rw [hQ]
      exact W.iret (v := (-2)) hx hb hr (fun t ht hW => ⟨⟨(-2), st, rfl, ⟨hB, fr_rf, rfl, trivial⟩, by rw [ht]; exact hP, va_K.moved hW.alike (hK.sub (tys' := []) [] rfl), by rw [hAe]; exact hD⟩, by rw [hAe]; exact hS.F ht⟩) hS.2.2 dX9_far_30
  · skip
    have g22 := g9
    refine lv_if_eq (tgt := 28) hx hb dX9_far_11 (by decide) (fun c23 => ?_) (fun c23 => ?_)
    rotate_left
    · first | exact absurd c23 (by decide) | exact absurd (by decide) c23
    refine lv_bipush (v := (-2)) hx hb dX9_far_28 (by decide) ?_
    rw [hQ]
    exact W.iret (v := (-2)) hx hb hr (fun t ht hW => ⟨⟨(-2), st, rfl, ⟨hB, fr_rf, rfl, trivial⟩, by rw [ht]; exact hP, va_K.moved hW.alike (hK.sub (tys' := []) [] rfl), by rw [hAe]; exact hD⟩, by rw [hAe]; exact hS.F ht⟩) hS.2.2 dX9_far_30
set_option maxHeartbeats 4000000 in
set_option maxRecDepth 100000 in
theorem s_X9_dues (l : Launch) (D : va_G) (k : Nat → ClassId) (a : Nat → Nat) (st : CT) (sl : CL) (sz : Nat) (hB : CB st)  : Met l yX9_dues (.code yX9_dues cX9_dues 4 (some .int) :: TB) (rmw 14 0 0) (va_Pc [.ref (a 0)] (PW D k sz (CWS k a st sl))) (QI D (S := CT) (fun r u => CB u ∧ FR [126, 158, 159, 129, 130, 131, 132, 133, 160, 135, 136, 137, 138, 139, 141, 142, 143, 144, 145, 147, 148, 149, 150, 151, 153, 154, 155, 156, 157, 161] st u ∧ (Iv (-2) 63 r ∧ (True))) (fun u => CWS k a u sl) (fun _ => []) (CWS k a st sl) sz) 0 0 (va_A (CWS k a st sl) sz) := by
  refine Met.ofW (cc := cX9_dues) (maxL := 4) (ret := (some .int)) (by decide) rfl ?_
  intro p e s m args below meth c s₁ B hml hv
  obtain ⟨rfl, hsz, hP, hK, hD0, hN⟩ := hv
  have hx := B.exec
  have hb := B.bytes
  have hr := B.returns
  have hT : ∀ w9 ∈ TB, w9.before ([.ref (a 0)] : List Value).toArray s = true := fun w9 h => atoms_spec (ws := .code yX9_dues cX9_dues 4 (some .int) :: TB) B.pre w9 (List.mem_cons_of_mem _ h)
  have hown : s.vm.findClass RX9 = some m.cls := findClass_of_methodNamed B.named
  have S : CallFix p m c cX9_dues 4 s _ TB RX9 := ⟨hx, hb, hml, hown, hT⟩
  subst hsz
  have hD := hD0.self (sz := s.heap.size)
  generalize hAe : va_A (CWS k a st sl) s.heap.size = A at hD ⊢
  have hA : ∀ q : Nat, s.heap.size ≤ q → A q := fun q h => by rw [← hAe]; exact Or.inr h
  have hS : va_S A s.heap s.heap [] := va_S.rf
  have hl := lv_entry ([.ref (a 0)]) (n := 4) (Nat.le_of_ble_eq_true rfl)
  rw [lg_entry_eq]
  generalize (lg_sl ([.ref (a 0)]) ++ List.replicate (4 - (lg_sl ([.ref (a 0)])).length) Slot.unset).toArray = ls at hl ⊢
  have hl : lv_has ls 4 [(0, .ref (a 0))] := hl
  refine nameQ (fun Q hQ => ?_)
  refine lv_aload_n hx hb dX9_dues_0 rfl (lv_at hl 0 rfl) ?_
  refine va_get (D := D) (ci := 9) (v := .ref (a 17)) (C := RX9) (T := TX9) (N := 11) hx hb hT in_X9 hown hK hP 0 cw_0 rfl 2 (by decide) (hT _ t453) (fun _ h9 => h9) rfl dX9_dues_1 ?_
  refine va_get (D := D) (ci := 8) (v := .ref (a 18)) (C := RX8) (T := TX8) (N := 6) hx hb hT in_X8 hown hK hP 17 cw_17 rfl 0 (by decide) (hT _ t312) (fun _ h9 => h9) rfl dX9_dues_4 ?_
  refine ro_V (As := []) (rest := []) S (s_X1_isTold l D k a st sl   _  hB  ) lkX9_211 ok_X1_isTold ⟨rfl, rfl, Nat.le_of_ble_eq_true rfl, Nat.le_of_ble_eq_true rfl⟩ (pw_V (ci := 1) (q0 := 18) hK hN rfl cw_18 hP (hD.weaken (fun _ _ _ _ => trivial))) rfl hl.1 rfl (Nat.le_of_ble_eq_true rfl) ⟨Nat.zero_le _, Nat.zero_le _⟩ dX9_dues_7 (fun r1 er1 => ?_)
  rcases er1 with ⟨rfl, g9⟩ | ⟨rfl, g9⟩
  · skip
    have g2 := g9
    refine lv_if_ne (tgt := 16) hx hb dX9_dues_10 (by decide) (fun c3 => ?_) (fun c3 => ?_)
    rotate_left
    · first | exact absurd c3 (by decide) | exact absurd (by decide) c3
    refine lv_iconst (v := 0) hx hb dX9_dues_16 (by decide) ?_
    refine lv_istore_n (lv' := [(1, .int 0), (0, .ref (a 0))]) hx hb dX9_dues_17 rfl hl (by decide) rfl (fun ls hl => ?_)
    refine lv_iconst (v := 0) hx hb dX9_dues_18 (by decide) ?_
    refine lv_istore_n (lv' := [(2, .int 0), (1, .int 0), (0, .ref (a 0))]) hx hb dX9_dues_19 rfl hl (by decide) rfl (fun ls hl => ?_)
    have lp20 : ∀ (n9_20 : Nat) (v2_20 : Int32) (v1_20 : Int32) (t20 : CT) (H9 : Heap) (locs9 : List Loc) (ls : Array Slot), Iv 0 6 v2_20 → Iv 0 63 v1_20 → CB t20 → FR [126, 158, 159, 129, 130, 131, 132, 133, 160, 135, 136, 137, 138, 139, 141, 142, 143, 144, 145, 147, 148, 149, 150, 151, 153, 154, 155, 156, 157, 161] st t20 → va_P D vwCl (CWS k a t20 sl) H9 → va_D A (CWS k a t20 sl) → va_S A s.heap H9 locs9 → lv_has ls 4 [(2, .int v2_20), (1, .int v1_20), (0, .ref (a 0))] → (6 : Int) - v2_20.toInt < (n9_20 : Int) → W p l e (rmw 14 0 0) s m ([.ref (a 0)] : List Value).toArray below meth c H9 locs9 0 0 Q (F0 m 20 ls []) := by
      clear hl hP hD hS
      intro n9_20
      induction n9_20 with
      | zero =>
        intro v2_20 v1_20 t20 H9 locs9 ls iv2_20 iv1_20 hBt20 gt20 hP hD hS hl hm20
        exact (fu_0 iv2_20 hm20).elim
      | succ n9_20 ih20 =>
        intro v2_20 v1_20 t20 H9 locs9 ls iv2_20 iv1_20 hBt20 gt20 hP hD hS hl hm20
        have hFt20 : FR [126, 158, 159, 129, 130, 131, 132, 133, 160, 135, 136, 137, 138, 139, 141, 142, 143, 144, 145, 147, 148, 149, 150, 151, 153, 154, 155, 156, 157, 161] st t20 := fr_ca fr_rf gt20 (sub_1 (List.mem_of_getElem? (i := 0) rfl) (sub_1 (List.mem_of_getElem? (i := 1) rfl) (sub_1 (List.mem_of_getElem? (i := 2) rfl) (sub_1 (List.mem_of_getElem? (i := 3) rfl) (sub_1 (List.mem_of_getElem? (i := 4) rfl) (sub_1 (List.mem_of_getElem? (i := 5) rfl) (sub_1 (List.mem_of_getElem? (i := 6) rfl) (sub_1 (List.mem_of_getElem? (i := 7) rfl) (sub_1 (List.mem_of_getElem? (i := 8) rfl) (sub_1 (List.mem_of_getElem? (i := 9) rfl) (sub_1 (List.mem_of_getElem? (i := 10) rfl) (sub_1 (List.mem_of_getElem? (i := 11) rfl) (sub_1 (List.mem_of_getElem? (i := 12) rfl) (sub_1 (List.mem_of_getElem? (i := 13) rfl) (sub_1 (List.mem_of_getElem? (i := 14) rfl) (sub_1 (List.mem_of_getElem? (i := 15) rfl) (sub_1 (List.mem_of_getElem? (i := 16) rfl) (sub_1 (List.mem_of_getElem? (i := 17) rfl) (sub_1 (List.mem_of_getElem? (i := 18) rfl) (sub_1 (List.mem_of_getElem? (i := 19) rfl) (sub_1 (List.mem_of_getElem? (i := 20) rfl) (sub_1 (List.mem_of_getElem? (i := 21) rfl) (sub_1 (List.mem_of_getElem? (i := 22) rfl) (sub_1 (List.mem_of_getElem? (i := 23) rfl) (sub_1 (List.mem_of_getElem? (i := 24) rfl) (sub_1 (List.mem_of_getElem? (i := 25) rfl) (sub_1 (List.mem_of_getElem? (i := 26) rfl) (sub_1 (List.mem_of_getElem? (i := 27) rfl) (sub_1 (List.mem_of_getElem? (i := 28) rfl) (sub_1 (List.mem_of_getElem? (i := 29) rfl) sub_0))))))))))))))))))))))))))))))
        refine lv_iload_n hx hb dX9_dues_20 rfl (lv_at hl 0 rfl) ?_
        refine lv_aload_n hx hb dX9_dues_21 rfl (lv_at hl 2 rfl) ?_
        refine va_get (D := D) (ci := 9) (v := .ref (a 17)) (C := RX9) (T := TX9) (N := 11) hx hb hT in_X9 hown hK hP 0 cw_0 rfl 2 (by decide) (hT _ t453) (fun _ h9 => h9) rfl dX9_dues_22 ?_
        refine va_get (D := D) (ci := 8) (v := .ref (a 18)) (C := RX8) (T := TX8) (N := 6) hx hb hT in_X8 hown hK hP 17 cw_17 rfl 0 (by decide) (hT _ t312) (fun _ h9 => h9) rfl dX9_dues_25 ?_
        refine va_get (D := D) (ci := 1) (v := .int (t20 18 6)) (C := RX1) (T := TX1) (N := 14) hx hb hT in_X1 hown hK hP 18 cw_18 rfl 6 (by decide) (hT _ t221) (fun _ h9 => h9) rfl dX9_dues_28 ?_
        refine k_top (y := (st 18 6)) (congrFun (hFt20 18 (nm_1 (by decide) (nm_1 (by decide) (nm_1 (by decide) (nm_1 (by decide) (nm_1 (by decide) (nm_1 (by decide) (nm_1 (by decide) (nm_1 (by decide) (nm_1 (by decide) (nm_1 (by decide) (nm_1 (by decide) (nm_1 (by decide) (nm_1 (by decide) (nm_1 (by decide) (nm_1 (by decide) (nm_1 (by decide) (nm_1 (by decide) (nm_1 (by decide) (nm_1 (by decide) (nm_1 (by decide) (nm_1 (by decide) (nm_1 (by decide) (nm_1 (by decide) (nm_1 (by decide) (nm_1 (by decide) (nm_1 (by decide) (nm_1 (by decide) (nm_1 (by decide) (nm_1 (by decide) (nm_1 (by decide) nm_0))))))))))))))))))))))))))))))) 6) ?_
        have h221 : Iv 0 6 (st 18 6) := (rb_18_6 hB)
        refine lv_icmp_ge (tgt := 96) hx hb dX9_dues_31 (by decide) (fun c222 => ?_) (fun c222 => ?_)
        · skip
          have n223 : (st 18 6).toInt ≤ v2_20.toInt := (i_le c222)
          refine lv_iload_n hx hb dX9_dues_96 rfl (lv_at hl 1 rfl) ?_
          rw [hQ]
          exact W.iret (v := v1_20) hx hb hr (fun t ht hW => ⟨⟨v1_20, t20, rfl, ⟨hBt20, hFt20, ⟨(iv_mono (c := (-2)) (d := 63) iv1_20 (by decide) (by decide)), trivial⟩⟩, by rw [ht]; exact hP, va_K.moved hW.alike (hK.sub (tys' := []) [] rfl), by rw [hAe]; exact hD⟩, by rw [hAe]; exact hS.F ht⟩) hS.2.2 dX9_dues_97
        · skip
          have n224 : v2_20.toInt < (st 18 6).toInt := (i_nle c222)
          have h225 : Iv 0 5 v2_20 := lt_l iv2_20 n224 h221 (by decide)
          have h226 : Iv 1 6 (st 18 6) := lt_r iv2_20 n224 h221 (by decide)
          refine lv_aload_n hx hb dX9_dues_34 rfl (lv_at hl 2 rfl) ?_
          refine lv_aload_n hx hb dX9_dues_35 rfl (lv_at hl 2 rfl) ?_
          refine va_get (D := D) (ci := 9) (v := .ref (a 17)) (C := RX9) (T := TX9) (N := 11) hx hb hT in_X9 hown hK hP 0 cw_0 rfl 2 (by decide) (hT _ t453) (fun _ h9 => h9) rfl dX9_dues_36 ?_
          refine va_get (D := D) (ci := 8) (v := .ref (a 18)) (C := RX8) (T := TX8) (N := 6) hx hb hT in_X8 hown hK hP 17 cw_17 rfl 0 (by decide) (hT _ t312) (fun _ h9 => h9) rfl dX9_dues_39 ?_
          refine va_get (D := D) (ci := 1) (v := .ref (a 22)) (C := RX1) (T := TX1) (N := 14) hx hb hT in_X1 hown hK hP 18 cw_18 rfl 10 (by decide) (hT _ t234) (fun _ h9 => h9) rfl dX9_dues_42 ?_
          refine lv_iload_n hx hb dX9_dues_45 rfl (lv_at hl 0 rfl) ?_
          refine va_iald hx hb hK hP 22 0 cw_22 rfl (iv_in h225 (by decide) (by decide)) dX9_dues_46 ?_
          refine lv_topi (fun z227 ez227 => ?_)
          have h228 : Iv 0 2 z227 := by rw [ez227]; exact (rb_22 hBt20 (vp_in_lt (iv_in h225 (by decide) (by decide))))
          refine lv_aload_n hx hb dX9_dues_47 rfl (lv_at hl 2 rfl) ?_
          refine va_get (D := D) (ci := 9) (v := .ref (a 17)) (C := RX9) (T := TX9) (N := 11) hx hb hT in_X9 hown hK hP 0 cw_0 rfl 2 (by decide) (hT _ t453) (fun _ h9 => h9) rfl dX9_dues_48 ?_
          refine va_get (D := D) (ci := 8) (v := .ref (a 18)) (C := RX8) (T := TX8) (N := 6) hx hb hT in_X8 hown hK hP 17 cw_17 rfl 0 (by decide) (hT _ t312) (fun _ h9 => h9) rfl dX9_dues_51 ?_
          refine va_get (D := D) (ci := 1) (v := .ref (a 23)) (C := RX1) (T := TX1) (N := 14) hx hb hT in_X1 hown hK hP 18 cw_18 rfl 11 (by decide) (hT _ t236) (fun _ h9 => h9) rfl dX9_dues_54 ?_
          refine lv_iload_n hx hb dX9_dues_57 rfl (lv_at hl 0 rfl) ?_
          refine va_iald hx hb hK hP 23 0 cw_23 rfl (iv_in h225 (by decide) (by decide)) dX9_dues_58 ?_
          refine lv_topi (fun z229 ez229 => ?_)
          have h230 : Iv 0 5 z229 := by rw [ez229]; exact (rb_23 hBt20 (vp_in_lt (iv_in h225 (by decide) (by decide))))
          refine ca_i hP hD hS hA (fun hDc => run_V (mc := 0) (ms := 0) (As := [.int z227, .int z229]) (rest := []) S (s_X9_leastMiles l D k a t20 sl  z227 z229 _  hBt20 h228 ) lkX9_264 ok_X9_leastMiles ⟨rfl, rfl, Nat.le_of_ble_eq_true rfl, Nat.le_of_ble_eq_true rfl⟩ (pw_V (ci := 9) (q0 := 0) hK hN rfl cw_0 hP hDc) rfl hl.1 rfl (Nat.le_of_ble_eq_true rfl) ⟨Nat.zero_le _, Nat.zero_le _⟩ dX9_dues_59) (fun r232 s231 H9 locs9 hs231 hP9 hD9 hS9 => ?_)
          clear hP hD hS
          have hS := hS9
          have hP := hP9
          have hD := hD9
          clear hP9 hD9 hS9
          obtain ⟨hBs231, gs231, fs231⟩ := hs231
          have hFs231 : FR [126, 158, 159, 129, 130, 131, 132, 133, 160, 135, 136, 137, 138, 139, 141, 142, 143, 144, 145, 147, 148, 149, 150, 151, 153, 154, 155, 156, 157, 161] st s231 := fr_ca hFt20 gs231 (sub_1 (List.mem_of_getElem? (i := 0) rfl) (sub_1 (List.mem_of_getElem? (i := 1) rfl) (sub_1 (List.mem_of_getElem? (i := 2) rfl) (sub_1 (List.mem_of_getElem? (i := 3) rfl) (sub_1 (List.mem_of_getElem? (i := 4) rfl) (sub_1 (List.mem_of_getElem? (i := 5) rfl) (sub_1 (List.mem_of_getElem? (i := 6) rfl) (sub_1 (List.mem_of_getElem? (i := 7) rfl) (sub_1 (List.mem_of_getElem? (i := 8) rfl) (sub_1 (List.mem_of_getElem? (i := 9) rfl) (sub_1 (List.mem_of_getElem? (i := 10) rfl) (sub_1 (List.mem_of_getElem? (i := 11) rfl) (sub_1 (List.mem_of_getElem? (i := 12) rfl) (sub_1 (List.mem_of_getElem? (i := 13) rfl) (sub_1 (List.mem_of_getElem? (i := 14) rfl) (sub_1 (List.mem_of_getElem? (i := 15) rfl) (sub_1 (List.mem_of_getElem? (i := 16) rfl) (sub_1 (List.mem_of_getElem? (i := 17) rfl) (sub_1 (List.mem_of_getElem? (i := 18) rfl) (sub_1 (List.mem_of_getElem? (i := 19) rfl) (sub_1 (List.mem_of_getElem? (i := 20) rfl) (sub_1 (List.mem_of_getElem? (i := 21) rfl) (sub_1 (List.mem_of_getElem? (i := 22) rfl) (sub_1 (List.mem_of_getElem? (i := 23) rfl) (sub_1 (List.mem_of_getElem? (i := 24) rfl) (sub_1 (List.mem_of_getElem? (i := 25) rfl) (sub_1 (List.mem_of_getElem? (i := 26) rfl) (sub_1 (List.mem_of_getElem? (i := 27) rfl) (sub_1 (List.mem_of_getElem? (i := 28) rfl) (sub_1 (List.mem_of_getElem? (i := 29) rfl) sub_0))))))))))))))))))))))))))))))
          have h233 : Iv (-2147483648) 999999 r232 := fs231.1
          refine lv_istore_n (lv' := [(3, .int r232), (2, .int v2_20), (1, .int v1_20), (0, .ref (a 0))]) hx hb dX9_dues_62 rfl hl (by decide) rfl (fun ls hl => ?_)
          refine lv_iload_n hx hb dX9_dues_63 rfl (lv_at hl 0 rfl) ?_
          refine lv_iconst (v := (-1)) hx hb dX9_dues_64 (by decide) ?_
          refine lv_icmp_eq (tgt := 90) hx hb dX9_dues_65 (by decide) (fun c234 => ?_) (fun c234 => ?_)
          · skip
            have h235 : Iv (-1) (-1) r232 := eq_l c234 (iv_c (by decide) : Iv (-1) (-1) (-1))
            obtain ⟨z236, ez236⟩ : ∃ z9 : Int32, z9 = v2_20 + Int32.ofInt 1 := ⟨_, rfl⟩
            have h237 : Iv 1 6 z236 := iv_inc ez236 h225 (by decide) (by decide) (by decide) (by decide) (by decide) (by decide)
            refine lv_iinc (v := z236) (lv' := [(2, .int z236), (3, .int r232), (1, .int v1_20), (0, .ref (a 0))]) hx hb dX9_dues_90 hl (k := 1) rfl ez236.symm (by decide) rfl (fun ls hl => ?_)
            refine lv_goto (tgt := 20) hx hb dX9_dues_93 (by decide) ?_
            exact ih20 z236 v1_20 s231 _ _ _ (iv_mono (c := 0) (d := 6) h237 (by decide) (by decide)) iv1_20 hBs231 (fr_ca gt20 gs231 (sub_1 (List.mem_of_getElem? (i := 0) rfl) (sub_1 (List.mem_of_getElem? (i := 1) rfl) (sub_1 (List.mem_of_getElem? (i := 2) rfl) (sub_1 (List.mem_of_getElem? (i := 3) rfl) (sub_1 (List.mem_of_getElem? (i := 4) rfl) (sub_1 (List.mem_of_getElem? (i := 5) rfl) (sub_1 (List.mem_of_getElem? (i := 6) rfl) (sub_1 (List.mem_of_getElem? (i := 7) rfl) (sub_1 (List.mem_of_getElem? (i := 8) rfl) (sub_1 (List.mem_of_getElem? (i := 9) rfl) (sub_1 (List.mem_of_getElem? (i := 10) rfl) (sub_1 (List.mem_of_getElem? (i := 11) rfl) (sub_1 (List.mem_of_getElem? (i := 12) rfl) (sub_1 (List.mem_of_getElem? (i := 13) rfl) (sub_1 (List.mem_of_getElem? (i := 14) rfl) (sub_1 (List.mem_of_getElem? (i := 15) rfl) (sub_1 (List.mem_of_getElem? (i := 16) rfl) (sub_1 (List.mem_of_getElem? (i := 17) rfl) (sub_1 (List.mem_of_getElem? (i := 18) rfl) (sub_1 (List.mem_of_getElem? (i := 19) rfl) (sub_1 (List.mem_of_getElem? (i := 20) rfl) (sub_1 (List.mem_of_getElem? (i := 21) rfl) (sub_1 (List.mem_of_getElem? (i := 22) rfl) (sub_1 (List.mem_of_getElem? (i := 23) rfl) (sub_1 (List.mem_of_getElem? (i := 24) rfl) (sub_1 (List.mem_of_getElem? (i := 25) rfl) (sub_1 (List.mem_of_getElem? (i := 26) rfl) (sub_1 (List.mem_of_getElem? (i := 27) rfl) (sub_1 (List.mem_of_getElem? (i := 28) rfl) (sub_1 (List.mem_of_getElem? (i := 29) rfl) sub_0))))))))))))))))))))))))))))))) hP hD hS (lv_sub hl [0, 2, 3] rfl) (fu_s (lo := 0) (ti_inc ez236 h225 (by decide) (by decide) (by decide) (by decide)) (by decide) hm20)
          · skip
            refine lv_iload_n hx hb dX9_dues_68 rfl (lv_at hl 0 rfl) ?_
            refine lv_aload_n hx hb dX9_dues_69 rfl (lv_at hl 3 rfl) ?_
            refine va_get (D := D) (ci := 9) (v := .ref (a 17)) (C := RX9) (T := TX9) (N := 11) hx hb hT in_X9 hown hK hP 0 cw_0 rfl 2 (by decide) (hT _ t453) (fun _ h9 => h9) rfl dX9_dues_70 ?_
            refine va_get (D := D) (ci := 8) (v := .ref (a 18)) (C := RX8) (T := TX8) (N := 6) hx hb hT in_X8 hown hK hP 17 cw_17 rfl 0 (by decide) (hT _ t312) (fun _ h9 => h9) rfl dX9_dues_73 ?_
            refine va_get (D := D) (ci := 1) (v := .ref (a 24)) (C := RX1) (T := TX1) (N := 14) hx hb hT in_X1 hown hK hP 18 cw_18 rfl 12 (by decide) (hT _ t238) (fun _ h9 => h9) rfl dX9_dues_76 ?_
            refine lv_iload_n hx hb dX9_dues_79 rfl (lv_at hl 1 rfl) ?_
            refine va_iald hx hb hK hP 24 0 cw_24 rfl (iv_in h225 (by decide) (by decide)) dX9_dues_80 ?_
            refine lv_topi (fun z238 ez238 => ?_)
            refine lv_icmp_gt (tgt := 90) hx hb dX9_dues_81 (by decide) (fun c239 => ?_) (fun c239 => ?_)
            · skip
              have n240 : z238.toInt < r232.toInt := (i_lt c239)
              have h241 : Iv (-2147483648) 999998 z238 := lt_l (iv_full z238) n240 h233 (by decide)
              have h242 : Iv (-2147483647) 999999 r232 := lt_r (iv_full z238) n240 h233 (by decide)
              obtain ⟨z243, ez243⟩ : ∃ z9 : Int32, z9 = v2_20 + Int32.ofInt 1 := ⟨_, rfl⟩
              have h244 : Iv 1 6 z243 := iv_inc ez243 h225 (by decide) (by decide) (by decide) (by decide) (by decide) (by decide)
              refine lv_iinc (v := z243) (lv' := [(2, .int z243), (3, .int r232), (1, .int v1_20), (0, .ref (a 0))]) hx hb dX9_dues_90 hl (k := 1) rfl ez243.symm (by decide) rfl (fun ls hl => ?_)
              refine lv_goto (tgt := 20) hx hb dX9_dues_93 (by decide) ?_
              exact ih20 z243 v1_20 s231 _ _ _ (iv_mono (c := 0) (d := 6) h244 (by decide) (by decide)) iv1_20 hBs231 (fr_ca gt20 gs231 (sub_1 (List.mem_of_getElem? (i := 0) rfl) (sub_1 (List.mem_of_getElem? (i := 1) rfl) (sub_1 (List.mem_of_getElem? (i := 2) rfl) (sub_1 (List.mem_of_getElem? (i := 3) rfl) (sub_1 (List.mem_of_getElem? (i := 4) rfl) (sub_1 (List.mem_of_getElem? (i := 5) rfl) (sub_1 (List.mem_of_getElem? (i := 6) rfl) (sub_1 (List.mem_of_getElem? (i := 7) rfl) (sub_1 (List.mem_of_getElem? (i := 8) rfl) (sub_1 (List.mem_of_getElem? (i := 9) rfl) (sub_1 (List.mem_of_getElem? (i := 10) rfl) (sub_1 (List.mem_of_getElem? (i := 11) rfl) (sub_1 (List.mem_of_getElem? (i := 12) rfl) (sub_1 (List.mem_of_getElem? (i := 13) rfl) (sub_1 (List.mem_of_getElem? (i := 14) rfl) (sub_1 (List.mem_of_getElem? (i := 15) rfl) (sub_1 (List.mem_of_getElem? (i := 16) rfl) (sub_1 (List.mem_of_getElem? (i := 17) rfl) (sub_1 (List.mem_of_getElem? (i := 18) rfl) (sub_1 (List.mem_of_getElem? (i := 19) rfl) (sub_1 (List.mem_of_getElem? (i := 20) rfl) (sub_1 (List.mem_of_getElem? (i := 21) rfl) (sub_1 (List.mem_of_getElem? (i := 22) rfl) (sub_1 (List.mem_of_getElem? (i := 23) rfl) (sub_1 (List.mem_of_getElem? (i := 24) rfl) (sub_1 (List.mem_of_getElem? (i := 25) rfl) (sub_1 (List.mem_of_getElem? (i := 26) rfl) (sub_1 (List.mem_of_getElem? (i := 27) rfl) (sub_1 (List.mem_of_getElem? (i := 28) rfl) (sub_1 (List.mem_of_getElem? (i := 29) rfl) sub_0))))))))))))))))))))))))))))))) hP hD hS (lv_sub hl [0, 2, 3] rfl) (fu_s (lo := 0) (ti_inc ez243 h225 (by decide) (by decide) (by decide) (by decide)) (by decide) hm20)
            · skip
              have n245 : r232.toInt ≤ z238.toInt := (i_nlt c239)
              refine lv_iload_n hx hb dX9_dues_84 rfl (lv_at hl 2 rfl) ?_
              refine lv_iconst (v := 1) hx hb dX9_dues_85 (by decide) ?_
              refine lv_iload_n hx hb dX9_dues_86 rfl (lv_at hl 1 rfl) ?_
              refine lv_ishl hx hb dX9_dues_87 ?_
              refine lv_topi (fun z246 ez246 => ?_)
              have h247 : Iv 1 32 z246 := iv_shl 5 ez246 h225 (by decide) (by decide) (by decide)
              refine lv_ior hx hb dX9_dues_88 ?_
              refine lv_topi (fun z248 ez248 => ?_)
              have h249 : Iv 0 63 z248 := iv_or 6 ez248 iv1_20 (iv_mono (c := 0) (d := 32) h247 (by decide) (by decide)) (by decide) (by decide) (by decide) (by decide)
              refine lv_istore_n (lv' := [(1, .int z248), (3, .int r232), (2, .int v2_20), (0, .ref (a 0))]) hx hb dX9_dues_89 rfl hl (by decide) rfl (fun ls hl => ?_)
              obtain ⟨z250, ez250⟩ : ∃ z9 : Int32, z9 = v2_20 + Int32.ofInt 1 := ⟨_, rfl⟩
              have h251 : Iv 1 6 z250 := iv_inc ez250 h225 (by decide) (by decide) (by decide) (by decide) (by decide) (by decide)
              refine lv_iinc (v := z250) (lv' := [(2, .int z250), (1, .int z248), (3, .int r232), (0, .ref (a 0))]) hx hb dX9_dues_90 hl (k := 2) rfl ez250.symm (by decide) rfl (fun ls hl => ?_)
              refine lv_goto (tgt := 20) hx hb dX9_dues_93 (by decide) ?_
              exact ih20 z250 z248 s231 _ _ _ (iv_mono (c := 0) (d := 6) h251 (by decide) (by decide)) h249 hBs231 (fr_ca gt20 gs231 (sub_1 (List.mem_of_getElem? (i := 0) rfl) (sub_1 (List.mem_of_getElem? (i := 1) rfl) (sub_1 (List.mem_of_getElem? (i := 2) rfl) (sub_1 (List.mem_of_getElem? (i := 3) rfl) (sub_1 (List.mem_of_getElem? (i := 4) rfl) (sub_1 (List.mem_of_getElem? (i := 5) rfl) (sub_1 (List.mem_of_getElem? (i := 6) rfl) (sub_1 (List.mem_of_getElem? (i := 7) rfl) (sub_1 (List.mem_of_getElem? (i := 8) rfl) (sub_1 (List.mem_of_getElem? (i := 9) rfl) (sub_1 (List.mem_of_getElem? (i := 10) rfl) (sub_1 (List.mem_of_getElem? (i := 11) rfl) (sub_1 (List.mem_of_getElem? (i := 12) rfl) (sub_1 (List.mem_of_getElem? (i := 13) rfl) (sub_1 (List.mem_of_getElem? (i := 14) rfl) (sub_1 (List.mem_of_getElem? (i := 15) rfl) (sub_1 (List.mem_of_getElem? (i := 16) rfl) (sub_1 (List.mem_of_getElem? (i := 17) rfl) (sub_1 (List.mem_of_getElem? (i := 18) rfl) (sub_1 (List.mem_of_getElem? (i := 19) rfl) (sub_1 (List.mem_of_getElem? (i := 20) rfl) (sub_1 (List.mem_of_getElem? (i := 21) rfl) (sub_1 (List.mem_of_getElem? (i := 22) rfl) (sub_1 (List.mem_of_getElem? (i := 23) rfl) (sub_1 (List.mem_of_getElem? (i := 24) rfl) (sub_1 (List.mem_of_getElem? (i := 25) rfl) (sub_1 (List.mem_of_getElem? (i := 26) rfl) (sub_1 (List.mem_of_getElem? (i := 27) rfl) (sub_1 (List.mem_of_getElem? (i := 28) rfl) (sub_1 (List.mem_of_getElem? (i := 29) rfl) sub_0))))))))))))))))))))))))))))))) hP hD hS (lv_sub hl [0, 1, 3] rfl) (fu_s (lo := 0) (ti_inc ez250 h225 (by decide) (by decide) (by decide) (by decide)) (by decide) hm20)
    exact lp20 7 0 0 st _ _ _ (iv_mono (c := 0) (d := 6) (iv_c (by decide) : Iv 0 0 0) (by decide) (by decide)) (iv_mono (c := 0) (d := 63) (iv_c (by decide) : Iv 0 0 0) (by decide) (by decide)) hB fr_rf hP hD hS (lv_sub hl [0, 1, 2] rfl) (fu_i (iv_mono (c := 0) (d := 6) (iv_c (by decide) : Iv 0 0 0) (by decide) (by decide)) (by decide))
  · skip
    have g252 := g9
    refine lv_if_ne (tgt := 16) hx hb dX9_dues_10 (by decide) (fun c253 => ?_) (fun c253 => ?_)
    · first | exact absurd c253 (by decide) | exact absurd (by decide) c253
    refine lv_bipush (v := (-2)) hx hb dX9_dues_13 (by decide) ?_
    rw [hQ]
    exact W.iret (v := (-2)) hx hb hr (fun t ht hW => ⟨⟨(-2), st, rfl, ⟨hB, fr_rf, ⟨(iv_mono (c := (-2)) (d := 63) (iv_c (by decide) : Iv (-2) (-2) (-2)) (by decide) (by decide)), trivial⟩⟩, by rw [ht]; exact hP, va_K.moved hW.alike (hK.sub (tys' := []) [] rfl), by rw [hAe]; exact hD⟩, by rw [hAe]; exact hS.F ht⟩) hS.2.2 dX9_dues_15
set_option maxHeartbeats 4000000 in
set_option maxRecDepth 100000 in
theorem s_X9_choose (l : Launch) (D : va_G) (k : Nat → ClassId) (a : Nat → Nat) (st : CT) (sl : CL) (p0 : Int32) (p1 : Int32) (sz : Nat) (hB : CB st)  : Met l yX9_choose (.code yX9_choose cX9_choose 3 (some .int) :: TB) (rmw 14 0 0) (va_Pc [.ref (a 0), .int p0, .int p1] (PW D k sz (CWS k a st sl))) (QI D (S := CT) (fun r u => CB u ∧ FR [126, 158, 159, 129, 130, 131, 132, 133, 160, 135, 136, 137, 138, 139, 141, 142, 143, 144, 145, 147, 148, 149, 150, 151, 153, 154, 155, 156, 157, 161] st u ∧ (Iv (-2147483648) 999999 r ∧ (True))) (fun u => CWS k a u sl) (fun _ => []) (CWS k a st sl) sz) 0 0 (va_A (CWS k a st sl) sz) := by
  refine Met.ofW (cc := cX9_choose) (maxL := 3) (ret := (some .int)) (by decide) rfl ?_
  intro p e s m args below meth c s₁ B hml hv
  obtain ⟨rfl, hsz, hP, hK, hD0, hN⟩ := hv
  have hx := B.exec
  have hb := B.bytes
  have hr := B.returns
  have hT : ∀ w9 ∈ TB, w9.before ([.ref (a 0), .int p0, .int p1] : List Value).toArray s = true := fun w9 h => atoms_spec (ws := .code yX9_choose cX9_choose 3 (some .int) :: TB) B.pre w9 (List.mem_cons_of_mem _ h)
  have hown : s.vm.findClass RX9 = some m.cls := findClass_of_methodNamed B.named
  have S : CallFix p m c cX9_choose 3 s _ TB RX9 := ⟨hx, hb, hml, hown, hT⟩
  subst hsz
  have hD := hD0.self (sz := s.heap.size)
  generalize hAe : va_A (CWS k a st sl) s.heap.size = A at hD ⊢
  have hA : ∀ q : Nat, s.heap.size ≤ q → A q := fun q h => by rw [← hAe]; exact Or.inr h
  have hS : va_S A s.heap s.heap [] := va_S.rf
  have hl := lv_entry ([.ref (a 0), .int p0, .int p1]) (n := 3) (Nat.le_of_ble_eq_true rfl)
  rw [lg_entry_eq]
  generalize (lg_sl ([.ref (a 0), .int p0, .int p1]) ++ List.replicate (3 - (lg_sl ([.ref (a 0), .int p0, .int p1])).length) Slot.unset).toArray = ls at hl ⊢
  have hl : lv_has ls 3 [(0, .ref (a 0)), (1, .int p0), (2, .int p1)] := hl
  refine nameQ (fun Q hQ => ?_)
  refine lv_aload_n hx hb dX9_choose_0 rfl (lv_at hl 0 rfl) ?_
  refine va_get (D := D) (ci := 9) (v := .ref (a 17)) (C := RX9) (T := TX9) (N := 11) hx hb hT in_X9 hown hK hP 0 cw_0 rfl 2 (by decide) (hT _ t453) (fun _ h9 => h9) rfl dX9_choose_1 ?_
  refine va_get (D := D) (ci := 8) (v := .ref (a 18)) (C := RX8) (T := TX8) (N := 6) hx hb hT in_X8 hown hK hP 17 cw_17 rfl 0 (by decide) (hT _ t312) (fun _ h9 => h9) rfl dX9_choose_4 ?_
  refine lv_iload_n hx hb dX9_choose_7 rfl (lv_at hl 1 rfl) ?_
  refine ro_V (As := [.int p0]) (rest := []) S (s_X1_isCart l D k a st sl  p0 _  hB  ) lkX9_147 ok_X1_isCart ⟨rfl, rfl, Nat.le_of_ble_eq_true rfl, Nat.le_of_ble_eq_true rfl⟩ (pw_V (ci := 1) (q0 := 18) hK hN rfl cw_18 hP (hD.weaken (fun _ _ _ _ => trivial))) rfl hl.1 rfl (Nat.le_of_ble_eq_true rfl) ⟨Nat.zero_le _, Nat.zero_le _⟩ dX9_choose_8 (fun r1 er1 => ?_)
  rcases er1 with ⟨rfl, g9⟩ | ⟨rfl, g9⟩
  · skip
    have g2 := g9
    have h3 : Iv 0 2 p0 := g2.1
    refine lv_if_eq (tgt := 28) hx hb dX9_choose_11 (by decide) (fun c4 => ?_) (fun c4 => ?_)
    · first | exact absurd c4 (by decide) | exact absurd (by decide) c4
    refine lv_aload_n hx hb dX9_choose_14 rfl (lv_at hl 0 rfl) ?_
    refine va_get (D := D) (ci := 9) (v := .ref (a 17)) (C := RX9) (T := TX9) (N := 11) hx hb hT in_X9 hown hK hP 0 cw_0 rfl 2 (by decide) (hT _ t453) (fun _ h9 => h9) rfl dX9_choose_15 ?_
    refine va_get (D := D) (ci := 8) (v := .ref (a 18)) (C := RX8) (T := TX8) (N := 6) hx hb hT in_X8 hown hK hP 17 cw_17 rfl 0 (by decide) (hT _ t312) (fun _ h9 => h9) rfl dX9_choose_18 ?_
    refine lv_iload_n hx hb dX9_choose_21 rfl (lv_at hl 2 rfl) ?_
    refine ro_V (As := [.int p1]) (rest := []) S (s_X1_isPlace l D k a st sl  p1 _  hB  ) lkX9_171 ok_X1_isPlace ⟨rfl, rfl, Nat.le_of_ble_eq_true rfl, Nat.le_of_ble_eq_true rfl⟩ (pw_V (ci := 1) (q0 := 18) hK hN rfl cw_18 hP (hD.weaken (fun _ _ _ _ => trivial))) rfl hl.1 rfl (Nat.le_of_ble_eq_true rfl) ⟨Nat.zero_le _, Nat.zero_le _⟩ dX9_choose_22 (fun r5 er5 => ?_)
    rcases er5 with ⟨rfl, g9⟩ | ⟨rfl, g9⟩
    · skip
      have g6 := g9
      have h7 : Iv 0 5 p1 := g6.1
      refine lv_if_ne (tgt := 31) hx hb dX9_choose_25 (by decide) (fun c8 => ?_) (fun c8 => ?_)
      rotate_left
      · first | exact absurd c8 (by decide) | exact absurd (by decide) c8
      refine lv_aload_n hx hb dX9_choose_31 rfl (lv_at hl 0 rfl) ?_
      refine lv_iload_n hx hb dX9_choose_32 rfl (lv_at hl 1 rfl) ?_
      refine lv_iload_n hx hb dX9_choose_33 rfl (lv_at hl 2 rfl) ?_
      refine ca_i hP hD hS hA (fun hDc => run_V (mc := 0) (ms := 0) (As := [.int p0, .int p1]) (rest := []) S (s_X9_chooseWheels l D k a st sl  p0 p1 _  hB h3 ) lkX9_287 ok_X9_chooseWheels ⟨rfl, rfl, Nat.le_of_ble_eq_true rfl, Nat.le_of_ble_eq_true rfl⟩ (pw_V (ci := 9) (q0 := 0) hK hN rfl cw_0 hP hDc) rfl hl.1 rfl (Nat.le_of_ble_eq_true rfl) ⟨Nat.zero_le _, Nat.zero_le _⟩ dX9_choose_34) (fun r10 s9 H9 locs9 hs9 hP9 hD9 hS9 => ?_)
      clear hP hD hS
      have hS := hS9
      have hP := hP9
      have hD := hD9
      clear hP9 hD9 hS9
      obtain ⟨hBs9, gs9, fs9⟩ := hs9
      have hFs9 : FR [126, 158, 159, 129, 130, 131, 132, 133, 160, 135, 136, 137, 138, 139, 141, 142, 143, 144, 145, 147, 148, 149, 150, 151, 153, 154, 155, 156, 157, 161] st s9 := fr_ca fr_rf gs9 (sub_1 (List.mem_of_getElem? (i := 0) rfl) (sub_1 (List.mem_of_getElem? (i := 1) rfl) (sub_1 (List.mem_of_getElem? (i := 2) rfl) (sub_1 (List.mem_of_getElem? (i := 3) rfl) (sub_1 (List.mem_of_getElem? (i := 4) rfl) (sub_1 (List.mem_of_getElem? (i := 5) rfl) (sub_1 (List.mem_of_getElem? (i := 6) rfl) (sub_1 (List.mem_of_getElem? (i := 7) rfl) (sub_1 (List.mem_of_getElem? (i := 8) rfl) (sub_1 (List.mem_of_getElem? (i := 9) rfl) (sub_1 (List.mem_of_getElem? (i := 10) rfl) (sub_1 (List.mem_of_getElem? (i := 11) rfl) (sub_1 (List.mem_of_getElem? (i := 12) rfl) (sub_1 (List.mem_of_getElem? (i := 13) rfl) (sub_1 (List.mem_of_getElem? (i := 14) rfl) (sub_1 (List.mem_of_getElem? (i := 15) rfl) (sub_1 (List.mem_of_getElem? (i := 16) rfl) (sub_1 (List.mem_of_getElem? (i := 17) rfl) (sub_1 (List.mem_of_getElem? (i := 18) rfl) (sub_1 (List.mem_of_getElem? (i := 19) rfl) (sub_1 (List.mem_of_getElem? (i := 20) rfl) (sub_1 (List.mem_of_getElem? (i := 21) rfl) (sub_1 (List.mem_of_getElem? (i := 22) rfl) (sub_1 (List.mem_of_getElem? (i := 23) rfl) (sub_1 (List.mem_of_getElem? (i := 24) rfl) (sub_1 (List.mem_of_getElem? (i := 25) rfl) (sub_1 (List.mem_of_getElem? (i := 26) rfl) (sub_1 (List.mem_of_getElem? (i := 27) rfl) (sub_1 (List.mem_of_getElem? (i := 28) rfl) (sub_1 (List.mem_of_getElem? (i := 29) rfl) sub_0))))))))))))))))))))))))))))))
      have h11 : Iv (-1) 255 r10 := fs9.1
      refine lv_pop hx hb dX9_choose_37 rfl ?_
      refine lv_aload_n hx hb dX9_choose_38 rfl (lv_at hl 0 rfl) ?_
      refine va_get (D := D) (ci := 9) (v := .ref (a 126)) (C := RX9) (T := TX9) (N := 11) hx hb hT in_X9 hown hK hP 0 cw_0 rfl 8 (by decide) (hT _ t459) (fun _ h9 => h9) rfl dX9_choose_39 ?_
      refine ro_V (As := []) (rest := []) S (s_X3_miles l D k a s9 sl   _  hBs9  ) lkX9_290 ok_X3_miles ⟨rfl, rfl, Nat.le_of_ble_eq_true rfl, Nat.le_of_ble_eq_true rfl⟩ (pw_V (ci := 3) (q0 := 126) hK hN rfl cw_126 hP (hD.weaken (fun _ _ _ _ => trivial))) rfl hl.1 rfl (Nat.le_of_ble_eq_true rfl) ⟨Nat.zero_le _, Nat.zero_le _⟩ dX9_choose_42 (fun r12 er12 => ?_)
      have h13 : Iv (-2147483648) 999999 r12 := er12.1
      rw [hQ]
      exact W.iret (v := r12) hx hb hr (fun t ht hW => ⟨⟨r12, s9, rfl, ⟨hBs9, hFs9, ⟨h13, trivial⟩⟩, by rw [ht]; exact hP, va_K.moved hW.alike (hK.sub (tys' := []) [] rfl), by rw [hAe]; exact hD⟩, by rw [hAe]; exact hS.F ht⟩) hS.2.2 dX9_choose_45
    · skip
      have g14 := g9
      refine lv_if_ne (tgt := 31) hx hb dX9_choose_25 (by decide) (fun c15 => ?_) (fun c15 => ?_)
      · first | exact absurd c15 (by decide) | exact absurd (by decide) c15
      refine lv_bipush (v := (-2)) hx hb dX9_choose_28 (by decide) ?_
      rw [hQ]
      exact W.iret (v := (-2)) hx hb hr (fun t ht hW => ⟨⟨(-2), st, rfl, ⟨hB, fr_rf, ⟨(iv_mono (c := (-2147483648)) (d := 999999) (iv_c (by decide) : Iv (-2) (-2) (-2)) (by decide) (by decide)), trivial⟩⟩, by rw [ht]; exact hP, va_K.moved hW.alike (hK.sub (tys' := []) [] rfl), by rw [hAe]; exact hD⟩, by rw [hAe]; exact hS.F ht⟩) hS.2.2 dX9_choose_30
  · skip
    have g16 := g9
    refine lv_if_eq (tgt := 28) hx hb dX9_choose_11 (by decide) (fun c17 => ?_) (fun c17 => ?_)
    rotate_left
    · first | exact absurd c17 (by decide) | exact absurd (by decide) c17
    refine lv_bipush (v := (-2)) hx hb dX9_choose_28 (by decide) ?_
    rw [hQ]
    exact W.iret (v := (-2)) hx hb hr (fun t ht hW => ⟨⟨(-2), st, rfl, ⟨hB, fr_rf, ⟨(iv_mono (c := (-2147483648)) (d := 999999) (iv_c (by decide) : Iv (-2) (-2) (-2)) (by decide) (by decide)), trivial⟩⟩, by rw [ht]; exact hP, va_K.moved hW.alike (hK.sub (tys' := []) [] rfl), by rw [hAe]; exact hD⟩, by rw [hAe]; exact hS.F ht⟩) hS.2.2 dX9_choose_30
set_option maxHeartbeats 4000000 in
set_option maxRecDepth 100000 in
theorem s_X9_chosen (l : Launch) (D : va_G) (k : Nat → ClassId) (a : Nat → Nat) (st : CT) (sl : CL) (p0 : Int32) (p1 : Int32) (sz : Nat) (hB : CB st)  : Met l yX9_chosen (.code yX9_chosen cX9_chosen 3 (some .int) :: TB) (rmw 14 0 0) (va_Pc [.ref (a 0), .int p0, .int p1] (PW D k sz (CWS k a st sl))) (QI D (S := CT) (fun r u => CB u ∧ FR [126, 158, 159, 129, 130, 131, 132, 133, 160, 135, 136, 137, 138, 139, 141, 142, 143, 144, 145, 147, 148, 149, 150, 151, 153, 154, 155, 156, 157, 161] st u ∧ (Iv (-2) 255 r ∧ (True))) (fun u => CWS k a u sl) (fun _ => []) (CWS k a st sl) sz) 0 0 (va_A (CWS k a st sl) sz) := by
  refine Met.ofW (cc := cX9_chosen) (maxL := 3) (ret := (some .int)) (by decide) rfl ?_
  intro p e s m args below meth c s₁ B hml hv
  obtain ⟨rfl, hsz, hP, hK, hD0, hN⟩ := hv
  have hx := B.exec
  have hb := B.bytes
  have hr := B.returns
  have hT : ∀ w9 ∈ TB, w9.before ([.ref (a 0), .int p0, .int p1] : List Value).toArray s = true := fun w9 h => atoms_spec (ws := .code yX9_chosen cX9_chosen 3 (some .int) :: TB) B.pre w9 (List.mem_cons_of_mem _ h)
  have hown : s.vm.findClass RX9 = some m.cls := findClass_of_methodNamed B.named
  have S : CallFix p m c cX9_chosen 3 s _ TB RX9 := ⟨hx, hb, hml, hown, hT⟩
  subst hsz
  have hD := hD0.self (sz := s.heap.size)
  generalize hAe : va_A (CWS k a st sl) s.heap.size = A at hD ⊢
  have hA : ∀ q : Nat, s.heap.size ≤ q → A q := fun q h => by rw [← hAe]; exact Or.inr h
  have hS : va_S A s.heap s.heap [] := va_S.rf
  have hl := lv_entry ([.ref (a 0), .int p0, .int p1]) (n := 3) (Nat.le_of_ble_eq_true rfl)
  rw [lg_entry_eq]
  generalize (lg_sl ([.ref (a 0), .int p0, .int p1]) ++ List.replicate (3 - (lg_sl ([.ref (a 0), .int p0, .int p1])).length) Slot.unset).toArray = ls at hl ⊢
  have hl : lv_has ls 3 [(0, .ref (a 0)), (1, .int p0), (2, .int p1)] := hl
  refine nameQ (fun Q hQ => ?_)
  refine lv_aload_n hx hb dX9_chosen_0 rfl (lv_at hl 0 rfl) ?_
  refine va_get (D := D) (ci := 9) (v := .ref (a 17)) (C := RX9) (T := TX9) (N := 11) hx hb hT in_X9 hown hK hP 0 cw_0 rfl 2 (by decide) (hT _ t453) (fun _ h9 => h9) rfl dX9_chosen_1 ?_
  refine va_get (D := D) (ci := 8) (v := .ref (a 18)) (C := RX8) (T := TX8) (N := 6) hx hb hT in_X8 hown hK hP 17 cw_17 rfl 0 (by decide) (hT _ t312) (fun _ h9 => h9) rfl dX9_chosen_4 ?_
  refine lv_iload_n hx hb dX9_chosen_7 rfl (lv_at hl 1 rfl) ?_
  refine ro_V (As := [.int p0]) (rest := []) S (s_X1_isCart l D k a st sl  p0 _  hB  ) lkX9_147 ok_X1_isCart ⟨rfl, rfl, Nat.le_of_ble_eq_true rfl, Nat.le_of_ble_eq_true rfl⟩ (pw_V (ci := 1) (q0 := 18) hK hN rfl cw_18 hP (hD.weaken (fun _ _ _ _ => trivial))) rfl hl.1 rfl (Nat.le_of_ble_eq_true rfl) ⟨Nat.zero_le _, Nat.zero_le _⟩ dX9_chosen_8 (fun r1 er1 => ?_)
  rcases er1 with ⟨rfl, g9⟩ | ⟨rfl, g9⟩
  · skip
    have g2 := g9
    have h3 : Iv 0 2 p0 := g2.1
    refine lv_if_eq (tgt := 28) hx hb dX9_chosen_11 (by decide) (fun c4 => ?_) (fun c4 => ?_)
    · first | exact absurd c4 (by decide) | exact absurd (by decide) c4
    refine lv_aload_n hx hb dX9_chosen_14 rfl (lv_at hl 0 rfl) ?_
    refine va_get (D := D) (ci := 9) (v := .ref (a 17)) (C := RX9) (T := TX9) (N := 11) hx hb hT in_X9 hown hK hP 0 cw_0 rfl 2 (by decide) (hT _ t453) (fun _ h9 => h9) rfl dX9_chosen_15 ?_
    refine va_get (D := D) (ci := 8) (v := .ref (a 18)) (C := RX8) (T := TX8) (N := 6) hx hb hT in_X8 hown hK hP 17 cw_17 rfl 0 (by decide) (hT _ t312) (fun _ h9 => h9) rfl dX9_chosen_18 ?_
    refine lv_iload_n hx hb dX9_chosen_21 rfl (lv_at hl 2 rfl) ?_
    refine ro_V (As := [.int p1]) (rest := []) S (s_X1_isPlace l D k a st sl  p1 _  hB  ) lkX9_171 ok_X1_isPlace ⟨rfl, rfl, Nat.le_of_ble_eq_true rfl, Nat.le_of_ble_eq_true rfl⟩ (pw_V (ci := 1) (q0 := 18) hK hN rfl cw_18 hP (hD.weaken (fun _ _ _ _ => trivial))) rfl hl.1 rfl (Nat.le_of_ble_eq_true rfl) ⟨Nat.zero_le _, Nat.zero_le _⟩ dX9_chosen_22 (fun r5 er5 => ?_)
    rcases er5 with ⟨rfl, g9⟩ | ⟨rfl, g9⟩
    · skip
      have g6 := g9
      have h7 : Iv 0 5 p1 := g6.1
      refine lv_if_ne (tgt := 31) hx hb dX9_chosen_25 (by decide) (fun c8 => ?_) (fun c8 => ?_)
      rotate_left
      · first | exact absurd c8 (by decide) | exact absurd (by decide) c8
      refine lv_aload_n hx hb dX9_chosen_31 rfl (lv_at hl 0 rfl) ?_
      refine lv_iload_n hx hb dX9_chosen_32 rfl (lv_at hl 1 rfl) ?_
      refine lv_iload_n hx hb dX9_chosen_33 rfl (lv_at hl 2 rfl) ?_
      refine ca_i hP hD hS hA (fun hDc => run_V (mc := 0) (ms := 0) (As := [.int p0, .int p1]) (rest := []) S (s_X9_chooseWheels l D k a st sl  p0 p1 _  hB h3 ) lkX9_287 ok_X9_chooseWheels ⟨rfl, rfl, Nat.le_of_ble_eq_true rfl, Nat.le_of_ble_eq_true rfl⟩ (pw_V (ci := 9) (q0 := 0) hK hN rfl cw_0 hP hDc) rfl hl.1 rfl (Nat.le_of_ble_eq_true rfl) ⟨Nat.zero_le _, Nat.zero_le _⟩ dX9_chosen_34) (fun r10 s9 H9 locs9 hs9 hP9 hD9 hS9 => ?_)
      clear hP hD hS
      have hS := hS9
      have hP := hP9
      have hD := hD9
      clear hP9 hD9 hS9
      obtain ⟨hBs9, gs9, fs9⟩ := hs9
      have hFs9 : FR [126, 158, 159, 129, 130, 131, 132, 133, 160, 135, 136, 137, 138, 139, 141, 142, 143, 144, 145, 147, 148, 149, 150, 151, 153, 154, 155, 156, 157, 161] st s9 := fr_ca fr_rf gs9 (sub_1 (List.mem_of_getElem? (i := 0) rfl) (sub_1 (List.mem_of_getElem? (i := 1) rfl) (sub_1 (List.mem_of_getElem? (i := 2) rfl) (sub_1 (List.mem_of_getElem? (i := 3) rfl) (sub_1 (List.mem_of_getElem? (i := 4) rfl) (sub_1 (List.mem_of_getElem? (i := 5) rfl) (sub_1 (List.mem_of_getElem? (i := 6) rfl) (sub_1 (List.mem_of_getElem? (i := 7) rfl) (sub_1 (List.mem_of_getElem? (i := 8) rfl) (sub_1 (List.mem_of_getElem? (i := 9) rfl) (sub_1 (List.mem_of_getElem? (i := 10) rfl) (sub_1 (List.mem_of_getElem? (i := 11) rfl) (sub_1 (List.mem_of_getElem? (i := 12) rfl) (sub_1 (List.mem_of_getElem? (i := 13) rfl) (sub_1 (List.mem_of_getElem? (i := 14) rfl) (sub_1 (List.mem_of_getElem? (i := 15) rfl) (sub_1 (List.mem_of_getElem? (i := 16) rfl) (sub_1 (List.mem_of_getElem? (i := 17) rfl) (sub_1 (List.mem_of_getElem? (i := 18) rfl) (sub_1 (List.mem_of_getElem? (i := 19) rfl) (sub_1 (List.mem_of_getElem? (i := 20) rfl) (sub_1 (List.mem_of_getElem? (i := 21) rfl) (sub_1 (List.mem_of_getElem? (i := 22) rfl) (sub_1 (List.mem_of_getElem? (i := 23) rfl) (sub_1 (List.mem_of_getElem? (i := 24) rfl) (sub_1 (List.mem_of_getElem? (i := 25) rfl) (sub_1 (List.mem_of_getElem? (i := 26) rfl) (sub_1 (List.mem_of_getElem? (i := 27) rfl) (sub_1 (List.mem_of_getElem? (i := 28) rfl) (sub_1 (List.mem_of_getElem? (i := 29) rfl) sub_0))))))))))))))))))))))))))))))
      have h11 : Iv (-1) 255 r10 := fs9.1
      rw [hQ]
      exact W.iret (v := r10) hx hb hr (fun t ht hW => ⟨⟨r10, s9, rfl, ⟨hBs9, hFs9, ⟨(iv_mono (c := (-2)) (d := 255) h11 (by decide) (by decide)), trivial⟩⟩, by rw [ht]; exact hP, va_K.moved hW.alike (hK.sub (tys' := []) [] rfl), by rw [hAe]; exact hD⟩, by rw [hAe]; exact hS.F ht⟩) hS.2.2 dX9_chosen_37
    · skip
      have g12 := g9
      refine lv_if_ne (tgt := 31) hx hb dX9_chosen_25 (by decide) (fun c13 => ?_) (fun c13 => ?_)
      · first | exact absurd c13 (by decide) | exact absurd (by decide) c13
      refine lv_bipush (v := (-2)) hx hb dX9_chosen_28 (by decide) ?_
      rw [hQ]
      exact W.iret (v := (-2)) hx hb hr (fun t ht hW => ⟨⟨(-2), st, rfl, ⟨hB, fr_rf, ⟨(iv_mono (c := (-2)) (d := 255) (iv_c (by decide) : Iv (-2) (-2) (-2)) (by decide) (by decide)), trivial⟩⟩, by rw [ht]; exact hP, va_K.moved hW.alike (hK.sub (tys' := []) [] rfl), by rw [hAe]; exact hD⟩, by rw [hAe]; exact hS.F ht⟩) hS.2.2 dX9_chosen_30
  · skip
    have g14 := g9
    refine lv_if_eq (tgt := 28) hx hb dX9_chosen_11 (by decide) (fun c15 => ?_) (fun c15 => ?_)
    rotate_left
    · first | exact absurd c15 (by decide) | exact absurd (by decide) c15
    refine lv_bipush (v := (-2)) hx hb dX9_chosen_28 (by decide) ?_
    rw [hQ]
    exact W.iret (v := (-2)) hx hb hr (fun t ht hW => ⟨⟨(-2), st, rfl, ⟨hB, fr_rf, ⟨(iv_mono (c := (-2)) (d := 255) (iv_c (by decide) : Iv (-2) (-2) (-2)) (by decide) (by decide)), trivial⟩⟩, by rw [ht]; exact hP, va_K.moved hW.alike (hK.sub (tys' := []) [] rfl), by rw [hAe]; exact hD⟩, by rw [hAe]; exact hS.F ht⟩) hS.2.2 dX9_chosen_30
