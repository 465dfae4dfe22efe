set_option maxHeartbeats 4000000 in
set_option maxRecDepth 100000 in
theorem s_X2_readLand (l : Launch) (D : va_G) (k : Nat → ClassId) (a : Nat → Nat) (st : CT) (sl : CL) (sz : Nat) (hB : CB st)  : Met l yX2_readLand (.code yX2_readLand cX2_readLand 3 none :: TB) (rmw 7 0 0) (va_Pc [.ref (a 1)] (PX D k sz (CWS k a st sl) NS)) (QV D (S := CT) (fun u => CB u ∧ FR [1, 4] st u ∧ u 4 0 = st 4 0 ∧ u 4 3 = st 4 3 ∧ u 4 4 = st 4 4 ∧ u 4 5 = st 4 5 ∧ u 4 6 = st 4 6 ∧ (True)) (fun u => CWS k a u sl) (fun _ => []) (CWS k a st sl) sz) 0 0 (va_A (CWS k a st sl) sz) := by
  refine Met.ofW (cc := cX2_readLand) (maxL := 3) (ret := none) (by decide) rfl ?_
  intro p e s m args below meth c s₁ B hml hv
  obtain ⟨rfl, hsz, hP, hK, hD0, hN, hX⟩ := hv
  have hx := B.exec
  have hb := B.bytes
  have hr := B.returns
  have hT : ∀ w9 ∈ TB, w9.before ([.ref (a 1)] : List Value).toArray s = true := fun w9 h => atoms_spec (ws := .code yX2_readLand cX2_readLand 3 none :: TB) B.pre w9 (List.mem_cons_of_mem _ h)
  have hown : s.vm.findClass RX2 = some m.cls := findClass_of_methodNamed B.named
  have S : CallFix p m c cX2_readLand 3 s _ TB RX2 := ⟨hx, hb, hml, hown, hT⟩
  subst hsz
  have hD := hD0.self (sz := s.heap.size)
  generalize hAe : va_A (CWS k a st sl) s.heap.size = A at hD hX ⊢
  have hA : ∀ q : Nat, s.heap.size ≤ q → A q := fun q h => by rw [← hAe]; exact Or.inr h
  have hS : va_S A s.heap s.heap [] := va_S.rf
  have hl := lv_entry ([.ref (a 1)]) (n := 3) (Nat.le_of_ble_eq_true rfl)
  rw [lg_entry_eq]
  generalize (lg_sl ([.ref (a 1)]) ++ List.replicate (3 - (lg_sl ([.ref (a 1)])).length) Slot.unset).toArray = ls at hl ⊢
  have hl : lv_has ls 3 [(0, .ref (a 1))] := hl
  refine nameQ (fun Q hQ => ?_)
  refine lv_aload_n hx hb dX2_readLand_0 rfl (lv_at hl 0 rfl) ?_
  obtain ⟨w1, vw1, tw1⟩ := hX.2 _ (List.mem_of_getElem? (l := LIT) (i := 0) rfl)
  have vw1 : vk_R RX2 81 "land" w1 s := vw1
  have tw1 : STA A w1 4 (fun j9 => ([108, 97, 110, 100] : List Int32).getD j9 0) s s.heap := tw1
  refine va_ldcS hx hb hown vw1 dX2_readLand_1 ?_
  refine ca_v hP hD hS hA (fun hDc => run_V (mc := 0) (ms := 0) (As := [.ref w1]) (rest := []) S (s_X2_passWord l D k a st sl   w1 4 (fun j9 => ([108, 97, 110, 100] : List Int32).getD j9 0) _  hB (by decide) ) lkX2_83 ok_X2_passWord ⟨rfl, rfl, Nat.le_of_ble_eq_true rfl, Nat.le_of_ble_eq_true rfl⟩ (px_V (ci := 2) (q0 := 1) nice_NSW hK hN rfl cw_1 hP hDc (show NSW w1 4 (fun j9 => ([108, 97, 110, 100] : List Int32).getD j9 0) A s s.heap from ⟨hX, tw1⟩) hS (px_free hD hS hA)) rfl hl.1 rfl (Nat.le_of_ble_eq_true rfl) ⟨Nat.zero_le _, Nat.zero_le _⟩ dX2_readLand_3) (fun s2 H9 locs9 hs2 hP9 hD9 hS9 => ?_)
  clear hP hD hS
  have hS := hS9
  have hP := hP9
  have hD := hD9
  clear hP9 hD9 hS9
  obtain ⟨hBs2, gs2, fs2⟩ := hs2
  have hFs2 : FR [1, 4] st s2 := fr_ca fr_rf gs2 (sub_1 (List.mem_of_getElem? (i := 0) rfl) sub_0)
  have k4 := fs2
  refine lv_aload_n hx hb dX2_readLand_6 rfl (lv_at hl 0 rfl) ?_
  obtain ⟨w5, vw5, tw5⟩ := hX.2 _ (List.mem_of_getElem? (l := LIT) (i := 1) rfl)
  have vw5 : vk_R RX2 87 "places" w5 s := vw5
  have tw5 : STA A w5 6 (fun j9 => ([112, 108, 97, 99, 101, 115] : List Int32).getD j9 0) s s.heap := tw5
  refine va_ldcS hx hb hown vw5 dX2_readLand_7 ?_
  refine ca_v hP hD hS hA (fun hDc => run_V (mc := 0) (ms := 0) (As := [.ref w5]) (rest := []) S (s_X2_passWord l D k a s2 sl   w5 6 (fun j9 => ([112, 108, 97, 99, 101, 115] : List Int32).getD j9 0) _  hBs2 (by decide) ) lkX2_83 ok_X2_passWord ⟨rfl, rfl, Nat.le_of_ble_eq_true rfl, Nat.le_of_ble_eq_true rfl⟩ (px_V (ci := 2) (q0 := 1) nice_NSW hK hN rfl cw_1 hP hDc (show NSW w5 6 (fun j9 => ([112, 108, 97, 99, 101, 115] : List Int32).getD j9 0) A s s.heap from ⟨hX, tw5⟩) hS (px_free hD hS hA)) rfl hl.1 rfl (Nat.le_of_ble_eq_true rfl) ⟨Nat.zero_le _, Nat.zero_le _⟩ dX2_readLand_9) (fun s6 H9 locs9 hs6 hP9 hD9 hS9 => ?_)
  clear hP hD hS
  have hS := hS9
  have hP := hP9
  have hD := hD9
  clear hP9 hD9 hS9
  obtain ⟨hBs6, gs6, fs6⟩ := hs6
  have hFs6 : FR [1, 4] st s6 := fr_ca hFs2 gs6 (sub_1 (List.mem_of_getElem? (i := 0) rfl) sub_0)
  have k8 := fs6
  refine lv_aload_n hx hb dX2_readLand_12 rfl (lv_at hl 0 rfl) ?_
  refine lv_iconst (v := 2) hx hb dX2_readLand_13 (by decide) ?_
  refine lv_bipush (v := 6) hx hb dX2_readLand_14 (by decide) ?_
  refine ca_i hP hD hS hA (fun hDc => run_V (mc := 0) (ms := 0) (As := [.int 2, .int 6]) (rest := []) S (s_X2_passNumber l D k a s6 sl  2 6 _  hBs6  ) lkX2_89 ok_X2_passNumber ⟨rfl, rfl, Nat.le_of_ble_eq_true rfl, Nat.le_of_ble_eq_true rfl⟩ (pw_V (ci := 2) (q0 := 1) hK hN rfl cw_1 hP hDc) rfl hl.1 rfl (Nat.le_of_ble_eq_true rfl) ⟨Nat.zero_le _, Nat.zero_le _⟩ dX2_readLand_16) (fun r10 s9 H9 locs9 hs9 hP9 hD9 hS9 => ?_)
  clear hP hD hS
  have hS := hS9
  have hP := hP9
  have hD := hD9
  clear hP9 hD9 hS9
  obtain ⟨hBs9, gs9, fs9⟩ := hs9
  have hFs9 : FR [1, 4] st s9 := fr_ca hFs6 gs9 (sub_1 (List.mem_of_getElem? (i := 0) rfl) sub_0)
  have k11 := fs9
  refine lv_istore_n (lv' := [(1, .int r10), (0, .ref (a 1))]) hx hb dX2_readLand_19 rfl hl (by decide) rfl (fun ls hl => ?_)
  refine lv_aload_n hx hb dX2_readLand_20 rfl (lv_at hl 1 rfl) ?_
  obtain ⟨w12, vw12, tw12⟩ := hX.2 _ (List.mem_of_getElem? (l := LIT) (i := 2) rfl)
  have vw12 : vk_R RX2 93 "hand" w12 s := vw12
  have tw12 : STA A w12 4 (fun j9 => ([104, 97, 110, 100] : List Int32).getD j9 0) s s.heap := tw12
  refine va_ldcS hx hb hown vw12 dX2_readLand_21 ?_
  refine ca_v hP hD hS hA (fun hDc => run_V (mc := 0) (ms := 0) (As := [.ref w12]) (rest := []) S (s_X2_passWord l D k a s9 sl   w12 4 (fun j9 => ([104, 97, 110, 100] : List Int32).getD j9 0) _  hBs9 (by decide) ) lkX2_83 ok_X2_passWord ⟨rfl, rfl, Nat.le_of_ble_eq_true rfl, Nat.le_of_ble_eq_true rfl⟩ (px_V (ci := 2) (q0 := 1) nice_NSW hK hN rfl cw_1 hP hDc (show NSW w12 4 (fun j9 => ([104, 97, 110, 100] : List Int32).getD j9 0) A s s.heap from ⟨hX, tw12⟩) hS (px_free hD hS hA)) rfl hl.1 rfl (Nat.le_of_ble_eq_true rfl) ⟨Nat.zero_le _, Nat.zero_le _⟩ dX2_readLand_23) (fun s13 H9 locs9 hs13 hP9 hD9 hS9 => ?_)
  clear hP hD hS
  have hS := hS9
  have hP := hP9
  have hD := hD9
  clear hP9 hD9 hS9
  obtain ⟨hBs13, gs13, fs13⟩ := hs13
  have hFs13 : FR [1, 4] st s13 := fr_ca hFs9 gs13 (sub_1 (List.mem_of_getElem? (i := 0) rfl) sub_0)
  have k15 := fs13
  refine lv_aload_n hx hb dX2_readLand_26 rfl (lv_at hl 1 rfl) ?_
  refine lv_iconst (v := 0) hx hb dX2_readLand_27 (by decide) ?_
  refine lv_bipush (v := 40) hx hb dX2_readLand_28 (by decide) ?_
  refine ca_i hP hD hS hA (fun hDc => run_V (mc := 0) (ms := 0) (As := [.int 0, .int 40]) (rest := []) S (s_X2_passNumber l D k a s13 sl  0 40 _  hBs13  ) lkX2_89 ok_X2_passNumber ⟨rfl, rfl, Nat.le_of_ble_eq_true rfl, Nat.le_of_ble_eq_true rfl⟩ (pw_V (ci := 2) (q0 := 1) hK hN rfl cw_1 hP hDc) rfl hl.1 rfl (Nat.le_of_ble_eq_true rfl) ⟨Nat.zero_le _, Nat.zero_le _⟩ dX2_readLand_30) (fun r17 s16 H9 locs9 hs16 hP9 hD9 hS9 => ?_)
  clear hP hD hS
  have hS := hS9
  have hP := hP9
  have hD := hD9
  clear hP9 hD9 hS9
  obtain ⟨hBs16, gs16, fs16⟩ := hs16
  have hFs16 : FR [1, 4] st s16 := fr_ca hFs13 gs16 (sub_1 (List.mem_of_getElem? (i := 0) rfl) sub_0)
  have k18 := fs16
  refine lv_istore_n (lv' := [(2, .int r17), (1, .int r10), (0, .ref (a 1))]) hx hb dX2_readLand_33 rfl hl (by decide) rfl (fun ls hl => ?_)
  refine lv_aload_n hx hb dX2_readLand_34 rfl (lv_at hl 2 rfl) ?_
  refine va_get (D := D) (ci := 2) (v := .int (s16 1 2)) (C := RX2) (T := TX2) (N := 8) hx hb hT in_X2 hown hK hP 1 cw_1 rfl 2 (by decide) (hT _ t276) (fun _ h9 => h9) rfl dX2_readLand_35 ?_
  refine lv_if_ne (tgt := 57) hx hb dX2_readLand_38 (by decide) (fun c19 => ?_) (fun c19 => ?_)
  · skip
    rw [hQ]
    exact W.vret hx hb hr (fun t ht hW => ⟨⟨s16, rfl, ⟨hBs16, hFs16, (Eq.trans (congrFun (gs16 4 (nm_1 (by decide) nm_0)) 0) (Eq.trans (congrFun (gs13 4 (nm_1 (by decide) nm_0)) 0) (Eq.trans (congrFun (gs9 4 (nm_1 (by decide) nm_0)) 0) (Eq.trans (congrFun (gs6 4 (nm_1 (by decide) nm_0)) 0) (congrFun (gs2 4 (nm_1 (by decide) nm_0)) 0))))), (Eq.trans (congrFun (gs16 4 (nm_1 (by decide) nm_0)) 3) (Eq.trans (congrFun (gs13 4 (nm_1 (by decide) nm_0)) 3) (Eq.trans (congrFun (gs9 4 (nm_1 (by decide) nm_0)) 3) (Eq.trans (congrFun (gs6 4 (nm_1 (by decide) nm_0)) 3) (congrFun (gs2 4 (nm_1 (by decide) nm_0)) 3))))), (Eq.trans (congrFun (gs16 4 (nm_1 (by decide) nm_0)) 4) (Eq.trans (congrFun (gs13 4 (nm_1 (by decide) nm_0)) 4) (Eq.trans (congrFun (gs9 4 (nm_1 (by decide) nm_0)) 4) (Eq.trans (congrFun (gs6 4 (nm_1 (by decide) nm_0)) 4) (congrFun (gs2 4 (nm_1 (by decide) nm_0)) 4))))), (Eq.trans (congrFun (gs16 4 (nm_1 (by decide) nm_0)) 5) (Eq.trans (congrFun (gs13 4 (nm_1 (by decide) nm_0)) 5) (Eq.trans (congrFun (gs9 4 (nm_1 (by decide) nm_0)) 5) (Eq.trans (congrFun (gs6 4 (nm_1 (by decide) nm_0)) 5) (congrFun (gs2 4 (nm_1 (by decide) nm_0)) 5))))), (Eq.trans (congrFun (gs16 4 (nm_1 (by decide) nm_0)) 6) (Eq.trans (congrFun (gs13 4 (nm_1 (by decide) nm_0)) 6) (Eq.trans (congrFun (gs9 4 (nm_1 (by decide) nm_0)) 6) (Eq.trans (congrFun (gs6 4 (nm_1 (by decide) nm_0)) 6) (congrFun (gs2 4 (nm_1 (by decide) nm_0)) 6))))), trivial⟩, by rw [ht]; exact hP, va_K.moved hW.alike (hK.sub (tys' := []) [] rfl), by rw [hAe]; exact hD⟩, by rw [hAe]; exact hS.F ht⟩) hS.2.2 dX2_readLand_57
  · skip
    have h20 : Iv 0 0 (s16 1 2) := eq_l c19 (iv_c (by decide) : Iv 0 0 0)
    have k21 : (s16 1 2) = 0 := c19
    have k22 : (s13 1 2) = 0 := (fun z9 => (k18 z9).1) k21
    have k23 := (fun z9 => (⟨Int.le_trans ((iv_c (by decide) : Iv 0 0 0)).1 (k18 z9).2.1, Int.le_trans (k18 z9).2.2 ((iv_c (by decide) : Iv 40 40 40)).2⟩ : Iv 0 40 r17)) k21
    have h24 : Iv 0 40 r17 := ⟨k23.1, k23.2⟩
    have k25 : (s9 1 2) = 0 := k15 k22
    have k26 : (s6 1 2) = 0 := (fun z9 => (k11 z9).1) k25
    have k27 := (fun z9 => (⟨Int.le_trans ((iv_c (by decide) : Iv 2 2 2)).1 (k11 z9).2.1, Int.le_trans (k11 z9).2.2 ((iv_c (by decide) : Iv 6 6 6)).2⟩ : Iv 2 6 r10)) k25
    have h28 : Iv 2 6 r10 := ⟨k27.1, k27.2⟩
    have k29 : (s2 1 2) = 0 := k8 k26
    have k30 : (st 1 2) = 0 := k4 k29
    refine lv_aload_n hx hb dX2_readLand_41 rfl (lv_at hl 2 rfl) ?_
    refine va_get (D := D) (ci := 2) (v := .ref (a 4)) (C := RX2) (T := TX2) (N := 8) hx hb hT in_X2 hown hK hP 1 cw_1 rfl 1 (by decide) (hT _ t274) (fun _ h9 => h9) rfl dX2_readLand_42 ?_
    refine lv_iload_n hx hb dX2_readLand_45 rfl (lv_at hl 1 rfl) ?_
    refine c_put (ci := 1) (C := RX1) (T := TX1) (N := 14) (j := 1) (v := r10) hx hb hT in_X1 tyX1 tyX1_ok nmX1 hown hK hP hD hS cw_4 rfl (by decide) (hT _ t200) (by decide +kernel) (by decide +kernel) rfl rfl (Nat.le_of_ble_eq_true rfl) (cs_4 (upd (s16 4) 1 r10)) dX2_readLand_46 (fun s31 H9 locs9 es31 hP9 hD9 hS9 => ?_)
    clear hP hD hS
    have hS := hS9
    have hP := hP9
    have hD := hD9
    clear hP9 hD9 hS9
    have hBs31 : CB s31 := by rw [es31]; exact cb_sw hBs16 (ki_3_1 (hBs16 4) (iv_mono (c := 0) (d := 6) h28 (by decide) (by decide)))
    have hFs31 : FR [1, 4] st s31 := fr_sw hFs16 (List.mem_of_getElem? (i := 1) rfl) es31
    refine lv_aload_n hx hb dX2_readLand_49 rfl (lv_at hl 2 rfl) ?_
    refine va_get (D := D) (ci := 2) (v := .ref (a 4)) (C := RX2) (T := TX2) (N := 8) hx hb hT in_X2 hown hK hP 1 cw_1 rfl 1 (by decide) (hT _ t274) (fun _ h9 => h9) rfl dX2_readLand_50 ?_
    refine lv_iload_n hx hb dX2_readLand_53 rfl (lv_at hl 0 rfl) ?_
    refine c_put (ci := 1) (C := RX1) (T := TX1) (N := 14) (j := 2) (v := r17) hx hb hT in_X1 tyX1 tyX1_ok nmX1 hown hK hP hD hS cw_4 rfl (by decide) (hT _ t203) (by decide +kernel) (by decide +kernel) rfl rfl (Nat.le_of_ble_eq_true rfl) (cs_4 (upd (s31 4) 2 r17)) dX2_readLand_54 (fun s32 H9 locs9 es32 hP9 hD9 hS9 => ?_)
    clear hP hD hS
    have hS := hS9
    have hP := hP9
    have hD := hD9
    clear hP9 hD9 hS9
    have hBs32 : CB s32 := by rw [es32]; exact cb_sw hBs31 (ki_3_2 (hBs31 4))
    have hFs32 : FR [1, 4] st s32 := fr_sw hFs31 (List.mem_of_getElem? (i := 1) rfl) es32
    rw [hQ]
    exact W.vret hx hb hr (fun t ht hW => ⟨⟨s32, rfl, ⟨hBs32, hFs32, (Eq.trans (congrFun (sw_it es32) 0) (Eq.trans (congrFun (sw_it es31) 0) (Eq.trans (congrFun (gs16 4 (nm_1 (by decide) nm_0)) 0) (Eq.trans (congrFun (gs13 4 (nm_1 (by decide) nm_0)) 0) (Eq.trans (congrFun (gs9 4 (nm_1 (by decide) nm_0)) 0) (Eq.trans (congrFun (gs6 4 (nm_1 (by decide) nm_0)) 0) (congrFun (gs2 4 (nm_1 (by decide) nm_0)) 0))))))), (Eq.trans (congrFun (sw_it es32) 3) (Eq.trans (congrFun (sw_it es31) 3) (Eq.trans (congrFun (gs16 4 (nm_1 (by decide) nm_0)) 3) (Eq.trans (congrFun (gs13 4 (nm_1 (by decide) nm_0)) 3) (Eq.trans (congrFun (gs9 4 (nm_1 (by decide) nm_0)) 3) (Eq.trans (congrFun (gs6 4 (nm_1 (by decide) nm_0)) 3) (congrFun (gs2 4 (nm_1 (by decide) nm_0)) 3))))))), (Eq.trans (congrFun (sw_it es32) 4) (Eq.trans (congrFun (sw_it es31) 4) (Eq.trans (congrFun (gs16 4 (nm_1 (by decide) nm_0)) 4) (Eq.trans (congrFun (gs13 4 (nm_1 (by decide) nm_0)) 4) (Eq.trans (congrFun (gs9 4 (nm_1 (by decide) nm_0)) 4) (Eq.trans (congrFun (gs6 4 (nm_1 (by decide) nm_0)) 4) (congrFun (gs2 4 (nm_1 (by decide) nm_0)) 4))))))), (Eq.trans (congrFun (sw_it es32) 5) (Eq.trans (congrFun (sw_it es31) 5) (Eq.trans (congrFun (gs16 4 (nm_1 (by decide) nm_0)) 5) (Eq.trans (congrFun (gs13 4 (nm_1 (by decide) nm_0)) 5) (Eq.trans (congrFun (gs9 4 (nm_1 (by decide) nm_0)) 5) (Eq.trans (congrFun (gs6 4 (nm_1 (by decide) nm_0)) 5) (congrFun (gs2 4 (nm_1 (by decide) nm_0)) 5))))))), (Eq.trans (congrFun (sw_it es32) 6) (Eq.trans (congrFun (sw_it es31) 6) (Eq.trans (congrFun (gs16 4 (nm_1 (by decide) nm_0)) 6) (Eq.trans (congrFun (gs13 4 (nm_1 (by decide) nm_0)) 6) (Eq.trans (congrFun (gs9 4 (nm_1 (by decide) nm_0)) 6) (Eq.trans (congrFun (gs6 4 (nm_1 (by decide) nm_0)) 6) (congrFun (gs2 4 (nm_1 (by decide) nm_0)) 6))))))), trivial⟩, by rw [ht]; exact hP, va_K.moved hW.alike (hK.sub (tys' := []) [] rfl), by rw [hAe]; exact hD⟩, by rw [hAe]; exact hS.F ht⟩) hS.2.2 dX2_readLand_57
set_option maxHeartbeats 4000000 in
set_option maxRecDepth 100000 in
theorem s_X2_readRoad (l : Launch) (D : va_G) (k : Nat → ClassId) (a : Nat → Nat) (st : CT) (sl : CL) (sz : Nat) (hB : CB st)  : Met l yX2_readRoad (.code yX2_readRoad cX2_readRoad 4 none :: TB) (rmw 7 0 0) (va_Pc [.ref (a 1)] (PX D k sz (CWS k a st sl) NS)) (QV D (S := CT) (fun u => CB u ∧ FR [1, 5, 6, 7, 4] st u ∧ u 4 0 = st 4 0 ∧ u 4 1 = st 4 1 ∧ u 4 2 = st 4 2 ∧ u 4 4 = st 4 4 ∧ u 4 5 = st 4 5 ∧ u 4 6 = st 4 6 ∧ (True)) (fun u => CWS k a u sl) (fun _ => []) (CWS k a st sl) sz) 0 0 (va_A (CWS k a st sl) sz) := by
  refine Met.ofW (cc := cX2_readRoad) (maxL := 4) (ret := none) (by decide) rfl ?_
  intro p e s m args below meth c s₁ B hml hv
  obtain ⟨rfl, hsz, hP, hK, hD0, hN, hX⟩ := hv
  have hx := B.exec
  have hb := B.bytes
  have hr := B.returns
  have hT : ∀ w9 ∈ TB, w9.before ([.ref (a 1)] : List Value).toArray s = true := fun w9 h => atoms_spec (ws := .code yX2_readRoad cX2_readRoad 4 none :: TB) B.pre w9 (List.mem_cons_of_mem _ h)
  have hown : s.vm.findClass RX2 = some m.cls := findClass_of_methodNamed B.named
  have S : CallFix p m c cX2_readRoad 4 s _ TB RX2 := ⟨hx, hb, hml, hown, hT⟩
  subst hsz
  have hD := hD0.self (sz := s.heap.size)
  generalize hAe : va_A (CWS k a st sl) s.heap.size = A at hD hX ⊢
  have hA : ∀ q : Nat, s.heap.size ≤ q → A q := fun q h => by rw [← hAe]; exact Or.inr h
  have hS : va_S A s.heap s.heap [] := va_S.rf
  have hl := lv_entry ([.ref (a 1)]) (n := 4) (Nat.le_of_ble_eq_true rfl)
  rw [lg_entry_eq]
  generalize (lg_sl ([.ref (a 1)]) ++ List.replicate (4 - (lg_sl ([.ref (a 1)])).length) Slot.unset).toArray = ls at hl ⊢
  have hl : lv_has ls 4 [(0, .ref (a 1))] := hl
  refine nameQ (fun Q hQ => ?_)
  refine lv_aload_n hx hb dX2_readRoad_0 rfl (lv_at hl 0 rfl) ?_
  refine va_get (D := D) (ci := 2) (v := .ref (a 4)) (C := RX2) (T := TX2) (N := 8) hx hb hT in_X2 hown hK hP 1 cw_1 rfl 1 (by decide) (hT _ t274) (fun _ h9 => h9) rfl dX2_readRoad_1 ?_
  refine va_get (D := D) (ci := 1) (v := .int (st 4 3)) (C := RX1) (T := TX1) (N := 14) hx hb hT in_X1 hown hK hP 4 cw_4 rfl 3 (by decide) (hT _ t209) (fun _ h9 => h9) rfl dX2_readRoad_4 ?_
  have h1 : Iv 0 8 (st 4 3) := (rb_4_3 hB)
  refine lv_bipush (v := 8) hx hb dX2_readRoad_7 (by decide) ?_
  refine lv_icmp_lt (tgt := 17) hx hb dX2_readRoad_9 (by decide) (fun c2 => ?_) (fun c2 => ?_)
  · skip
    have n3 : (st 4 3).toInt < (8 : Int32).toInt := (i_lt c2)
    have h4 : Iv 0 7 (st 4 3) := lt_l h1 n3 (iv_c (by decide) : Iv 8 8 8) (by decide)
    refine lv_aload_n hx hb dX2_readRoad_17 rfl (lv_at hl 0 rfl) ?_
    obtain ⟨w5, vw5, tw5⟩ := hX.2 _ (List.mem_of_getElem? (l := LIT) (i := 3) rfl)
    have vw5 : vk_R RX2 53 "road" w5 s := vw5
    have tw5 : STA A w5 4 (fun j9 => ([114, 111, 97, 100] : List Int32).getD j9 0) s s.heap := tw5
    refine va_ldcS hx hb hown vw5 dX2_readRoad_18 ?_
    refine ca_v hP hD hS hA (fun hDc => run_V (mc := 0) (ms := 0) (As := [.ref w5]) (rest := []) S (s_X2_passWord l D k a st sl   w5 4 (fun j9 => ([114, 111, 97, 100] : List Int32).getD j9 0) _  hB (by decide) ) lkX2_83 ok_X2_passWord ⟨rfl, rfl, Nat.le_of_ble_eq_true rfl, Nat.le_of_ble_eq_true rfl⟩ (px_V (ci := 2) (q0 := 1) nice_NSW hK hN rfl cw_1 hP hDc (show NSW w5 4 (fun j9 => ([114, 111, 97, 100] : List Int32).getD j9 0) A s s.heap from ⟨hX, tw5⟩) hS (px_free hD hS hA)) rfl hl.1 rfl (Nat.le_of_ble_eq_true rfl) ⟨Nat.zero_le _, Nat.zero_le _⟩ dX2_readRoad_20) (fun s6 H9 locs9 hs6 hP9 hD9 hS9 => ?_)
    clear hP hD hS
    have hS := hS9
    have hP := hP9
    have hD := hD9
    clear hP9 hD9 hS9
    obtain ⟨hBs6, gs6, fs6⟩ := hs6
    have hFs6 : FR [1, 5, 6, 7, 4] st s6 := fr_ca fr_rf gs6 (sub_1 (List.mem_of_getElem? (i := 0) rfl) sub_0)
    have k8 := fs6
    refine lv_aload_n hx hb dX2_readRoad_23 rfl (lv_at hl 0 rfl) ?_
    refine lv_iconst (v := 0) hx hb dX2_readRoad_24 (by decide) ?_
    refine lv_aload_n hx hb dX2_readRoad_25 rfl (lv_at hl 0 rfl) ?_
    refine va_get (D := D) (ci := 2) (v := .ref (a 4)) (C := RX2) (T := TX2) (N := 8) hx hb hT in_X2 hown hK hP 1 cw_1 rfl 1 (by decide) (hT _ t274) (fun _ h9 => h9) rfl dX2_readRoad_26 ?_
    refine va_get (D := D) (ci := 1) (v := .int (s6 4 1)) (C := RX1) (T := TX1) (N := 14) hx hb hT in_X1 hown hK hP 4 cw_4 rfl 1 (by decide) (hT _ t200) (fun _ h9 => h9) rfl dX2_readRoad_29 ?_
    refine k_top (y := (st 4 1)) (congrFun (gs6 4 (nm_1 (by decide) nm_0)) 1) ?_
    have h9 : Iv 0 6 (st 4 1) := (rb_4_1 hB)
    refine lv_iconst (v := 1) hx hb dX2_readRoad_32 (by decide) ?_
    refine lv_isub hx hb dX2_readRoad_33 ?_
    refine lv_topi (fun z10 ez10 => ?_)
    have h11 : Iv (-1) 5 z10 := iv_sub ez10 h9 (iv_c (by decide) : Iv 1 1 1) (by decide) (by decide) (by decide) (by decide)
    refine ca_i hP hD hS hA (fun hDc => run_V (mc := 0) (ms := 0) (As := [.int 0, .int z10]) (rest := []) S (s_X2_passNumber l D k a s6 sl  0 z10 _  hBs6  ) lkX2_89 ok_X2_passNumber ⟨rfl, rfl, Nat.le_of_ble_eq_true rfl, Nat.le_of_ble_eq_true rfl⟩ (pw_V (ci := 2) (q0 := 1) hK hN rfl cw_1 hP hDc) rfl hl.1 rfl (Nat.le_of_ble_eq_true rfl) ⟨Nat.zero_le _, Nat.zero_le _⟩ dX2_readRoad_34) (fun r13 s12 H9 locs9 hs12 hP9 hD9 hS9 => ?_)
    clear hP hD hS
    have hS := hS9
    have hP := hP9
    have hD := hD9
    clear hP9 hD9 hS9
    obtain ⟨hBs12, gs12, fs12⟩ := hs12
    have hFs12 : FR [1, 5, 6, 7, 4] st s12 := fr_ca hFs6 gs12 (sub_1 (List.mem_of_getElem? (i := 0) rfl) sub_0)
    have k14 := fs12
    refine lv_istore_n (lv' := [(1, .int r13), (0, .ref (a 1))]) hx hb dX2_readRoad_37 rfl hl (by decide) rfl (fun ls hl => ?_)
    refine lv_aload_n hx hb dX2_readRoad_38 rfl (lv_at hl 1 rfl) ?_
    obtain ⟨w15, vw15, tw15⟩ := hX.2 _ (List.mem_of_getElem? (l := LIT) (i := 4) rfl)
    have vw15 : vk_R RX2 103 "to" w15 s := vw15
    have tw15 : STA A w15 2 (fun j9 => ([116, 111] : List Int32).getD j9 0) s s.heap := tw15
    refine va_ldcS hx hb hown vw15 dX2_readRoad_39 ?_
    refine ca_v hP hD hS hA (fun hDc => run_V (mc := 0) (ms := 0) (As := [.ref w15]) (rest := []) S (s_X2_passWord l D k a s12 sl   w15 2 (fun j9 => ([116, 111] : List Int32).getD j9 0) _  hBs12 (by decide) ) lkX2_83 ok_X2_passWord ⟨rfl, rfl, Nat.le_of_ble_eq_true rfl, Nat.le_of_ble_eq_true rfl⟩ (px_V (ci := 2) (q0 := 1) nice_NSW hK hN rfl cw_1 hP hDc (show NSW w15 2 (fun j9 => ([116, 111] : List Int32).getD j9 0) A s s.heap from ⟨hX, tw15⟩) hS (px_free hD hS hA)) rfl hl.1 rfl (Nat.le_of_ble_eq_true rfl) ⟨Nat.zero_le _, Nat.zero_le _⟩ dX2_readRoad_41) (fun s16 H9 locs9 hs16 hP9 hD9 hS9 => ?_)
    clear hP hD hS
    have hS := hS9
    have hP := hP9
    have hD := hD9
    clear hP9 hD9 hS9
    obtain ⟨hBs16, gs16, fs16⟩ := hs16
    have hFs16 : FR [1, 5, 6, 7, 4] st s16 := fr_ca hFs12 gs16 (sub_1 (List.mem_of_getElem? (i := 0) rfl) sub_0)
    have k18 := fs16
    refine lv_aload_n hx hb dX2_readRoad_44 rfl (lv_at hl 1 rfl) ?_
    refine va_get (D := D) (ci := 2) (v := .int (s16 1 4)) (C := RX2) (T := TX2) (N := 8) hx hb hT in_X2 hown hK hP 1 cw_1 rfl 4 (by decide) (hT _ t280) (fun _ h9 => h9) rfl dX2_readRoad_45 ?_
    refine lv_iconst (v := 2) hx hb dX2_readRoad_48 (by decide) ?_
    refine lv_icmp_ne (tgt := 65) hx hb dX2_readRoad_49 (by decide) (fun c19 => ?_) (fun c19 => ?_)
    · skip
      refine lv_aload_n hx hb dX2_readRoad_65 rfl (lv_at hl 1 rfl) ?_
      refine lv_iconst (v := 0) hx hb dX2_readRoad_66 (by decide) ?_
      refine lv_aload_n hx hb dX2_readRoad_67 rfl (lv_at hl 1 rfl) ?_
      refine va_get (D := D) (ci := 2) (v := .ref (a 4)) (C := RX2) (T := TX2) (N := 8) hx hb hT in_X2 hown hK hP 1 cw_1 rfl 1 (by decide) (hT _ t274) (fun _ h9 => h9) rfl dX2_readRoad_68 ?_
      refine va_get (D := D) (ci := 1) (v := .int (s16 4 1)) (C := RX1) (T := TX1) (N := 14) hx hb hT in_X1 hown hK hP 4 cw_4 rfl 1 (by decide) (hT _ t200) (fun _ h9 => h9) rfl dX2_readRoad_71 ?_
      refine k_top (y := (st 4 1)) (Eq.trans (congrFun (gs16 4 (nm_1 (by decide) nm_0)) 1) (Eq.trans (congrFun (gs12 4 (nm_1 (by decide) nm_0)) 1) (congrFun (gs6 4 (nm_1 (by decide) nm_0)) 1))) ?_
      refine lv_iconst (v := 1) hx hb dX2_readRoad_74 (by decide) ?_
      refine lv_isub hx hb dX2_readRoad_75 ?_
      refine lv_topi (fun z20 ez20 => ?_)
      have h21 : Iv (-1) 5 z20 := iv_sub ez20 h9 (iv_c (by decide) : Iv 1 1 1) (by decide) (by decide) (by decide) (by decide)
      refine ca_i hP hD hS hA (fun hDc => run_V (mc := 0) (ms := 0) (As := [.int 0, .int z20]) (rest := []) S (s_X2_passNumber l D k a s16 sl  0 z20 _  hBs16  ) lkX2_89 ok_X2_passNumber ⟨rfl, rfl, Nat.le_of_ble_eq_true rfl, Nat.le_of_ble_eq_true rfl⟩ (pw_V (ci := 2) (q0 := 1) hK hN rfl cw_1 hP hDc) rfl hl.1 rfl (Nat.le_of_ble_eq_true rfl) ⟨Nat.zero_le _, Nat.zero_le _⟩ dX2_readRoad_76) (fun r23 s22 H9 locs9 hs22 hP9 hD9 hS9 => ?_)
      clear hP hD hS
      have hS := hS9
      have hP := hP9
      have hD := hD9
      clear hP9 hD9 hS9
      obtain ⟨hBs22, gs22, fs22⟩ := hs22
      have hFs22 : FR [1, 5, 6, 7, 4] st s22 := fr_ca hFs16 gs22 (sub_1 (List.mem_of_getElem? (i := 0) rfl) sub_0)
      have k24 := fs22
      refine lv_istore_n (lv' := [(2, .int r23), (1, .int r13), (0, .ref (a 1))]) hx hb dX2_readRoad_79 rfl hl (by decide) rfl (fun ls hl => ?_)
      refine lv_aload_n hx hb dX2_readRoad_80 rfl (lv_at hl 2 rfl) ?_
      obtain ⟨w25, vw25, tw25⟩ := hX.2 _ (List.mem_of_getElem? (l := LIT) (i := 5) rfl)
      have vw25 : vk_R RX2 108 "miles" w25 s := vw25
      have tw25 : STA A w25 5 (fun j9 => ([109, 105, 108, 101, 115] : List Int32).getD j9 0) s s.heap := tw25
      refine va_ldcS hx hb hown vw25 dX2_readRoad_81 ?_
      refine ca_v hP hD hS hA (fun hDc => run_V (mc := 0) (ms := 0) (As := [.ref w25]) (rest := []) S (s_X2_passWord l D k a s22 sl   w25 5 (fun j9 => ([109, 105, 108, 101, 115] : List Int32).getD j9 0) _  hBs22 (by decide) ) lkX2_83 ok_X2_passWord ⟨rfl, rfl, Nat.le_of_ble_eq_true rfl, Nat.le_of_ble_eq_true rfl⟩ (px_V (ci := 2) (q0 := 1) nice_NSW hK hN rfl cw_1 hP hDc (show NSW w25 5 (fun j9 => ([109, 105, 108, 101, 115] : List Int32).getD j9 0) A s s.heap from ⟨hX, tw25⟩) hS (px_free hD hS hA)) rfl hl.1 rfl (Nat.le_of_ble_eq_true rfl) ⟨Nat.zero_le _, Nat.zero_le _⟩ dX2_readRoad_83) (fun s26 H9 locs9 hs26 hP9 hD9 hS9 => ?_)
      clear hP hD hS
      have hS := hS9
      have hP := hP9
      have hD := hD9
      clear hP9 hD9 hS9
      obtain ⟨hBs26, gs26, fs26⟩ := hs26
      have hFs26 : FR [1, 5, 6, 7, 4] st s26 := fr_ca hFs22 gs26 (sub_1 (List.mem_of_getElem? (i := 0) rfl) sub_0)
      have k28 := fs26
      refine lv_aload_n hx hb dX2_readRoad_86 rfl (lv_at hl 2 rfl) ?_
      refine lv_iconst (v := 1) hx hb dX2_readRoad_87 (by decide) ?_
      refine lv_bipush (v := 20) hx hb dX2_readRoad_88 (by decide) ?_
      refine ca_i hP hD hS hA (fun hDc => run_V (mc := 0) (ms := 0) (As := [.int 1, .int 20]) (rest := []) S (s_X2_passNumber l D k a s26 sl  1 20 _  hBs26  ) lkX2_89 ok_X2_passNumber ⟨rfl, rfl, Nat.le_of_ble_eq_true rfl, Nat.le_of_ble_eq_true rfl⟩ (pw_V (ci := 2) (q0 := 1) hK hN rfl cw_1 hP hDc) rfl hl.1 rfl (Nat.le_of_ble_eq_true rfl) ⟨Nat.zero_le _, Nat.zero_le _⟩ dX2_readRoad_90) (fun r30 s29 H9 locs9 hs29 hP9 hD9 hS9 => ?_)
      clear hP hD hS
      have hS := hS9
      have hP := hP9
      have hD := hD9
      clear hP9 hD9 hS9
      obtain ⟨hBs29, gs29, fs29⟩ := hs29
      have hFs29 : FR [1, 5, 6, 7, 4] st s29 := fr_ca hFs26 gs29 (sub_1 (List.mem_of_getElem? (i := 0) rfl) sub_0)
      have k31 := fs29
      refine lv_istore_n (lv' := [(3, .int r30), (2, .int r23), (1, .int r13), (0, .ref (a 1))]) hx hb dX2_readRoad_93 rfl hl (by decide) rfl (fun ls hl => ?_)
      refine lv_aload_n hx hb dX2_readRoad_94 rfl (lv_at hl 3 rfl) ?_
      refine va_get (D := D) (ci := 2) (v := .int (s29 1 2)) (C := RX2) (T := TX2) (N := 8) hx hb hT in_X2 hown hK hP 1 cw_1 rfl 2 (by decide) (hT _ t276) (fun _ h9 => h9) rfl dX2_readRoad_95 ?_
      refine lv_if_ne (tgt := 111) hx hb dX2_readRoad_98 (by decide) (fun c32 => ?_) (fun c32 => ?_)
      · skip
        rw [hQ]
        exact W.vret hx hb hr (fun t ht hW => ⟨⟨s29, rfl, ⟨hBs29, hFs29, (Eq.trans (congrFun (gs29 4 (nm_1 (by decide) nm_0)) 0) (Eq.trans (congrFun (gs26 4 (nm_1 (by decide) nm_0)) 0) (Eq.trans (congrFun (gs22 4 (nm_1 (by decide) nm_0)) 0) (Eq.trans (congrFun (gs16 4 (nm_1 (by decide) nm_0)) 0) (Eq.trans (congrFun (gs12 4 (nm_1 (by decide) nm_0)) 0) (congrFun (gs6 4 (nm_1 (by decide) nm_0)) 0)))))), (Eq.trans (congrFun (gs29 4 (nm_1 (by decide) nm_0)) 1) (Eq.trans (congrFun (gs26 4 (nm_1 (by decide) nm_0)) 1) (Eq.trans (congrFun (gs22 4 (nm_1 (by decide) nm_0)) 1) (Eq.trans (congrFun (gs16 4 (nm_1 (by decide) nm_0)) 1) (Eq.trans (congrFun (gs12 4 (nm_1 (by decide) nm_0)) 1) (congrFun (gs6 4 (nm_1 (by decide) nm_0)) 1)))))), (Eq.trans (congrFun (gs29 4 (nm_1 (by decide) nm_0)) 2) (Eq.trans (congrFun (gs26 4 (nm_1 (by decide) nm_0)) 2) (Eq.trans (congrFun (gs22 4 (nm_1 (by decide) nm_0)) 2) (Eq.trans (congrFun (gs16 4 (nm_1 (by decide) nm_0)) 2) (Eq.trans (congrFun (gs12 4 (nm_1 (by decide) nm_0)) 2) (congrFun (gs6 4 (nm_1 (by decide) nm_0)) 2)))))), (Eq.trans (congrFun (gs29 4 (nm_1 (by decide) nm_0)) 4) (Eq.trans (congrFun (gs26 4 (nm_1 (by decide) nm_0)) 4) (Eq.trans (congrFun (gs22 4 (nm_1 (by decide) nm_0)) 4) (Eq.trans (congrFun (gs16 4 (nm_1 (by decide) nm_0)) 4) (Eq.trans (congrFun (gs12 4 (nm_1 (by decide) nm_0)) 4) (congrFun (gs6 4 (nm_1 (by decide) nm_0)) 4)))))), (Eq.trans (congrFun (gs29 4 (nm_1 (by decide) nm_0)) 5) (Eq.trans (congrFun (gs26 4 (nm_1 (by decide) nm_0)) 5) (Eq.trans (congrFun (gs22 4 (nm_1 (by decide) nm_0)) 5) (Eq.trans (congrFun (gs16 4 (nm_1 (by decide) nm_0)) 5) (Eq.trans (congrFun (gs12 4 (nm_1 (by decide) nm_0)) 5) (congrFun (gs6 4 (nm_1 (by decide) nm_0)) 5)))))), (Eq.trans (congrFun (gs29 4 (nm_1 (by decide) nm_0)) 6) (Eq.trans (congrFun (gs26 4 (nm_1 (by decide) nm_0)) 6) (Eq.trans (congrFun (gs22 4 (nm_1 (by decide) nm_0)) 6) (Eq.trans (congrFun (gs16 4 (nm_1 (by decide) nm_0)) 6) (Eq.trans (congrFun (gs12 4 (nm_1 (by decide) nm_0)) 6) (congrFun (gs6 4 (nm_1 (by decide) nm_0)) 6)))))), trivial⟩, by rw [ht]; exact hP, va_K.moved hW.alike (hK.sub (tys' := []) [] rfl), by rw [hAe]; exact hD⟩, by rw [hAe]; exact hS.F ht⟩) hS.2.2 dX2_readRoad_111
      · skip
        have h33 : Iv 0 0 (s29 1 2) := eq_l c32 (iv_c (by decide) : Iv 0 0 0)
        have k34 : (s29 1 2) = 0 := c32
        have k35 : (s26 1 2) = 0 := (fun z9 => (k31 z9).1) k34
        have k36 := (fun z9 => (⟨Int.le_trans ((iv_c (by decide) : Iv 1 1 1)).1 (k31 z9).2.1, Int.le_trans (k31 z9).2.2 ((iv_c (by decide) : Iv 20 20 20)).2⟩ : Iv 1 20 r30)) k34
        have h37 : Iv 1 20 r30 := ⟨k36.1, k36.2⟩
        have k38 : (s22 1 2) = 0 := k28 k35
        have k39 : (s16 1 2) = 0 := (fun z9 => (k24 z9).1) k38
        have k40 := (fun z9 => (⟨Int.le_trans ((iv_c (by decide) : Iv 0 0 0)).1 (k24 z9).2.1, Int.le_trans (k24 z9).2.2 (h21).2⟩ : Iv 0 5 r23)) k38
        have h41 : Iv 0 5 r23 := ⟨k40.1, k40.2⟩
        have k42 : (s12 1 2) = 0 := k18 k39
        have k43 : (s6 1 2) = 0 := (fun z9 => (k14 z9).1) k42
        have k44 := (fun z9 => (⟨Int.le_trans ((iv_c (by decide) : Iv 0 0 0)).1 (k14 z9).2.1, Int.le_trans (k14 z9).2.2 (h11).2⟩ : Iv 0 5 r13)) k42
        have h45 : Iv 0 5 r13 := ⟨k44.1, k44.2⟩
        have k46 : (st 1 2) = 0 := k8 k43
        refine lv_aload_n hx hb dX2_readRoad_101 rfl (lv_at hl 3 rfl) ?_
        refine va_get (D := D) (ci := 2) (v := .ref (a 4)) (C := RX2) (T := TX2) (N := 8) hx hb hT in_X2 hown hK hP 1 cw_1 rfl 1 (by decide) (hT _ t274) (fun _ h9 => h9) rfl dX2_readRoad_102 ?_
        refine lv_iload_n hx hb dX2_readRoad_105 rfl (lv_at hl 2 rfl) ?_
        refine lv_iload_n hx hb dX2_readRoad_106 rfl (lv_at hl 1 rfl) ?_
        refine lv_iload_n hx hb dX2_readRoad_107 rfl (lv_at hl 0 rfl) ?_
        refine ca_v hP hD hS hA (fun hDc => run_V (mc := 0) (ms := 0) (As := [.int r13, .int r23, .int r30]) (rest := []) S (s_X1_addRoad l D k a s29 sl  r13 r23 r30 _  hBs29 h45 h41 ) lkX2_110 ok_X1_addRoad ⟨rfl, rfl, Nat.le_of_ble_eq_true rfl, Nat.le_of_ble_eq_true rfl⟩ (pw_V (ci := 1) (q0 := 4) hK hN rfl cw_4 hP hDc) rfl hl.1 rfl (Nat.le_of_ble_eq_true rfl) ⟨Nat.zero_le _, Nat.zero_le _⟩ dX2_readRoad_108) (fun s47 H9 locs9 hs47 hP9 hD9 hS9 => ?_)
        clear hP hD hS
        have hS := hS9
        have hP := hP9
        have hD := hD9
        clear hP9 hD9 hS9
        obtain ⟨hBs47, gs47, qs47_0, qs47_1, qs47_2, qs47_3, qs47_4, qs47_5, fs47⟩ := hs47
        have hFs47 : FR [1, 5, 6, 7, 4] st s47 := fr_ca hFs29 gs47 (sub_1 (List.mem_of_getElem? (i := 1) rfl) (sub_1 (List.mem_of_getElem? (i := 2) rfl) (sub_1 (List.mem_of_getElem? (i := 3) rfl) (sub_1 (List.mem_of_getElem? (i := 4) rfl) sub_0))))
        rw [hQ]
        exact W.vret hx hb hr (fun t ht hW => ⟨⟨s47, rfl, ⟨hBs47, hFs47, (Eq.trans qs47_0 (Eq.trans (congrFun (gs29 4 (nm_1 (by decide) nm_0)) 0) (Eq.trans (congrFun (gs26 4 (nm_1 (by decide) nm_0)) 0) (Eq.trans (congrFun (gs22 4 (nm_1 (by decide) nm_0)) 0) (Eq.trans (congrFun (gs16 4 (nm_1 (by decide) nm_0)) 0) (Eq.trans (congrFun (gs12 4 (nm_1 (by decide) nm_0)) 0) (congrFun (gs6 4 (nm_1 (by decide) nm_0)) 0))))))), (Eq.trans qs47_1 (Eq.trans (congrFun (gs29 4 (nm_1 (by decide) nm_0)) 1) (Eq.trans (congrFun (gs26 4 (nm_1 (by decide) nm_0)) 1) (Eq.trans (congrFun (gs22 4 (nm_1 (by decide) nm_0)) 1) (Eq.trans (congrFun (gs16 4 (nm_1 (by decide) nm_0)) 1) (Eq.trans (congrFun (gs12 4 (nm_1 (by decide) nm_0)) 1) (congrFun (gs6 4 (nm_1 (by decide) nm_0)) 1))))))), (Eq.trans qs47_2 (Eq.trans (congrFun (gs29 4 (nm_1 (by decide) nm_0)) 2) (Eq.trans (congrFun (gs26 4 (nm_1 (by decide) nm_0)) 2) (Eq.trans (congrFun (gs22 4 (nm_1 (by decide) nm_0)) 2) (Eq.trans (congrFun (gs16 4 (nm_1 (by decide) nm_0)) 2) (Eq.trans (congrFun (gs12 4 (nm_1 (by decide) nm_0)) 2) (congrFun (gs6 4 (nm_1 (by decide) nm_0)) 2))))))), (Eq.trans qs47_3 (Eq.trans (congrFun (gs29 4 (nm_1 (by decide) nm_0)) 4) (Eq.trans (congrFun (gs26 4 (nm_1 (by decide) nm_0)) 4) (Eq.trans (congrFun (gs22 4 (nm_1 (by decide) nm_0)) 4) (Eq.trans (congrFun (gs16 4 (nm_1 (by decide) nm_0)) 4) (Eq.trans (congrFun (gs12 4 (nm_1 (by decide) nm_0)) 4) (congrFun (gs6 4 (nm_1 (by decide) nm_0)) 4))))))), (Eq.trans qs47_4 (Eq.trans (congrFun (gs29 4 (nm_1 (by decide) nm_0)) 5) (Eq.trans (congrFun (gs26 4 (nm_1 (by decide) nm_0)) 5) (Eq.trans (congrFun (gs22 4 (nm_1 (by decide) nm_0)) 5) (Eq.trans (congrFun (gs16 4 (nm_1 (by decide) nm_0)) 5) (Eq.trans (congrFun (gs12 4 (nm_1 (by decide) nm_0)) 5) (congrFun (gs6 4 (nm_1 (by decide) nm_0)) 5))))))), (Eq.trans qs47_5 (Eq.trans (congrFun (gs29 4 (nm_1 (by decide) nm_0)) 6) (Eq.trans (congrFun (gs26 4 (nm_1 (by decide) nm_0)) 6) (Eq.trans (congrFun (gs22 4 (nm_1 (by decide) nm_0)) 6) (Eq.trans (congrFun (gs16 4 (nm_1 (by decide) nm_0)) 6) (Eq.trans (congrFun (gs12 4 (nm_1 (by decide) nm_0)) 6) (congrFun (gs6 4 (nm_1 (by decide) nm_0)) 6))))))), trivial⟩, by rw [ht]; exact hP, va_K.moved hW.alike (hK.sub (tys' := []) [] rfl), by rw [hAe]; exact hD⟩, by rw [hAe]; exact hS.F ht⟩) hS.2.2 dX2_readRoad_111
    · skip
      have h49 : Iv 2 2 (s16 1 4) := eq_l c19 (iv_c (by decide) : Iv 2 2 2)
      refine lv_aload_n hx hb dX2_readRoad_52 rfl (lv_at hl 1 rfl) ?_
      refine va_get (D := D) (ci := 2) (v := .int (s16 1 7)) (C := RX2) (T := TX2) (N := 8) hx hb hT in_X2 hown hK hP 1 cw_1 rfl 7 (by decide) (hT _ t283) (fun _ h9 => h9) rfl dX2_readRoad_53 ?_
      refine lv_iload_n hx hb dX2_readRoad_56 rfl (lv_at hl 0 rfl) ?_
      refine lv_icmp_ne (tgt := 65) hx hb dX2_readRoad_57 (by decide) (fun c50 => ?_) (fun c50 => ?_)
      · skip
        refine lv_aload_n hx hb dX2_readRoad_65 rfl (lv_at hl 1 rfl) ?_
        refine lv_iconst (v := 0) hx hb dX2_readRoad_66 (by decide) ?_
        refine lv_aload_n hx hb dX2_readRoad_67 rfl (lv_at hl 1 rfl) ?_
        refine va_get (D := D) (ci := 2) (v := .ref (a 4)) (C := RX2) (T := TX2) (N := 8) hx hb hT in_X2 hown hK hP 1 cw_1 rfl 1 (by decide) (hT _ t274) (fun _ h9 => h9) rfl dX2_readRoad_68 ?_
        refine va_get (D := D) (ci := 1) (v := .int (s16 4 1)) (C := RX1) (T := TX1) (N := 14) hx hb hT in_X1 hown hK hP 4 cw_4 rfl 1 (by decide) (hT _ t200) (fun _ h9 => h9) rfl dX2_readRoad_71 ?_
        refine k_top (y := (st 4 1)) (Eq.trans (congrFun (gs16 4 (nm_1 (by decide) nm_0)) 1) (Eq.trans (congrFun (gs12 4 (nm_1 (by decide) nm_0)) 1) (congrFun (gs6 4 (nm_1 (by decide) nm_0)) 1))) ?_
        refine lv_iconst (v := 1) hx hb dX2_readRoad_74 (by decide) ?_
        refine lv_isub hx hb dX2_readRoad_75 ?_
        refine lv_topi (fun z51 ez51 => ?_)
        have h52 : Iv (-1) 5 z51 := iv_sub ez51 h9 (iv_c (by decide) : Iv 1 1 1) (by decide) (by decide) (by decide) (by decide)
        refine ca_i hP hD hS hA (fun hDc => run_V (mc := 0) (ms := 0) (As := [.int 0, .int z51]) (rest := []) S (s_X2_passNumber l D k a s16 sl  0 z51 _  hBs16  ) lkX2_89 ok_X2_passNumber ⟨rfl, rfl, Nat.le_of_ble_eq_true rfl, Nat.le_of_ble_eq_true rfl⟩ (pw_V (ci := 2) (q0 := 1) hK hN rfl cw_1 hP hDc) rfl hl.1 rfl (Nat.le_of_ble_eq_true rfl) ⟨Nat.zero_le _, Nat.zero_le _⟩ dX2_readRoad_76) (fun r54 s53 H9 locs9 hs53 hP9 hD9 hS9 => ?_)
        clear hP hD hS
        have hS := hS9
        have hP := hP9
        have hD := hD9
        clear hP9 hD9 hS9
        obtain ⟨hBs53, gs53, fs53⟩ := hs53
        have hFs53 : FR [1, 5, 6, 7, 4] st s53 := fr_ca hFs16 gs53 (sub_1 (List.mem_of_getElem? (i := 0) rfl) sub_0)
        have k55 := fs53
        refine lv_istore_n (lv' := [(2, .int r54), (1, .int r13), (0, .ref (a 1))]) hx hb dX2_readRoad_79 rfl hl (by decide) rfl (fun ls hl => ?_)
        refine lv_aload_n hx hb dX2_readRoad_80 rfl (lv_at hl 2 rfl) ?_
        obtain ⟨w56, vw56, tw56⟩ := hX.2 _ (List.mem_of_getElem? (l := LIT) (i := 5) rfl)
        have vw56 : vk_R RX2 108 "miles" w56 s := vw56
        have tw56 : STA A w56 5 (fun j9 => ([109, 105, 108, 101, 115] : List Int32).getD j9 0) s s.heap := tw56
        refine va_ldcS hx hb hown vw56 dX2_readRoad_81 ?_
        refine ca_v hP hD hS hA (fun hDc => run_V (mc := 0) (ms := 0) (As := [.ref w56]) (rest := []) S (s_X2_passWord l D k a s53 sl   w56 5 (fun j9 => ([109, 105, 108, 101, 115] : List Int32).getD j9 0) _  hBs53 (by decide) ) lkX2_83 ok_X2_passWord ⟨rfl, rfl, Nat.le_of_ble_eq_true rfl, Nat.le_of_ble_eq_true rfl⟩ (px_V (ci := 2) (q0 := 1) nice_NSW hK hN rfl cw_1 hP hDc (show NSW w56 5 (fun j9 => ([109, 105, 108, 101, 115] : List Int32).getD j9 0) A s s.heap from ⟨hX, tw56⟩) hS (px_free hD hS hA)) rfl hl.1 rfl (Nat.le_of_ble_eq_true rfl) ⟨Nat.zero_le _, Nat.zero_le _⟩ dX2_readRoad_83) (fun s57 H9 locs9 hs57 hP9 hD9 hS9 => ?_)
        clear hP hD hS
        have hS := hS9
        have hP := hP9
        have hD := hD9
        clear hP9 hD9 hS9
        obtain ⟨hBs57, gs57, fs57⟩ := hs57
        have hFs57 : FR [1, 5, 6, 7, 4] st s57 := fr_ca hFs53 gs57 (sub_1 (List.mem_of_getElem? (i := 0) rfl) sub_0)
        have k59 := fs57
        refine lv_aload_n hx hb dX2_readRoad_86 rfl (lv_at hl 2 rfl) ?_
        refine lv_iconst (v := 1) hx hb dX2_readRoad_87 (by decide) ?_
        refine lv_bipush (v := 20) hx hb dX2_readRoad_88 (by decide) ?_
        refine ca_i hP hD hS hA (fun hDc => run_V (mc := 0) (ms := 0) (As := [.int 1, .int 20]) (rest := []) S (s_X2_passNumber l D k a s57 sl  1 20 _  hBs57  ) lkX2_89 ok_X2_passNumber ⟨rfl, rfl, Nat.le_of_ble_eq_true rfl, Nat.le_of_ble_eq_true rfl⟩ (pw_V (ci := 2) (q0 := 1) hK hN rfl cw_1 hP hDc) rfl hl.1 rfl (Nat.le_of_ble_eq_true rfl) ⟨Nat.zero_le _, Nat.zero_le _⟩ dX2_readRoad_90) (fun r61 s60 H9 locs9 hs60 hP9 hD9 hS9 => ?_)
        clear hP hD hS
        have hS := hS9
        have hP := hP9
        have hD := hD9
        clear hP9 hD9 hS9
        obtain ⟨hBs60, gs60, fs60⟩ := hs60
        have hFs60 : FR [1, 5, 6, 7, 4] st s60 := fr_ca hFs57 gs60 (sub_1 (List.mem_of_getElem? (i := 0) rfl) sub_0)
        have k62 := fs60
        refine lv_istore_n (lv' := [(3, .int r61), (2, .int r54), (1, .int r13), (0, .ref (a 1))]) hx hb dX2_readRoad_93 rfl hl (by decide) rfl (fun ls hl => ?_)
        refine lv_aload_n hx hb dX2_readRoad_94 rfl (lv_at hl 3 rfl) ?_
        refine va_get (D := D) (ci := 2) (v := .int (s60 1 2)) (C := RX2) (T := TX2) (N := 8) hx hb hT in_X2 hown hK hP 1 cw_1 rfl 2 (by decide) (hT _ t276) (fun _ h9 => h9) rfl dX2_readRoad_95 ?_
        refine lv_if_ne (tgt := 111) hx hb dX2_readRoad_98 (by decide) (fun c63 => ?_) (fun c63 => ?_)
        · skip
          rw [hQ]
          exact W.vret hx hb hr (fun t ht hW => ⟨⟨s60, rfl, ⟨hBs60, hFs60, (Eq.trans (congrFun (gs60 4 (nm_1 (by decide) nm_0)) 0) (Eq.trans (congrFun (gs57 4 (nm_1 (by decide) nm_0)) 0) (Eq.trans (congrFun (gs53 4 (nm_1 (by decide) nm_0)) 0) (Eq.trans (congrFun (gs16 4 (nm_1 (by decide) nm_0)) 0) (Eq.trans (congrFun (gs12 4 (nm_1 (by decide) nm_0)) 0) (congrFun (gs6 4 (nm_1 (by decide) nm_0)) 0)))))), (Eq.trans (congrFun (gs60 4 (nm_1 (by decide) nm_0)) 1) (Eq.trans (congrFun (gs57 4 (nm_1 (by decide) nm_0)) 1) (Eq.trans (congrFun (gs53 4 (nm_1 (by decide) nm_0)) 1) (Eq.trans (congrFun (gs16 4 (nm_1 (by decide) nm_0)) 1) (Eq.trans (congrFun (gs12 4 (nm_1 (by decide) nm_0)) 1) (congrFun (gs6 4 (nm_1 (by decide) nm_0)) 1)))))), (Eq.trans (congrFun (gs60 4 (nm_1 (by decide) nm_0)) 2) (Eq.trans (congrFun (gs57 4 (nm_1 (by decide) nm_0)) 2) (Eq.trans (congrFun (gs53 4 (nm_1 (by decide) nm_0)) 2) (Eq.trans (congrFun (gs16 4 (nm_1 (by decide) nm_0)) 2) (Eq.trans (congrFun (gs12 4 (nm_1 (by decide) nm_0)) 2) (congrFun (gs6 4 (nm_1 (by decide) nm_0)) 2)))))), (Eq.trans (congrFun (gs60 4 (nm_1 (by decide) nm_0)) 4) (Eq.trans (congrFun (gs57 4 (nm_1 (by decide) nm_0)) 4) (Eq.trans (congrFun (gs53 4 (nm_1 (by decide) nm_0)) 4) (Eq.trans (congrFun (gs16 4 (nm_1 (by decide) nm_0)) 4) (Eq.trans (congrFun (gs12 4 (nm_1 (by decide) nm_0)) 4) (congrFun (gs6 4 (nm_1 (by decide) nm_0)) 4)))))), (Eq.trans (congrFun (gs60 4 (nm_1 (by decide) nm_0)) 5) (Eq.trans (congrFun (gs57 4 (nm_1 (by decide) nm_0)) 5) (Eq.trans (congrFun (gs53 4 (nm_1 (by decide) nm_0)) 5) (Eq.trans (congrFun (gs16 4 (nm_1 (by decide) nm_0)) 5) (Eq.trans (congrFun (gs12 4 (nm_1 (by decide) nm_0)) 5) (congrFun (gs6 4 (nm_1 (by decide) nm_0)) 5)))))), (Eq.trans (congrFun (gs60 4 (nm_1 (by decide) nm_0)) 6) (Eq.trans (congrFun (gs57 4 (nm_1 (by decide) nm_0)) 6) (Eq.trans (congrFun (gs53 4 (nm_1 (by decide) nm_0)) 6) (Eq.trans (congrFun (gs16 4 (nm_1 (by decide) nm_0)) 6) (Eq.trans (congrFun (gs12 4 (nm_1 (by decide) nm_0)) 6) (congrFun (gs6 4 (nm_1 (by decide) nm_0)) 6)))))), trivial⟩, by rw [ht]; exact hP, va_K.moved hW.alike (hK.sub (tys' := []) [] rfl), by rw [hAe]; exact hD⟩, by rw [hAe]; exact hS.F ht⟩) hS.2.2 dX2_readRoad_111
        · skip
          have h64 : Iv 0 0 (s60 1 2) := eq_l c63 (iv_c (by decide) : Iv 0 0 0)
          have k65 : (s60 1 2) = 0 := c63
          have k66 : (s57 1 2) = 0 := (fun z9 => (k62 z9).1) k65
          have k67 := (fun z9 => (⟨Int.le_trans ((iv_c (by decide) : Iv 1 1 1)).1 (k62 z9).2.1, Int.le_trans (k62 z9).2.2 ((iv_c (by decide) : Iv 20 20 20)).2⟩ : Iv 1 20 r61)) k65
          have h68 : Iv 1 20 r61 := ⟨k67.1, k67.2⟩
          have k69 : (s53 1 2) = 0 := k59 k66
          have k70 : (s16 1 2) = 0 := (fun z9 => (k55 z9).1) k69
          have k71 := (fun z9 => (⟨Int.le_trans ((iv_c (by decide) : Iv 0 0 0)).1 (k55 z9).2.1, Int.le_trans (k55 z9).2.2 (h52).2⟩ : Iv 0 5 r54)) k69
          have h72 : Iv 0 5 r54 := ⟨k71.1, k71.2⟩
          have k73 : (s12 1 2) = 0 := k18 k70
          have k74 : (s6 1 2) = 0 := (fun z9 => (k14 z9).1) k73
          have k75 := (fun z9 => (⟨Int.le_trans ((iv_c (by decide) : Iv 0 0 0)).1 (k14 z9).2.1, Int.le_trans (k14 z9).2.2 (h11).2⟩ : Iv 0 5 r13)) k73
          have h76 : Iv 0 5 r13 := ⟨k75.1, k75.2⟩
          have k77 : (st 1 2) = 0 := k8 k74
          refine lv_aload_n hx hb dX2_readRoad_101 rfl (lv_at hl 3 rfl) ?_
          refine va_get (D := D) (ci := 2) (v := .ref (a 4)) (C := RX2) (T := TX2) (N := 8) hx hb hT in_X2 hown hK hP 1 cw_1 rfl 1 (by decide) (hT _ t274) (fun _ h9 => h9) rfl dX2_readRoad_102 ?_
          refine lv_iload_n hx hb dX2_readRoad_105 rfl (lv_at hl 2 rfl) ?_
          refine lv_iload_n hx hb dX2_readRoad_106 rfl (lv_at hl 1 rfl) ?_
          refine lv_iload_n hx hb dX2_readRoad_107 rfl (lv_at hl 0 rfl) ?_
          refine ca_v hP hD hS hA (fun hDc => run_V (mc := 0) (ms := 0) (As := [.int r13, .int r54, .int r61]) (rest := []) S (s_X1_addRoad l D k a s60 sl  r13 r54 r61 _  hBs60 h76 h72 ) lkX2_110 ok_X1_addRoad ⟨rfl, rfl, Nat.le_of_ble_eq_true rfl, Nat.le_of_ble_eq_true rfl⟩ (pw_V (ci := 1) (q0 := 4) hK hN rfl cw_4 hP hDc) rfl hl.1 rfl (Nat.le_of_ble_eq_true rfl) ⟨Nat.zero_le _, Nat.zero_le _⟩ dX2_readRoad_108) (fun s78 H9 locs9 hs78 hP9 hD9 hS9 => ?_)
          clear hP hD hS
          have hS := hS9
          have hP := hP9
          have hD := hD9
          clear hP9 hD9 hS9
          obtain ⟨hBs78, gs78, qs78_0, qs78_1, qs78_2, qs78_3, qs78_4, qs78_5, fs78⟩ := hs78
          have hFs78 : FR [1, 5, 6, 7, 4] st s78 := fr_ca hFs60 gs78 (sub_1 (List.mem_of_getElem? (i := 1) rfl) (sub_1 (List.mem_of_getElem? (i := 2) rfl) (sub_1 (List.mem_of_getElem? (i := 3) rfl) (sub_1 (List.mem_of_getElem? (i := 4) rfl) sub_0))))
          rw [hQ]
          exact W.vret hx hb hr (fun t ht hW => ⟨⟨s78, rfl, ⟨hBs78, hFs78, (Eq.trans qs78_0 (Eq.trans (congrFun (gs60 4 (nm_1 (by decide) nm_0)) 0) (Eq.trans (congrFun (gs57 4 (nm_1 (by decide) nm_0)) 0) (Eq.trans (congrFun (gs53 4 (nm_1 (by decide) nm_0)) 0) (Eq.trans (congrFun (gs16 4 (nm_1 (by decide) nm_0)) 0) (Eq.trans (congrFun (gs12 4 (nm_1 (by decide) nm_0)) 0) (congrFun (gs6 4 (nm_1 (by decide) nm_0)) 0))))))), (Eq.trans qs78_1 (Eq.trans (congrFun (gs60 4 (nm_1 (by decide) nm_0)) 1) (Eq.trans (congrFun (gs57 4 (nm_1 (by decide) nm_0)) 1) (Eq.trans (congrFun (gs53 4 (nm_1 (by decide) nm_0)) 1) (Eq.trans (congrFun (gs16 4 (nm_1 (by decide) nm_0)) 1) (Eq.trans (congrFun (gs12 4 (nm_1 (by decide) nm_0)) 1) (congrFun (gs6 4 (nm_1 (by decide) nm_0)) 1))))))), (Eq.trans qs78_2 (Eq.trans (congrFun (gs60 4 (nm_1 (by decide) nm_0)) 2) (Eq.trans (congrFun (gs57 4 (nm_1 (by decide) nm_0)) 2) (Eq.trans (congrFun (gs53 4 (nm_1 (by decide) nm_0)) 2) (Eq.trans (congrFun (gs16 4 (nm_1 (by decide) nm_0)) 2) (Eq.trans (congrFun (gs12 4 (nm_1 (by decide) nm_0)) 2) (congrFun (gs6 4 (nm_1 (by decide) nm_0)) 2))))))), (Eq.trans qs78_3 (Eq.trans (congrFun (gs60 4 (nm_1 (by decide) nm_0)) 4) (Eq.trans (congrFun (gs57 4 (nm_1 (by decide) nm_0)) 4) (Eq.trans (congrFun (gs53 4 (nm_1 (by decide) nm_0)) 4) (Eq.trans (congrFun (gs16 4 (nm_1 (by decide) nm_0)) 4) (Eq.trans (congrFun (gs12 4 (nm_1 (by decide) nm_0)) 4) (congrFun (gs6 4 (nm_1 (by decide) nm_0)) 4))))))), (Eq.trans qs78_4 (Eq.trans (congrFun (gs60 4 (nm_1 (by decide) nm_0)) 5) (Eq.trans (congrFun (gs57 4 (nm_1 (by decide) nm_0)) 5) (Eq.trans (congrFun (gs53 4 (nm_1 (by decide) nm_0)) 5) (Eq.trans (congrFun (gs16 4 (nm_1 (by decide) nm_0)) 5) (Eq.trans (congrFun (gs12 4 (nm_1 (by decide) nm_0)) 5) (congrFun (gs6 4 (nm_1 (by decide) nm_0)) 5))))))), (Eq.trans qs78_5 (Eq.trans (congrFun (gs60 4 (nm_1 (by decide) nm_0)) 6) (Eq.trans (congrFun (gs57 4 (nm_1 (by decide) nm_0)) 6) (Eq.trans (congrFun (gs53 4 (nm_1 (by decide) nm_0)) 6) (Eq.trans (congrFun (gs16 4 (nm_1 (by decide) nm_0)) 6) (Eq.trans (congrFun (gs12 4 (nm_1 (by decide) nm_0)) 6) (congrFun (gs6 4 (nm_1 (by decide) nm_0)) 6))))))), trivial⟩, by rw [ht]; exact hP, va_K.moved hW.alike (hK.sub (tys' := []) [] rfl), by rw [hAe]; exact hD⟩, by rw [hAe]; exact hS.F ht⟩) hS.2.2 dX2_readRoad_111
      · skip
        refine lv_aload_n hx hb dX2_readRoad_60 rfl (lv_at hl 1 rfl) ?_
        refine lv_iconst (v := 2) hx hb dX2_readRoad_61 (by decide) ?_
        refine ca_v hP hD hS hA (fun hDc => run_V (mc := 0) (ms := 0) (As := [.int 2]) (rest := []) S (s_X2_fail l D k a s16 sl  2 _  hBs16 (iv_mono (c := 1) (d := 3) (iv_c (by decide) : Iv 2 2 2) (by decide) (by decide)) ) lkX2_77 ok_X2_fail ⟨rfl, rfl, Nat.le_of_ble_eq_true rfl, Nat.le_of_ble_eq_true rfl⟩ (pw_V (ci := 2) (q0 := 1) hK hN rfl cw_1 hP hDc) rfl hl.1 rfl (Nat.le_of_ble_eq_true rfl) ⟨Nat.zero_le _, Nat.zero_le _⟩ dX2_readRoad_62) (fun s80 H9 locs9 hs80 hP9 hD9 hS9 => ?_)
        clear hP hD hS
        have hS := hS9
        have hP := hP9
        have hD := hD9
        clear hP9 hD9 hS9
        obtain ⟨hBs80, gs80, qs80_0, qs80_1, qs80_2, qs80_3, fs80⟩ := hs80
        have hFs80 : FR [1, 5, 6, 7, 4] st s80 := fr_ca hFs16 gs80 (sub_1 (List.mem_of_getElem? (i := 0) rfl) sub_0)
        have k82 := fs80
        refine lv_aload_n hx hb dX2_readRoad_65 rfl (lv_at hl 1 rfl) ?_
        refine lv_iconst (v := 0) hx hb dX2_readRoad_66 (by decide) ?_
        refine lv_aload_n hx hb dX2_readRoad_67 rfl (lv_at hl 1 rfl) ?_
        refine va_get (D := D) (ci := 2) (v := .ref (a 4)) (C := RX2) (T := TX2) (N := 8) hx hb hT in_X2 hown hK hP 1 cw_1 rfl 1 (by decide) (hT _ t274) (fun _ h9 => h9) rfl dX2_readRoad_68 ?_
        refine va_get (D := D) (ci := 1) (v := .int (s80 4 1)) (C := RX1) (T := TX1) (N := 14) hx hb hT in_X1 hown hK hP 4 cw_4 rfl 1 (by decide) (hT _ t200) (fun _ h9 => h9) rfl dX2_readRoad_71 ?_
        refine k_top (y := (st 4 1)) (Eq.trans (congrFun (gs80 4 (nm_1 (by decide) nm_0)) 1) (Eq.trans (congrFun (gs16 4 (nm_1 (by decide) nm_0)) 1) (Eq.trans (congrFun (gs12 4 (nm_1 (by decide) nm_0)) 1) (congrFun (gs6 4 (nm_1 (by decide) nm_0)) 1)))) ?_
        refine lv_iconst (v := 1) hx hb dX2_readRoad_74 (by decide) ?_
        refine lv_isub hx hb dX2_readRoad_75 ?_
        refine lv_topi (fun z83 ez83 => ?_)
        have h84 : Iv (-1) 5 z83 := iv_sub ez83 h9 (iv_c (by decide) : Iv 1 1 1) (by decide) (by decide) (by decide) (by decide)
        refine ca_i hP hD hS hA (fun hDc => run_V (mc := 0) (ms := 0) (As := [.int 0, .int z83]) (rest := []) S (s_X2_passNumber l D k a s80 sl  0 z83 _  hBs80  ) lkX2_89 ok_X2_passNumber ⟨rfl, rfl, Nat.le_of_ble_eq_true rfl, Nat.le_of_ble_eq_true rfl⟩ (pw_V (ci := 2) (q0 := 1) hK hN rfl cw_1 hP hDc) rfl hl.1 rfl (Nat.le_of_ble_eq_true rfl) ⟨Nat.zero_le _, Nat.zero_le _⟩ dX2_readRoad_76) (fun r86 s85 H9 locs9 hs85 hP9 hD9 hS9 => ?_)
        clear hP hD hS
        have hS := hS9
        have hP := hP9
        have hD := hD9
        clear hP9 hD9 hS9
        obtain ⟨hBs85, gs85, fs85⟩ := hs85
        have hFs85 : FR [1, 5, 6, 7, 4] st s85 := fr_ca hFs80 gs85 (sub_1 (List.mem_of_getElem? (i := 0) rfl) sub_0)
        have k87 := fs85
        refine lv_istore_n (lv' := [(2, .int r86), (1, .int r13), (0, .ref (a 1))]) hx hb dX2_readRoad_79 rfl hl (by decide) rfl (fun ls hl => ?_)
        refine lv_aload_n hx hb dX2_readRoad_80 rfl (lv_at hl 2 rfl) ?_
        obtain ⟨w88, vw88, tw88⟩ := hX.2 _ (List.mem_of_getElem? (l := LIT) (i := 5) rfl)
        have vw88 : vk_R RX2 108 "miles" w88 s := vw88
        have tw88 : STA A w88 5 (fun j9 => ([109, 105, 108, 101, 115] : List Int32).getD j9 0) s s.heap := tw88
        refine va_ldcS hx hb hown vw88 dX2_readRoad_81 ?_
        refine ca_v hP hD hS hA (fun hDc => run_V (mc := 0) (ms := 0) (As := [.ref w88]) (rest := []) S (s_X2_passWord l D k a s85 sl   w88 5 (fun j9 => ([109, 105, 108, 101, 115] : List Int32).getD j9 0) _  hBs85 (by decide) ) lkX2_83 ok_X2_passWord ⟨rfl, rfl, Nat.le_of_ble_eq_true rfl, Nat.le_of_ble_eq_true rfl⟩ (px_V (ci := 2) (q0 := 1) nice_NSW hK hN rfl cw_1 hP hDc (show NSW w88 5 (fun j9 => ([109, 105, 108, 101, 115] : List Int32).getD j9 0) A s s.heap from ⟨hX, tw88⟩) hS (px_free hD hS hA)) rfl hl.1 rfl (Nat.le_of_ble_eq_true rfl) ⟨Nat.zero_le _, Nat.zero_le _⟩ dX2_readRoad_83) (fun s89 H9 locs9 hs89 hP9 hD9 hS9 => ?_)
        clear hP hD hS
        have hS := hS9
        have hP := hP9
        have hD := hD9
        clear hP9 hD9 hS9
        obtain ⟨hBs89, gs89, fs89⟩ := hs89
        have hFs89 : FR [1, 5, 6, 7, 4] st s89 := fr_ca hFs85 gs89 (sub_1 (List.mem_of_getElem? (i := 0) rfl) sub_0)
        have k91 := fs89
        refine lv_aload_n hx hb dX2_readRoad_86 rfl (lv_at hl 2 rfl) ?_
        refine lv_iconst (v := 1) hx hb dX2_readRoad_87 (by decide) ?_
        refine lv_bipush (v := 20) hx hb dX2_readRoad_88 (by decide) ?_
        refine ca_i hP hD hS hA (fun hDc => run_V (mc := 0) (ms := 0) (As := [.int 1, .int 20]) (rest := []) S (s_X2_passNumber l D k a s89 sl  1 20 _  hBs89  ) lkX2_89 ok_X2_passNumber ⟨rfl, rfl, Nat.le_of_ble_eq_true rfl, Nat.le_of_ble_eq_true rfl⟩ (pw_V (ci := 2) (q0 := 1) hK hN rfl cw_1 hP hDc) rfl hl.1 rfl (Nat.le_of_ble_eq_true rfl) ⟨Nat.zero_le _, Nat.zero_le _⟩ dX2_readRoad_90) (fun r93 s92 H9 locs9 hs92 hP9 hD9 hS9 => ?_)
        clear hP hD hS
        have hS := hS9
        have hP := hP9
        have hD := hD9
        clear hP9 hD9 hS9
        obtain ⟨hBs92, gs92, fs92⟩ := hs92
        have hFs92 : FR [1, 5, 6, 7, 4] st s92 := fr_ca hFs89 gs92 (sub_1 (List.mem_of_getElem? (i := 0) rfl) sub_0)
        have k94 := fs92
        refine lv_istore_n (lv' := [(3, .int r93), (2, .int r86), (1, .int r13), (0, .ref (a 1))]) hx hb dX2_readRoad_93 rfl hl (by decide) rfl (fun ls hl => ?_)
        refine lv_aload_n hx hb dX2_readRoad_94 rfl (lv_at hl 3 rfl) ?_
        refine va_get (D := D) (ci := 2) (v := .int (s92 1 2)) (C := RX2) (T := TX2) (N := 8) hx hb hT in_X2 hown hK hP 1 cw_1 rfl 2 (by decide) (hT _ t276) (fun _ h9 => h9) rfl dX2_readRoad_95 ?_
        refine lv_if_ne (tgt := 111) hx hb dX2_readRoad_98 (by decide) (fun c95 => ?_) (fun c95 => ?_)
        · skip
          rw [hQ]
          exact W.vret hx hb hr (fun t ht hW => ⟨⟨s92, rfl, ⟨hBs92, hFs92, (Eq.trans (congrFun (gs92 4 (nm_1 (by decide) nm_0)) 0) (Eq.trans (congrFun (gs89 4 (nm_1 (by decide) nm_0)) 0) (Eq.trans (congrFun (gs85 4 (nm_1 (by decide) nm_0)) 0) (Eq.trans (congrFun (gs80 4 (nm_1 (by decide) nm_0)) 0) (Eq.trans (congrFun (gs16 4 (nm_1 (by decide) nm_0)) 0) (Eq.trans (congrFun (gs12 4 (nm_1 (by decide) nm_0)) 0) (congrFun (gs6 4 (nm_1 (by decide) nm_0)) 0))))))), (Eq.trans (congrFun (gs92 4 (nm_1 (by decide) nm_0)) 1) (Eq.trans (congrFun (gs89 4 (nm_1 (by decide) nm_0)) 1) (Eq.trans (congrFun (gs85 4 (nm_1 (by decide) nm_0)) 1) (Eq.trans (congrFun (gs80 4 (nm_1 (by decide) nm_0)) 1) (Eq.trans (congrFun (gs16 4 (nm_1 (by decide) nm_0)) 1) (Eq.trans (congrFun (gs12 4 (nm_1 (by decide) nm_0)) 1) (congrFun (gs6 4 (nm_1 (by decide) nm_0)) 1))))))), (Eq.trans (congrFun (gs92 4 (nm_1 (by decide) nm_0)) 2) (Eq.trans (congrFun (gs89 4 (nm_1 (by decide) nm_0)) 2) (Eq.trans (congrFun (gs85 4 (nm_1 (by decide) nm_0)) 2) (Eq.trans (congrFun (gs80 4 (nm_1 (by decide) nm_0)) 2) (Eq.trans (congrFun (gs16 4 (nm_1 (by decide) nm_0)) 2) (Eq.trans (congrFun (gs12 4 (nm_1 (by decide) nm_0)) 2) (congrFun (gs6 4 (nm_1 (by decide) nm_0)) 2))))))), (Eq.trans (congrFun (gs92 4 (nm_1 (by decide) nm_0)) 4) (Eq.trans (congrFun (gs89 4 (nm_1 (by decide) nm_0)) 4) (Eq.trans (congrFun (gs85 4 (nm_1 (by decide) nm_0)) 4) (Eq.trans (congrFun (gs80 4 (nm_1 (by decide) nm_0)) 4) (Eq.trans (congrFun (gs16 4 (nm_1 (by decide) nm_0)) 4) (Eq.trans (congrFun (gs12 4 (nm_1 (by decide) nm_0)) 4) (congrFun (gs6 4 (nm_1 (by decide) nm_0)) 4))))))), (Eq.trans (congrFun (gs92 4 (nm_1 (by decide) nm_0)) 5) (Eq.trans (congrFun (gs89 4 (nm_1 (by decide) nm_0)) 5) (Eq.trans (congrFun (gs85 4 (nm_1 (by decide) nm_0)) 5) (Eq.trans (congrFun (gs80 4 (nm_1 (by decide) nm_0)) 5) (Eq.trans (congrFun (gs16 4 (nm_1 (by decide) nm_0)) 5) (Eq.trans (congrFun (gs12 4 (nm_1 (by decide) nm_0)) 5) (congrFun (gs6 4 (nm_1 (by decide) nm_0)) 5))))))), (Eq.trans (congrFun (gs92 4 (nm_1 (by decide) nm_0)) 6) (Eq.trans (congrFun (gs89 4 (nm_1 (by decide) nm_0)) 6) (Eq.trans (congrFun (gs85 4 (nm_1 (by decide) nm_0)) 6) (Eq.trans (congrFun (gs80 4 (nm_1 (by decide) nm_0)) 6) (Eq.trans (congrFun (gs16 4 (nm_1 (by decide) nm_0)) 6) (Eq.trans (congrFun (gs12 4 (nm_1 (by decide) nm_0)) 6) (congrFun (gs6 4 (nm_1 (by decide) nm_0)) 6))))))), trivial⟩, by rw [ht]; exact hP, va_K.moved hW.alike (hK.sub (tys' := []) [] rfl), by rw [hAe]; exact hD⟩, by rw [hAe]; exact hS.F ht⟩) hS.2.2 dX2_readRoad_111
        · skip
          have h96 : Iv 0 0 (s92 1 2) := eq_l c95 (iv_c (by decide) : Iv 0 0 0)
          have k97 : (s92 1 2) = 0 := c95
          have k98 : (s89 1 2) = 0 := (fun z9 => (k94 z9).1) k97
          have k99 := (fun z9 => (⟨Int.le_trans ((iv_c (by decide) : Iv 1 1 1)).1 (k94 z9).2.1, Int.le_trans (k94 z9).2.2 ((iv_c (by decide) : Iv 20 20 20)).2⟩ : Iv 1 20 r93)) k97
          have h100 : Iv 1 20 r93 := ⟨k99.1, k99.2⟩
          have k101 : (s85 1 2) = 0 := k91 k98
          have k102 : (s80 1 2) = 0 := (fun z9 => (k87 z9).1) k101
          exact absurd k102 k82
  · skip
    have n103 : (8 : Int32).toInt ≤ (st 4 3).toInt := (i_nlt c2)
    have h104 : Iv 8 8 (st 4 3) := le_r (iv_c (by decide) : Iv 8 8 8) n103 h1 (by decide)
    refine lv_aload_n hx hb dX2_readRoad_12 rfl (lv_at hl 0 rfl) ?_
    refine lv_iconst (v := 3) hx hb dX2_readRoad_13 (by decide) ?_
    refine ca_v hP hD hS hA (fun hDc => run_V (mc := 0) (ms := 0) (As := [.int 3]) (rest := []) S (s_X2_fail l D k a st sl  3 _  hB (iv_mono (c := 1) (d := 3) (iv_c (by decide) : Iv 3 3 3) (by decide) (by decide)) ) lkX2_77 ok_X2_fail ⟨rfl, rfl, Nat.le_of_ble_eq_true rfl, Nat.le_of_ble_eq_true rfl⟩ (pw_V (ci := 2) (q0 := 1) hK hN rfl cw_1 hP hDc) rfl hl.1 rfl (Nat.le_of_ble_eq_true rfl) ⟨Nat.zero_le _, Nat.zero_le _⟩ dX2_readRoad_14) (fun s105 H9 locs9 hs105 hP9 hD9 hS9 => ?_)
    clear hP hD hS
    have hS := hS9
    have hP := hP9
    have hD := hD9
    clear hP9 hD9 hS9
    obtain ⟨hBs105, gs105, qs105_0, qs105_1, qs105_2, qs105_3, fs105⟩ := hs105
    have hFs105 : FR [1, 5, 6, 7, 4] st s105 := fr_ca fr_rf gs105 (sub_1 (List.mem_of_getElem? (i := 0) rfl) sub_0)
    have k107 := fs105
    refine lv_aload_n hx hb dX2_readRoad_17 rfl (lv_at hl 0 rfl) ?_
    obtain ⟨w108, vw108, tw108⟩ := hX.2 _ (List.mem_of_getElem? (l := LIT) (i := 3) rfl)
    have vw108 : vk_R RX2 53 "road" w108 s := vw108
    have tw108 : STA A w108 4 (fun j9 => ([114, 111, 97, 100] : List Int32).getD j9 0) s s.heap := tw108
    refine va_ldcS hx hb hown vw108 dX2_readRoad_18 ?_
    refine ca_v hP hD hS hA (fun hDc => run_V (mc := 0) (ms := 0) (As := [.ref w108]) (rest := []) S (s_X2_passWord l D k a s105 sl   w108 4 (fun j9 => ([114, 111, 97, 100] : List Int32).getD j9 0) _  hBs105 (by decide) ) lkX2_83 ok_X2_passWord ⟨rfl, rfl, Nat.le_of_ble_eq_true rfl, Nat.le_of_ble_eq_true rfl⟩ (px_V (ci := 2) (q0 := 1) nice_NSW hK hN rfl cw_1 hP hDc (show NSW w108 4 (fun j9 => ([114, 111, 97, 100] : List Int32).getD j9 0) A s s.heap from ⟨hX, tw108⟩) hS (px_free hD hS hA)) rfl hl.1 rfl (Nat.le_of_ble_eq_true rfl) ⟨Nat.zero_le _, Nat.zero_le _⟩ dX2_readRoad_20) (fun s109 H9 locs9 hs109 hP9 hD9 hS9 => ?_)
    clear hP hD hS
    have hS := hS9
    have hP := hP9
    have hD := hD9
    clear hP9 hD9 hS9
    obtain ⟨hBs109, gs109, fs109⟩ := hs109
    have hFs109 : FR [1, 5, 6, 7, 4] st s109 := fr_ca hFs105 gs109 (sub_1 (List.mem_of_getElem? (i := 0) rfl) sub_0)
    have k111 := fs109
    refine lv_aload_n hx hb dX2_readRoad_23 rfl (lv_at hl 0 rfl) ?_
    refine lv_iconst (v := 0) hx hb dX2_readRoad_24 (by decide) ?_
    refine lv_aload_n hx hb dX2_readRoad_25 rfl (lv_at hl 0 rfl) ?_
    refine va_get (D := D) (ci := 2) (v := .ref (a 4)) (C := RX2) (T := TX2) (N := 8) hx hb hT in_X2 hown hK hP 1 cw_1 rfl 1 (by decide) (hT _ t274) (fun _ h9 => h9) rfl dX2_readRoad_26 ?_
    refine va_get (D := D) (ci := 1) (v := .int (s109 4 1)) (C := RX1) (T := TX1) (N := 14) hx hb hT in_X1 hown hK hP 4 cw_4 rfl 1 (by decide) (hT _ t200) (fun _ h9 => h9) rfl dX2_readRoad_29 ?_
    refine k_top (y := (st 4 1)) (Eq.trans (congrFun (gs109 4 (nm_1 (by decide) nm_0)) 1) (congrFun (gs105 4 (nm_1 (by decide) nm_0)) 1)) ?_
    have h112 : Iv 0 6 (st 4 1) := (rb_4_1 hB)
    refine lv_iconst (v := 1) hx hb dX2_readRoad_32 (by decide) ?_
    refine lv_isub hx hb dX2_readRoad_33 ?_
    refine lv_topi (fun z113 ez113 => ?_)
    have h114 : Iv (-1) 5 z113 := iv_sub ez113 h112 (iv_c (by decide) : Iv 1 1 1) (by decide) (by decide) (by decide) (by decide)
    refine ca_i hP hD hS hA (fun hDc => run_V (mc := 0) (ms := 0) (As := [.int 0, .int z113]) (rest := []) S (s_X2_passNumber l D k a s109 sl  0 z113 _  hBs109  ) lkX2_89 ok_X2_passNumber ⟨rfl, rfl, Nat.le_of_ble_eq_true rfl, Nat.le_of_ble_eq_true rfl⟩ (pw_V (ci := 2) (q0 := 1) hK hN rfl cw_1 hP hDc) rfl hl.1 rfl (Nat.le_of_ble_eq_true rfl) ⟨Nat.zero_le _, Nat.zero_le _⟩ dX2_readRoad_34) (fun r116 s115 H9 locs9 hs115 hP9 hD9 hS9 => ?_)
    clear hP hD hS
    have hS := hS9
    have hP := hP9
    have hD := hD9
    clear hP9 hD9 hS9
    obtain ⟨hBs115, gs115, fs115⟩ := hs115
    have hFs115 : FR [1, 5, 6, 7, 4] st s115 := fr_ca hFs109 gs115 (sub_1 (List.mem_of_getElem? (i := 0) rfl) sub_0)
    have k117 := fs115
    refine lv_istore_n (lv' := [(1, .int r116), (0, .ref (a 1))]) hx hb dX2_readRoad_37 rfl hl (by decide) rfl (fun ls hl => ?_)
    refine lv_aload_n hx hb dX2_readRoad_38 rfl (lv_at hl 1 rfl) ?_
    obtain ⟨w118, vw118, tw118⟩ := hX.2 _ (List.mem_of_getElem? (l := LIT) (i := 4) rfl)
    have vw118 : vk_R RX2 103 "to" w118 s := vw118
    have tw118 : STA A w118 2 (fun j9 => ([116, 111] : List Int32).getD j9 0) s s.heap := tw118
    refine va_ldcS hx hb hown vw118 dX2_readRoad_39 ?_
    refine ca_v hP hD hS hA (fun hDc => run_V (mc := 0) (ms := 0) (As := [.ref w118]) (rest := []) S (s_X2_passWord l D k a s115 sl   w118 2 (fun j9 => ([116, 111] : List Int32).getD j9 0) _  hBs115 (by decide) ) lkX2_83 ok_X2_passWord ⟨rfl, rfl, Nat.le_of_ble_eq_true rfl, Nat.le_of_ble_eq_true rfl⟩ (px_V (ci := 2) (q0 := 1) nice_NSW hK hN rfl cw_1 hP hDc (show NSW w118 2 (fun j9 => ([116, 111] : List Int32).getD j9 0) A s s.heap from ⟨hX, tw118⟩) hS (px_free hD hS hA)) rfl hl.1 rfl (Nat.le_of_ble_eq_true rfl) ⟨Nat.zero_le _, Nat.zero_le _⟩ dX2_readRoad_41) (fun s119 H9 locs9 hs119 hP9 hD9 hS9 => ?_)
    clear hP hD hS
    have hS := hS9
    have hP := hP9
    have hD := hD9
    clear hP9 hD9 hS9
    obtain ⟨hBs119, gs119, fs119⟩ := hs119
    have hFs119 : FR [1, 5, 6, 7, 4] st s119 := fr_ca hFs115 gs119 (sub_1 (List.mem_of_getElem? (i := 0) rfl) sub_0)
    have k121 := fs119
    refine lv_aload_n hx hb dX2_readRoad_44 rfl (lv_at hl 1 rfl) ?_
    refine va_get (D := D) (ci := 2) (v := .int (s119 1 4)) (C := RX2) (T := TX2) (N := 8) hx hb hT in_X2 hown hK hP 1 cw_1 rfl 4 (by decide) (hT _ t280) (fun _ h9 => h9) rfl dX2_readRoad_45 ?_
    refine lv_iconst (v := 2) hx hb dX2_readRoad_48 (by decide) ?_
    refine lv_icmp_ne (tgt := 65) hx hb dX2_readRoad_49 (by decide) (fun c122 => ?_) (fun c122 => ?_)
    · skip
      refine lv_aload_n hx hb dX2_readRoad_65 rfl (lv_at hl 1 rfl) ?_
      refine lv_iconst (v := 0) hx hb dX2_readRoad_66 (by decide) ?_
      refine lv_aload_n hx hb dX2_readRoad_67 rfl (lv_at hl 1 rfl) ?_
      refine va_get (D := D) (ci := 2) (v := .ref (a 4)) (C := RX2) (T := TX2) (N := 8) hx hb hT in_X2 hown hK hP 1 cw_1 rfl 1 (by decide) (hT _ t274) (fun _ h9 => h9) rfl dX2_readRoad_68 ?_
      refine va_get (D := D) (ci := 1) (v := .int (s119 4 1)) (C := RX1) (T := TX1) (N := 14) hx hb hT in_X1 hown hK hP 4 cw_4 rfl 1 (by decide) (hT _ t200) (fun _ h9 => h9) rfl dX2_readRoad_71 ?_
      refine k_top (y := (st 4 1)) (Eq.trans (congrFun (gs119 4 (nm_1 (by decide) nm_0)) 1) (Eq.trans (congrFun (gs115 4 (nm_1 (by decide) nm_0)) 1) (Eq.trans (congrFun (gs109 4 (nm_1 (by decide) nm_0)) 1) (congrFun (gs105 4 (nm_1 (by decide) nm_0)) 1)))) ?_
      refine lv_iconst (v := 1) hx hb dX2_readRoad_74 (by decide) ?_
      refine lv_isub hx hb dX2_readRoad_75 ?_
      refine lv_topi (fun z123 ez123 => ?_)
      have h124 : Iv (-1) 5 z123 := iv_sub ez123 h112 (iv_c (by decide) : Iv 1 1 1) (by decide) (by decide) (by decide) (by decide)
      refine ca_i hP hD hS hA (fun hDc => run_V (mc := 0) (ms := 0) (As := [.int 0, .int z123]) (rest := []) S (s_X2_passNumber l D k a s119 sl  0 z123 _  hBs119  ) lkX2_89 ok_X2_passNumber ⟨rfl, rfl, Nat.le_of_ble_eq_true rfl, Nat.le_of_ble_eq_true rfl⟩ (pw_V (ci := 2) (q0 := 1) hK hN rfl cw_1 hP hDc) rfl hl.1 rfl (Nat.le_of_ble_eq_true rfl) ⟨Nat.zero_le _, Nat.zero_le _⟩ dX2_readRoad_76) (fun r126 s125 H9 locs9 hs125 hP9 hD9 hS9 => ?_)
      clear hP hD hS
      have hS := hS9
      have hP := hP9
      have hD := hD9
      clear hP9 hD9 hS9
      obtain ⟨hBs125, gs125, fs125⟩ := hs125
      have hFs125 : FR [1, 5, 6, 7, 4] st s125 := fr_ca hFs119 gs125 (sub_1 (List.mem_of_getElem? (i := 0) rfl) sub_0)
      have k127 := fs125
      refine lv_istore_n (lv' := [(2, .int r126), (1, .int r116), (0, .ref (a 1))]) hx hb dX2_readRoad_79 rfl hl (by decide) rfl (fun ls hl => ?_)
      refine lv_aload_n hx hb dX2_readRoad_80 rfl (lv_at hl 2 rfl) ?_
      obtain ⟨w128, vw128, tw128⟩ := hX.2 _ (List.mem_of_getElem? (l := LIT) (i := 5) rfl)
      have vw128 : vk_R RX2 108 "miles" w128 s := vw128
      have tw128 : STA A w128 5 (fun j9 => ([109, 105, 108, 101, 115] : List Int32).getD j9 0) s s.heap := tw128
      refine va_ldcS hx hb hown vw128 dX2_readRoad_81 ?_
      refine ca_v hP hD hS hA (fun hDc => run_V (mc := 0) (ms := 0) (As := [.ref w128]) (rest := []) S (s_X2_passWord l D k a s125 sl   w128 5 (fun j9 => ([109, 105, 108, 101, 115] : List Int32).getD j9 0) _  hBs125 (by decide) ) lkX2_83 ok_X2_passWord ⟨rfl, rfl, Nat.le_of_ble_eq_true rfl, Nat.le_of_ble_eq_true rfl⟩ (px_V (ci := 2) (q0 := 1) nice_NSW hK hN rfl cw_1 hP hDc (show NSW w128 5 (fun j9 => ([109, 105, 108, 101, 115] : List Int32).getD j9 0) A s s.heap from ⟨hX, tw128⟩) hS (px_free hD hS hA)) rfl hl.1 rfl (Nat.le_of_ble_eq_true rfl) ⟨Nat.zero_le _, Nat.zero_le _⟩ dX2_readRoad_83) (fun s129 H9 locs9 hs129 hP9 hD9 hS9 => ?_)
      clear hP hD hS
      have hS := hS9
      have hP := hP9
      have hD := hD9
      clear hP9 hD9 hS9
      obtain ⟨hBs129, gs129, fs129⟩ := hs129
      have hFs129 : FR [1, 5, 6, 7, 4] st s129 := fr_ca hFs125 gs129 (sub_1 (List.mem_of_getElem? (i := 0) rfl) sub_0)
      have k131 := fs129
      refine lv_aload_n hx hb dX2_readRoad_86 rfl (lv_at hl 2 rfl) ?_
      refine lv_iconst (v := 1) hx hb dX2_readRoad_87 (by decide) ?_
      refine lv_bipush (v := 20) hx hb dX2_readRoad_88 (by decide) ?_
      refine ca_i hP hD hS hA (fun hDc => run_V (mc := 0) (ms := 0) (As := [.int 1, .int 20]) (rest := []) S (s_X2_passNumber l D k a s129 sl  1 20 _  hBs129  ) lkX2_89 ok_X2_passNumber ⟨rfl, rfl, Nat.le_of_ble_eq_true rfl, Nat.le_of_ble_eq_true rfl⟩ (pw_V (ci := 2) (q0 := 1) hK hN rfl cw_1 hP hDc) rfl hl.1 rfl (Nat.le_of_ble_eq_true rfl) ⟨Nat.zero_le _, Nat.zero_le _⟩ dX2_readRoad_90) (fun r133 s132 H9 locs9 hs132 hP9 hD9 hS9 => ?_)
      clear hP hD hS
      have hS := hS9
      have hP := hP9
      have hD := hD9
      clear hP9 hD9 hS9
      obtain ⟨hBs132, gs132, fs132⟩ := hs132
      have hFs132 : FR [1, 5, 6, 7, 4] st s132 := fr_ca hFs129 gs132 (sub_1 (List.mem_of_getElem? (i := 0) rfl) sub_0)
      have k134 := fs132
      refine lv_istore_n (lv' := [(3, .int r133), (2, .int r126), (1, .int r116), (0, .ref (a 1))]) hx hb dX2_readRoad_93 rfl hl (by decide) rfl (fun ls hl => ?_)
      refine lv_aload_n hx hb dX2_readRoad_94 rfl (lv_at hl 3 rfl) ?_
      refine va_get (D := D) (ci := 2) (v := .int (s132 1 2)) (C := RX2) (T := TX2) (N := 8) hx hb hT in_X2 hown hK hP 1 cw_1 rfl 2 (by decide) (hT _ t276) (fun _ h9 => h9) rfl dX2_readRoad_95 ?_
      refine lv_if_ne (tgt := 111) hx hb dX2_readRoad_98 (by decide) (fun c135 => ?_) (fun c135 => ?_)
      · skip
        rw [hQ]
        exact W.vret hx hb hr (fun t ht hW => ⟨⟨s132, rfl, ⟨hBs132, hFs132, (Eq.trans (congrFun (gs132 4 (nm_1 (by decide) nm_0)) 0) (Eq.trans (congrFun (gs129 4 (nm_1 (by decide) nm_0)) 0) (Eq.trans (congrFun (gs125 4 (nm_1 (by decide) nm_0)) 0) (Eq.trans (congrFun (gs119 4 (nm_1 (by decide) nm_0)) 0) (Eq.trans (congrFun (gs115 4 (nm_1 (by decide) nm_0)) 0) (Eq.trans (congrFun (gs109 4 (nm_1 (by decide) nm_0)) 0) (congrFun (gs105 4 (nm_1 (by decide) nm_0)) 0))))))), (Eq.trans (congrFun (gs132 4 (nm_1 (by decide) nm_0)) 1) (Eq.trans (congrFun (gs129 4 (nm_1 (by decide) nm_0)) 1) (Eq.trans (congrFun (gs125 4 (nm_1 (by decide) nm_0)) 1) (Eq.trans (congrFun (gs119 4 (nm_1 (by decide) nm_0)) 1) (Eq.trans (congrFun (gs115 4 (nm_1 (by decide) nm_0)) 1) (Eq.trans (congrFun (gs109 4 (nm_1 (by decide) nm_0)) 1) (congrFun (gs105 4 (nm_1 (by decide) nm_0)) 1))))))), (Eq.trans (congrFun (gs132 4 (nm_1 (by decide) nm_0)) 2) (Eq.trans (congrFun (gs129 4 (nm_1 (by decide) nm_0)) 2) (Eq.trans (congrFun (gs125 4 (nm_1 (by decide) nm_0)) 2) (Eq.trans (congrFun (gs119 4 (nm_1 (by decide) nm_0)) 2) (Eq.trans (congrFun (gs115 4 (nm_1 (by decide) nm_0)) 2) (Eq.trans (congrFun (gs109 4 (nm_1 (by decide) nm_0)) 2) (congrFun (gs105 4 (nm_1 (by decide) nm_0)) 2))))))), (Eq.trans (congrFun (gs132 4 (nm_1 (by decide) nm_0)) 4) (Eq.trans (congrFun (gs129 4 (nm_1 (by decide) nm_0)) 4) (Eq.trans (congrFun (gs125 4 (nm_1 (by decide) nm_0)) 4) (Eq.trans (congrFun (gs119 4 (nm_1 (by decide) nm_0)) 4) (Eq.trans (congrFun (gs115 4 (nm_1 (by decide) nm_0)) 4) (Eq.trans (congrFun (gs109 4 (nm_1 (by decide) nm_0)) 4) (congrFun (gs105 4 (nm_1 (by decide) nm_0)) 4))))))), (Eq.trans (congrFun (gs132 4 (nm_1 (by decide) nm_0)) 5) (Eq.trans (congrFun (gs129 4 (nm_1 (by decide) nm_0)) 5) (Eq.trans (congrFun (gs125 4 (nm_1 (by decide) nm_0)) 5) (Eq.trans (congrFun (gs119 4 (nm_1 (by decide) nm_0)) 5) (Eq.trans (congrFun (gs115 4 (nm_1 (by decide) nm_0)) 5) (Eq.trans (congrFun (gs109 4 (nm_1 (by decide) nm_0)) 5) (congrFun (gs105 4 (nm_1 (by decide) nm_0)) 5))))))), (Eq.trans (congrFun (gs132 4 (nm_1 (by decide) nm_0)) 6) (Eq.trans (congrFun (gs129 4 (nm_1 (by decide) nm_0)) 6) (Eq.trans (congrFun (gs125 4 (nm_1 (by decide) nm_0)) 6) (Eq.trans (congrFun (gs119 4 (nm_1 (by decide) nm_0)) 6) (Eq.trans (congrFun (gs115 4 (nm_1 (by decide) nm_0)) 6) (Eq.trans (congrFun (gs109 4 (nm_1 (by decide) nm_0)) 6) (congrFun (gs105 4 (nm_1 (by decide) nm_0)) 6))))))), trivial⟩, by rw [ht]; exact hP, va_K.moved hW.alike (hK.sub (tys' := []) [] rfl), by rw [hAe]; exact hD⟩, by rw [hAe]; exact hS.F ht⟩) hS.2.2 dX2_readRoad_111
      · skip
        have h136 : Iv 0 0 (s132 1 2) := eq_l c135 (iv_c (by decide) : Iv 0 0 0)
        have k137 : (s132 1 2) = 0 := c135
        have k138 : (s129 1 2) = 0 := (fun z9 => (k134 z9).1) k137
        have k139 := (fun z9 => (⟨Int.le_trans ((iv_c (by decide) : Iv 1 1 1)).1 (k134 z9).2.1, Int.le_trans (k134 z9).2.2 ((iv_c (by decide) : Iv 20 20 20)).2⟩ : Iv 1 20 r133)) k137
        have h140 : Iv 1 20 r133 := ⟨k139.1, k139.2⟩
        have k141 : (s125 1 2) = 0 := k131 k138
        have k142 : (s119 1 2) = 0 := (fun z9 => (k127 z9).1) k141
        have k143 := (fun z9 => (⟨Int.le_trans ((iv_c (by decide) : Iv 0 0 0)).1 (k127 z9).2.1, Int.le_trans (k127 z9).2.2 (h124).2⟩ : Iv 0 5 r126)) k141
        have h144 : Iv 0 5 r126 := ⟨k143.1, k143.2⟩
        have k145 : (s115 1 2) = 0 := k121 k142
        have k146 : (s109 1 2) = 0 := (fun z9 => (k117 z9).1) k145
        have k147 := (fun z9 => (⟨Int.le_trans ((iv_c (by decide) : Iv 0 0 0)).1 (k117 z9).2.1, Int.le_trans (k117 z9).2.2 (h114).2⟩ : Iv 0 5 r116)) k145
        have h148 : Iv 0 5 r116 := ⟨k147.1, k147.2⟩
        have k149 : (s105 1 2) = 0 := k111 k146
        exact absurd k149 k107
    · skip
      have h150 : Iv 2 2 (s119 1 4) := eq_l c122 (iv_c (by decide) : Iv 2 2 2)
      refine lv_aload_n hx hb dX2_readRoad_52 rfl (lv_at hl 1 rfl) ?_
      refine va_get (D := D) (ci := 2) (v := .int (s119 1 7)) (C := RX2) (T := TX2) (N := 8) hx hb hT in_X2 hown hK hP 1 cw_1 rfl 7 (by decide) (hT _ t283) (fun _ h9 => h9) rfl dX2_readRoad_53 ?_
      refine lv_iload_n hx hb dX2_readRoad_56 rfl (lv_at hl 0 rfl) ?_
      refine lv_icmp_ne (tgt := 65) hx hb dX2_readRoad_57 (by decide) (fun c151 => ?_) (fun c151 => ?_)
      · skip
        refine lv_aload_n hx hb dX2_readRoad_65 rfl (lv_at hl 1 rfl) ?_
        refine lv_iconst (v := 0) hx hb dX2_readRoad_66 (by decide) ?_
        refine lv_aload_n hx hb dX2_readRoad_67 rfl (lv_at hl 1 rfl) ?_
        refine va_get (D := D) (ci := 2) (v := .ref (a 4)) (C := RX2) (T := TX2) (N := 8) hx hb hT in_X2 hown hK hP 1 cw_1 rfl 1 (by decide) (hT _ t274) (fun _ h9 => h9) rfl dX2_readRoad_68 ?_
        refine va_get (D := D) (ci := 1) (v := .int (s119 4 1)) (C := RX1) (T := TX1) (N := 14) hx hb hT in_X1 hown hK hP 4 cw_4 rfl 1 (by decide) (hT _ t200) (fun _ h9 => h9) rfl dX2_readRoad_71 ?_
        refine k_top (y := (st 4 1)) (Eq.trans (congrFun (gs119 4 (nm_1 (by decide) nm_0)) 1) (Eq.trans (congrFun (gs115 4 (nm_1 (by decide) nm_0)) 1) (Eq.trans (congrFun (gs109 4 (nm_1 (by decide) nm_0)) 1) (congrFun (gs105 4 (nm_1 (by decide) nm_0)) 1)))) ?_
        refine lv_iconst (v := 1) hx hb dX2_readRoad_74 (by decide) ?_
        refine lv_isub hx hb dX2_readRoad_75 ?_
        refine lv_topi (fun z152 ez152 => ?_)
        have h153 : Iv (-1) 5 z152 := iv_sub ez152 h112 (iv_c (by decide) : Iv 1 1 1) (by decide) (by decide) (by decide) (by decide)
        refine ca_i hP hD hS hA (fun hDc => run_V (mc := 0) (ms := 0) (As := [.int 0, .int z152]) (rest := []) S (s_X2_passNumber l D k a s119 sl  0 z152 _  hBs119  ) lkX2_89 ok_X2_passNumber ⟨rfl, rfl, Nat.le_of_ble_eq_true rfl, Nat.le_of_ble_eq_true rfl⟩ (pw_V (ci := 2) (q0 := 1) hK hN rfl cw_1 hP hDc) rfl hl.1 rfl (Nat.le_of_ble_eq_true rfl) ⟨Nat.zero_le _, Nat.zero_le _⟩ dX2_readRoad_76) (fun r155 s154 H9 locs9 hs154 hP9 hD9 hS9 => ?_)
        clear hP hD hS
        have hS := hS9
        have hP := hP9
        have hD := hD9
        clear hP9 hD9 hS9
        obtain ⟨hBs154, gs154, fs154⟩ := hs154
        have hFs154 : FR [1, 5, 6, 7, 4] st s154 := fr_ca hFs119 gs154 (sub_1 (List.mem_of_getElem? (i := 0) rfl) sub_0)
        have k156 := fs154
        refine lv_istore_n (lv' := [(2, .int r155), (1, .int r116), (0, .ref (a 1))]) hx hb dX2_readRoad_79 rfl hl (by decide) rfl (fun ls hl => ?_)
        refine lv_aload_n hx hb dX2_readRoad_80 rfl (lv_at hl 2 rfl) ?_
        obtain ⟨w157, vw157, tw157⟩ := hX.2 _ (List.mem_of_getElem? (l := LIT) (i := 5) rfl)
        have vw157 : vk_R RX2 108 "miles" w157 s := vw157
        have tw157 : STA A w157 5 (fun j9 => ([109, 105, 108, 101, 115] : List Int32).getD j9 0) s s.heap := tw157
        refine va_ldcS hx hb hown vw157 dX2_readRoad_81 ?_
        refine ca_v hP hD hS hA (fun hDc => run_V (mc := 0) (ms := 0) (As := [.ref w157]) (rest := []) S (s_X2_passWord l D k a s154 sl   w157 5 (fun j9 => ([109, 105, 108, 101, 115] : List Int32).getD j9 0) _  hBs154 (by decide) ) lkX2_83 ok_X2_passWord ⟨rfl, rfl, Nat.le_of_ble_eq_true rfl, Nat.le_of_ble_eq_true rfl⟩ (px_V (ci := 2) (q0 := 1) nice_NSW hK hN rfl cw_1 hP hDc (show NSW w157 5 (fun j9 => ([109, 105, 108, 101, 115] : List Int32).getD j9 0) A s s.heap from ⟨hX, tw157⟩) hS (px_free hD hS hA)) rfl hl.1 rfl (Nat.le_of_ble_eq_true rfl) ⟨Nat.zero_le _, Nat.zero_le _⟩ dX2_readRoad_83) (fun s158 H9 locs9 hs158 hP9 hD9 hS9 => ?_)
        clear hP hD hS
        have hS := hS9
        have hP := hP9
        have hD := hD9
        clear hP9 hD9 hS9
        obtain ⟨hBs158, gs158, fs158⟩ := hs158
        have hFs158 : FR [1, 5, 6, 7, 4] st s158 := fr_ca hFs154 gs158 (sub_1 (List.mem_of_getElem? (i := 0) rfl) sub_0)
        have k160 := fs158
        refine lv_aload_n hx hb dX2_readRoad_86 rfl (lv_at hl 2 rfl) ?_
        refine lv_iconst (v := 1) hx hb dX2_readRoad_87 (by decide) ?_
        refine lv_bipush (v := 20) hx hb dX2_readRoad_88 (by decide) ?_
        refine ca_i hP hD hS hA (fun hDc => run_V (mc := 0) (ms := 0) (As := [.int 1, .int 20]) (rest := []) S (s_X2_passNumber l D k a s158 sl  1 20 _  hBs158  ) lkX2_89 ok_X2_passNumber ⟨rfl, rfl, Nat.le_of_ble_eq_true rfl, Nat.le_of_ble_eq_true rfl⟩ (pw_V (ci := 2) (q0 := 1) hK hN rfl cw_1 hP hDc) rfl hl.1 rfl (Nat.le_of_ble_eq_true rfl) ⟨Nat.zero_le _, Nat.zero_le _⟩ dX2_readRoad_90) (fun r162 s161 H9 locs9 hs161 hP9 hD9 hS9 => ?_)
        clear hP hD hS
        have hS := hS9
        have hP := hP9
        have hD := hD9
        clear hP9 hD9 hS9
        obtain ⟨hBs161, gs161, fs161⟩ := hs161
        have hFs161 : FR [1, 5, 6, 7, 4] st s161 := fr_ca hFs158 gs161 (sub_1 (List.mem_of_getElem? (i := 0) rfl) sub_0)
        have k163 := fs161
        refine lv_istore_n (lv' := [(3, .int r162), (2, .int r155), (1, .int r116), (0, .ref (a 1))]) hx hb dX2_readRoad_93 rfl hl (by decide) rfl (fun ls hl => ?_)
        refine lv_aload_n hx hb dX2_readRoad_94 rfl (lv_at hl 3 rfl) ?_
        refine va_get (D := D) (ci := 2) (v := .int (s161 1 2)) (C := RX2) (T := TX2) (N := 8) hx hb hT in_X2 hown hK hP 1 cw_1 rfl 2 (by decide) (hT _ t276) (fun _ h9 => h9) rfl dX2_readRoad_95 ?_
        refine lv_if_ne (tgt := 111) hx hb dX2_readRoad_98 (by decide) (fun c164 => ?_) (fun c164 => ?_)
        · skip
          rw [hQ]
          exact W.vret hx hb hr (fun t ht hW => ⟨⟨s161, rfl, ⟨hBs161, hFs161, (Eq.trans (congrFun (gs161 4 (nm_1 (by decide) nm_0)) 0) (Eq.trans (congrFun (gs158 4 (nm_1 (by decide) nm_0)) 0) (Eq.trans (congrFun (gs154 4 (nm_1 (by decide) nm_0)) 0) (Eq.trans (congrFun (gs119 4 (nm_1 (by decide) nm_0)) 0) (Eq.trans (congrFun (gs115 4 (nm_1 (by decide) nm_0)) 0) (Eq.trans (congrFun (gs109 4 (nm_1 (by decide) nm_0)) 0) (congrFun (gs105 4 (nm_1 (by decide) nm_0)) 0))))))), (Eq.trans (congrFun (gs161 4 (nm_1 (by decide) nm_0)) 1) (Eq.trans (congrFun (gs158 4 (nm_1 (by decide) nm_0)) 1) (Eq.trans (congrFun (gs154 4 (nm_1 (by decide) nm_0)) 1) (Eq.trans (congrFun (gs119 4 (nm_1 (by decide) nm_0)) 1) (Eq.trans (congrFun (gs115 4 (nm_1 (by decide) nm_0)) 1) (Eq.trans (congrFun (gs109 4 (nm_1 (by decide) nm_0)) 1) (congrFun (gs105 4 (nm_1 (by decide) nm_0)) 1))))))), (Eq.trans (congrFun (gs161 4 (nm_1 (by decide) nm_0)) 2) (Eq.trans (congrFun (gs158 4 (nm_1 (by decide) nm_0)) 2) (Eq.trans (congrFun (gs154 4 (nm_1 (by decide) nm_0)) 2) (Eq.trans (congrFun (gs119 4 (nm_1 (by decide) nm_0)) 2) (Eq.trans (congrFun (gs115 4 (nm_1 (by decide) nm_0)) 2) (Eq.trans (congrFun (gs109 4 (nm_1 (by decide) nm_0)) 2) (congrFun (gs105 4 (nm_1 (by decide) nm_0)) 2))))))), (Eq.trans (congrFun (gs161 4 (nm_1 (by decide) nm_0)) 4) (Eq.trans (congrFun (gs158 4 (nm_1 (by decide) nm_0)) 4) (Eq.trans (congrFun (gs154 4 (nm_1 (by decide) nm_0)) 4) (Eq.trans (congrFun (gs119 4 (nm_1 (by decide) nm_0)) 4) (Eq.trans (congrFun (gs115 4 (nm_1 (by decide) nm_0)) 4) (Eq.trans (congrFun (gs109 4 (nm_1 (by decide) nm_0)) 4) (congrFun (gs105 4 (nm_1 (by decide) nm_0)) 4))))))), (Eq.trans (congrFun (gs161 4 (nm_1 (by decide) nm_0)) 5) (Eq.trans (congrFun (gs158 4 (nm_1 (by decide) nm_0)) 5) (Eq.trans (congrFun (gs154 4 (nm_1 (by decide) nm_0)) 5) (Eq.trans (congrFun (gs119 4 (nm_1 (by decide) nm_0)) 5) (Eq.trans (congrFun (gs115 4 (nm_1 (by decide) nm_0)) 5) (Eq.trans (congrFun (gs109 4 (nm_1 (by decide) nm_0)) 5) (congrFun (gs105 4 (nm_1 (by decide) nm_0)) 5))))))), (Eq.trans (congrFun (gs161 4 (nm_1 (by decide) nm_0)) 6) (Eq.trans (congrFun (gs158 4 (nm_1 (by decide) nm_0)) 6) (Eq.trans (congrFun (gs154 4 (nm_1 (by decide) nm_0)) 6) (Eq.trans (congrFun (gs119 4 (nm_1 (by decide) nm_0)) 6) (Eq.trans (congrFun (gs115 4 (nm_1 (by decide) nm_0)) 6) (Eq.trans (congrFun (gs109 4 (nm_1 (by decide) nm_0)) 6) (congrFun (gs105 4 (nm_1 (by decide) nm_0)) 6))))))), trivial⟩, by rw [ht]; exact hP, va_K.moved hW.alike (hK.sub (tys' := []) [] rfl), by rw [hAe]; exact hD⟩, by rw [hAe]; exact hS.F ht⟩) hS.2.2 dX2_readRoad_111
        · skip
          have h165 : Iv 0 0 (s161 1 2) := eq_l c164 (iv_c (by decide) : Iv 0 0 0)
          have k166 : (s161 1 2) = 0 := c164
          have k167 : (s158 1 2) = 0 := (fun z9 => (k163 z9).1) k166
          have k168 := (fun z9 => (⟨Int.le_trans ((iv_c (by decide) : Iv 1 1 1)).1 (k163 z9).2.1, Int.le_trans (k163 z9).2.2 ((iv_c (by decide) : Iv 20 20 20)).2⟩ : Iv 1 20 r162)) k166
          have h169 : Iv 1 20 r162 := ⟨k168.1, k168.2⟩
          have k170 : (s154 1 2) = 0 := k160 k167
          have k171 : (s119 1 2) = 0 := (fun z9 => (k156 z9).1) k170
          have k172 := (fun z9 => (⟨Int.le_trans ((iv_c (by decide) : Iv 0 0 0)).1 (k156 z9).2.1, Int.le_trans (k156 z9).2.2 (h153).2⟩ : Iv 0 5 r155)) k170
          have h173 : Iv 0 5 r155 := ⟨k172.1, k172.2⟩
          have k174 : (s115 1 2) = 0 := k121 k171
          have k175 : (s109 1 2) = 0 := (fun z9 => (k117 z9).1) k174
          have k176 := (fun z9 => (⟨Int.le_trans ((iv_c (by decide) : Iv 0 0 0)).1 (k117 z9).2.1, Int.le_trans (k117 z9).2.2 (h114).2⟩ : Iv 0 5 r116)) k174
          have h177 : Iv 0 5 r116 := ⟨k176.1, k176.2⟩
          have k178 : (s105 1 2) = 0 := k111 k175
          exact absurd k178 k107
      · skip
        refine lv_aload_n hx hb dX2_readRoad_60 rfl (lv_at hl 1 rfl) ?_
        refine lv_iconst (v := 2) hx hb dX2_readRoad_61 (by decide) ?_
        refine ca_v hP hD hS hA (fun hDc => run_V (mc := 0) (ms := 0) (As := [.int 2]) (rest := []) S (s_X2_fail l D k a s119 sl  2 _  hBs119 (iv_mono (c := 1) (d := 3) (iv_c (by decide) : Iv 2 2 2) (by decide) (by decide)) ) lkX2_77 ok_X2_fail ⟨rfl, rfl, Nat.le_of_ble_eq_true rfl, Nat.le_of_ble_eq_true rfl⟩ (pw_V (ci := 2) (q0 := 1) hK hN rfl cw_1 hP hDc) rfl hl.1 rfl (Nat.le_of_ble_eq_true rfl) ⟨Nat.zero_le _, Nat.zero_le _⟩ dX2_readRoad_62) (fun s179 H9 locs9 hs179 hP9 hD9 hS9 => ?_)
        clear hP hD hS
        have hS := hS9
        have hP := hP9
        have hD := hD9
        clear hP9 hD9 hS9
        obtain ⟨hBs179, gs179, qs179_0, qs179_1, qs179_2, qs179_3, fs179⟩ := hs179
        have hFs179 : FR [1, 5, 6, 7, 4] st s179 := fr_ca hFs119 gs179 (sub_1 (List.mem_of_getElem? (i := 0) rfl) sub_0)
        have k181 := fs179
        refine lv_aload_n hx hb dX2_readRoad_65 rfl (lv_at hl 1 rfl) ?_
        refine lv_iconst (v := 0) hx hb dX2_readRoad_66 (by decide) ?_
        refine lv_aload_n hx hb dX2_readRoad_67 rfl (lv_at hl 1 rfl) ?_
        refine va_get (D := D) (ci := 2) (v := .ref (a 4)) (C := RX2) (T := TX2) (N := 8) hx hb hT in_X2 hown hK hP 1 cw_1 rfl 1 (by decide) (hT _ t274) (fun _ h9 => h9) rfl dX2_readRoad_68 ?_
        refine va_get (D := D) (ci := 1) (v := .int (s179 4 1)) (C := RX1) (T := TX1) (N := 14) hx hb hT in_X1 hown hK hP 4 cw_4 rfl 1 (by decide) (hT _ t200) (fun _ h9 => h9) rfl dX2_readRoad_71 ?_
        refine k_top (y := (st 4 1)) (Eq.trans (congrFun (gs179 4 (nm_1 (by decide) nm_0)) 1) (Eq.trans (congrFun (gs119 4 (nm_1 (by decide) nm_0)) 1) (Eq.trans (congrFun (gs115 4 (nm_1 (by decide) nm_0)) 1) (Eq.trans (congrFun (gs109 4 (nm_1 (by decide) nm_0)) 1) (congrFun (gs105 4 (nm_1 (by decide) nm_0)) 1))))) ?_
        refine lv_iconst (v := 1) hx hb dX2_readRoad_74 (by decide) ?_
        refine lv_isub hx hb dX2_readRoad_75 ?_
        refine lv_topi (fun z182 ez182 => ?_)
        have h183 : Iv (-1) 5 z182 := iv_sub ez182 h112 (iv_c (by decide) : Iv 1 1 1) (by decide) (by decide) (by decide) (by decide)
        refine ca_i hP hD hS hA (fun hDc => run_V (mc := 0) (ms := 0) (As := [.int 0, .int z182]) (rest := []) S (s_X2_passNumber l D k a s179 sl  0 z182 _  hBs179  ) lkX2_89 ok_X2_passNumber ⟨rfl, rfl, Nat.le_of_ble_eq_true rfl, Nat.le_of_ble_eq_true rfl⟩ (pw_V (ci := 2) (q0 := 1) hK hN rfl cw_1 hP hDc) rfl hl.1 rfl (Nat.le_of_ble_eq_true rfl) ⟨Nat.zero_le _, Nat.zero_le _⟩ dX2_readRoad_76) (fun r185 s184 H9 locs9 hs184 hP9 hD9 hS9 => ?_)
        clear hP hD hS
        have hS := hS9
        have hP := hP9
        have hD := hD9
        clear hP9 hD9 hS9
        obtain ⟨hBs184, gs184, fs184⟩ := hs184
        have hFs184 : FR [1, 5, 6, 7, 4] st s184 := fr_ca hFs179 gs184 (sub_1 (List.mem_of_getElem? (i := 0) rfl) sub_0)
        have k186 := fs184
        refine lv_istore_n (lv' := [(2, .int r185), (1, .int r116), (0, .ref (a 1))]) hx hb dX2_readRoad_79 rfl hl (by decide) rfl (fun ls hl => ?_)
        refine lv_aload_n hx hb dX2_readRoad_80 rfl (lv_at hl 2 rfl) ?_
        obtain ⟨w187, vw187, tw187⟩ := hX.2 _ (List.mem_of_getElem? (l := LIT) (i := 5) rfl)
        have vw187 : vk_R RX2 108 "miles" w187 s := vw187
        have tw187 : STA A w187 5 (fun j9 => ([109, 105, 108, 101, 115] : List Int32).getD j9 0) s s.heap := tw187
        refine va_ldcS hx hb hown vw187 dX2_readRoad_81 ?_
        refine ca_v hP hD hS hA (fun hDc => run_V (mc := 0) (ms := 0) (As := [.ref w187]) (rest := []) S (s_X2_passWord l D k a s184 sl   w187 5 (fun j9 => ([109, 105, 108, 101, 115] : List Int32).getD j9 0) _  hBs184 (by decide) ) lkX2_83 ok_X2_passWord ⟨rfl, rfl, Nat.le_of_ble_eq_true rfl, Nat.le_of_ble_eq_true rfl⟩ (px_V (ci := 2) (q0 := 1) nice_NSW hK hN rfl cw_1 hP hDc (show NSW w187 5 (fun j9 => ([109, 105, 108, 101, 115] : List Int32).getD j9 0) A s s.heap from ⟨hX, tw187⟩) hS (px_free hD hS hA)) rfl hl.1 rfl (Nat.le_of_ble_eq_true rfl) ⟨Nat.zero_le _, Nat.zero_le _⟩ dX2_readRoad_83) (fun s188 H9 locs9 hs188 hP9 hD9 hS9 => ?_)
        clear hP hD hS
        have hS := hS9
        have hP := hP9
        have hD := hD9
        clear hP9 hD9 hS9
        obtain ⟨hBs188, gs188, fs188⟩ := hs188
        have hFs188 : FR [1, 5, 6, 7, 4] st s188 := fr_ca hFs184 gs188 (sub_1 (List.mem_of_getElem? (i := 0) rfl) sub_0)
        have k190 := fs188
        refine lv_aload_n hx hb dX2_readRoad_86 rfl (lv_at hl 2 rfl) ?_
        refine lv_iconst (v := 1) hx hb dX2_readRoad_87 (by decide) ?_
        refine lv_bipush (v := 20) hx hb dX2_readRoad_88 (by decide) ?_
        refine ca_i hP hD hS hA (fun hDc => run_V (mc := 0) (ms := 0) (As := [.int 1, .int 20]) (rest := []) S (s_X2_passNumber l D k a s188 sl  1 20 _  hBs188  ) lkX2_89 ok_X2_passNumber ⟨rfl, rfl, Nat.le_of_ble_eq_true rfl, Nat.le_of_ble_eq_true rfl⟩ (pw_V (ci := 2) (q0 := 1) hK hN rfl cw_1 hP hDc) rfl hl.1 rfl (Nat.le_of_ble_eq_true rfl) ⟨Nat.zero_le _, Nat.zero_le _⟩ dX2_readRoad_90) (fun r192 s191 H9 locs9 hs191 hP9 hD9 hS9 => ?_)
        clear hP hD hS
        have hS := hS9
        have hP := hP9
        have hD := hD9
        clear hP9 hD9 hS9
        obtain ⟨hBs191, gs191, fs191⟩ := hs191
        have hFs191 : FR [1, 5, 6, 7, 4] st s191 := fr_ca hFs188 gs191 (sub_1 (List.mem_of_getElem? (i := 0) rfl) sub_0)
        have k193 := fs191
        refine lv_istore_n (lv' := [(3, .int r192), (2, .int r185), (1, .int r116), (0, .ref (a 1))]) hx hb dX2_readRoad_93 rfl hl (by decide) rfl (fun ls hl => ?_)
        refine lv_aload_n hx hb dX2_readRoad_94 rfl (lv_at hl 3 rfl) ?_
        refine va_get (D := D) (ci := 2) (v := .int (s191 1 2)) (C := RX2) (T := TX2) (N := 8) hx hb hT in_X2 hown hK hP 1 cw_1 rfl 2 (by decide) (hT _ t276) (fun _ h9 => h9) rfl dX2_readRoad_95 ?_
        refine lv_if_ne (tgt := 111) hx hb dX2_readRoad_98 (by decide) (fun c194 => ?_) (fun c194 => ?_)
        · skip
          rw [hQ]
          exact W.vret hx hb hr (fun t ht hW => ⟨⟨s191, rfl, ⟨hBs191, hFs191, (Eq.trans (congrFun (gs191 4 (nm_1 (by decide) nm_0)) 0) (Eq.trans (congrFun (gs188 4 (nm_1 (by decide) nm_0)) 0) (Eq.trans (congrFun (gs184 4 (nm_1 (by decide) nm_0)) 0) (Eq.trans (congrFun (gs179 4 (nm_1 (by decide) nm_0)) 0) (Eq.trans (congrFun (gs119 4 (nm_1 (by decide) nm_0)) 0) (Eq.trans (congrFun (gs115 4 (nm_1 (by decide) nm_0)) 0) (Eq.trans (congrFun (gs109 4 (nm_1 (by decide) nm_0)) 0) (congrFun (gs105 4 (nm_1 (by decide) nm_0)) 0)))))))), (Eq.trans (congrFun (gs191 4 (nm_1 (by decide) nm_0)) 1) (Eq.trans (congrFun (gs188 4 (nm_1 (by decide) nm_0)) 1) (Eq.trans (congrFun (gs184 4 (nm_1 (by decide) nm_0)) 1) (Eq.trans (congrFun (gs179 4 (nm_1 (by decide) nm_0)) 1) (Eq.trans (congrFun (gs119 4 (nm_1 (by decide) nm_0)) 1) (Eq.trans (congrFun (gs115 4 (nm_1 (by decide) nm_0)) 1) (Eq.trans (congrFun (gs109 4 (nm_1 (by decide) nm_0)) 1) (congrFun (gs105 4 (nm_1 (by decide) nm_0)) 1)))))))), (Eq.trans (congrFun (gs191 4 (nm_1 (by decide) nm_0)) 2) (Eq.trans (congrFun (gs188 4 (nm_1 (by decide) nm_0)) 2) (Eq.trans (congrFun (gs184 4 (nm_1 (by decide) nm_0)) 2) (Eq.trans (congrFun (gs179 4 (nm_1 (by decide) nm_0)) 2) (Eq.trans (congrFun (gs119 4 (nm_1 (by decide) nm_0)) 2) (Eq.trans (congrFun (gs115 4 (nm_1 (by decide) nm_0)) 2) (Eq.trans (congrFun (gs109 4 (nm_1 (by decide) nm_0)) 2) (congrFun (gs105 4 (nm_1 (by decide) nm_0)) 2)))))))), (Eq.trans (congrFun (gs191 4 (nm_1 (by decide) nm_0)) 4) (Eq.trans (congrFun (gs188 4 (nm_1 (by decide) nm_0)) 4) (Eq.trans (congrFun (gs184 4 (nm_1 (by decide) nm_0)) 4) (Eq.trans (congrFun (gs179 4 (nm_1 (by decide) nm_0)) 4) (Eq.trans (congrFun (gs119 4 (nm_1 (by decide) nm_0)) 4) (Eq.trans (congrFun (gs115 4 (nm_1 (by decide) nm_0)) 4) (Eq.trans (congrFun (gs109 4 (nm_1 (by decide) nm_0)) 4) (congrFun (gs105 4 (nm_1 (by decide) nm_0)) 4)))))))), (Eq.trans (congrFun (gs191 4 (nm_1 (by decide) nm_0)) 5) (Eq.trans (congrFun (gs188 4 (nm_1 (by decide) nm_0)) 5) (Eq.trans (congrFun (gs184 4 (nm_1 (by decide) nm_0)) 5) (Eq.trans (congrFun (gs179 4 (nm_1 (by decide) nm_0)) 5) (Eq.trans (congrFun (gs119 4 (nm_1 (by decide) nm_0)) 5) (Eq.trans (congrFun (gs115 4 (nm_1 (by decide) nm_0)) 5) (Eq.trans (congrFun (gs109 4 (nm_1 (by decide) nm_0)) 5) (congrFun (gs105 4 (nm_1 (by decide) nm_0)) 5)))))))), (Eq.trans (congrFun (gs191 4 (nm_1 (by decide) nm_0)) 6) (Eq.trans (congrFun (gs188 4 (nm_1 (by decide) nm_0)) 6) (Eq.trans (congrFun (gs184 4 (nm_1 (by decide) nm_0)) 6) (Eq.trans (congrFun (gs179 4 (nm_1 (by decide) nm_0)) 6) (Eq.trans (congrFun (gs119 4 (nm_1 (by decide) nm_0)) 6) (Eq.trans (congrFun (gs115 4 (nm_1 (by decide) nm_0)) 6) (Eq.trans (congrFun (gs109 4 (nm_1 (by decide) nm_0)) 6) (congrFun (gs105 4 (nm_1 (by decide) nm_0)) 6)))))))), trivial⟩, by rw [ht]; exact hP, va_K.moved hW.alike (hK.sub (tys' := []) [] rfl), by rw [hAe]; exact hD⟩, by rw [hAe]; exact hS.F ht⟩) hS.2.2 dX2_readRoad_111
        · skip
          have h195 : Iv 0 0 (s191 1 2) := eq_l c194 (iv_c (by decide) : Iv 0 0 0)
          have k196 : (s191 1 2) = 0 := c194
          have k197 : (s188 1 2) = 0 := (fun z9 => (k193 z9).1) k196
          have k198 := (fun z9 => (⟨Int.le_trans ((iv_c (by decide) : Iv 1 1 1)).1 (k193 z9).2.1, Int.le_trans (k193 z9).2.2 ((iv_c (by decide) : Iv 20 20 20)).2⟩ : Iv 1 20 r192)) k196
          have h199 : Iv 1 20 r192 := ⟨k198.1, k198.2⟩
          have k200 : (s184 1 2) = 0 := k190 k197
          have k201 : (s179 1 2) = 0 := (fun z9 => (k186 z9).1) k200
          exact absurd k201 k181
set_option maxHeartbeats 4000000 in
set_option maxRecDepth 100000 in
theorem s_X2_readWheel (l : Launch) (D : va_G) (k : Nat → ClassId) (a : Nat → Nat) (st : CT) (sl : CL) (sz : Nat) (hB : CB st)  : Met l yX2_readWheel (.code yX2_readWheel cX2_readWheel 5 none :: TB) (rmw 7 0 0) (va_Pc [.ref (a 1)] (PX D k sz (CWS k a st sl) NS)) (QV D (S := CT) (fun u => CB u ∧ FR [1, 13, 4, 12] st u ∧ u 4 0 = st 4 0 ∧ u 4 1 = st 4 1 ∧ u 4 2 = st 4 2 ∧ u 4 3 = st 4 3 ∧ u 4 5 = st 4 5 ∧ u 4 6 = st 4 6 ∧ (True)) (fun u => CWS k a u sl) (fun _ => []) (CWS k a st sl) sz) 0 0 (va_A (CWS k a st sl) sz) := by
  refine Met.ofW (cc := cX2_readWheel) (maxL := 5) (ret := none) (by decide) rfl ?_
  intro p e s m args below meth c s₁ B hml hv
  obtain ⟨rfl, hsz, hP, hK, hD0, hN, hX⟩ := hv
  have hx := B.exec
  have hb := B.bytes
  have hr := B.returns
  have hT : ∀ w9 ∈ TB, w9.before ([.ref (a 1)] : List Value).toArray s = true := fun w9 h => atoms_spec (ws := .code yX2_readWheel cX2_readWheel 5 none :: TB) B.pre w9 (List.mem_cons_of_mem _ h)
  have hown : s.vm.findClass RX2 = some m.cls := findClass_of_methodNamed B.named
  have S : CallFix p m c cX2_readWheel 5 s _ TB RX2 := ⟨hx, hb, hml, hown, hT⟩
  subst hsz
  have hD := hD0.self (sz := s.heap.size)
  generalize hAe : va_A (CWS k a st sl) s.heap.size = A at hD hX ⊢
  have hA : ∀ q : Nat, s.heap.size ≤ q → A q := fun q h => by rw [← hAe]; exact Or.inr h
  have hS : va_S A s.heap s.heap [] := va_S.rf
  have hl := lv_entry ([.ref (a 1)]) (n := 5) (Nat.le_of_ble_eq_true rfl)
  rw [lg_entry_eq]
  generalize (lg_sl ([.ref (a 1)]) ++ List.replicate (5 - (lg_sl ([.ref (a 1)])).length) Slot.unset).toArray = ls at hl ⊢
  have hl : lv_has ls 5 [(0, .ref (a 1))] := hl
  refine nameQ (fun Q hQ => ?_)
  refine lv_aload_n hx hb dX2_readWheel_0 rfl (lv_at hl 0 rfl) ?_
  refine va_get (D := D) (ci := 2) (v := .ref (a 4)) (C := RX2) (T := TX2) (N := 8) hx hb hT in_X2 hown hK hP 1 cw_1 rfl 1 (by decide) (hT _ t274) (fun _ h9 => h9) rfl dX2_readWheel_1 ?_
  refine va_get (D := D) (ci := 1) (v := .int (st 4 4)) (C := RX1) (T := TX1) (N := 14) hx hb hT in_X1 hown hK hP 4 cw_4 rfl 4 (by decide) (hT _ t214) (fun _ h9 => h9) rfl dX2_readWheel_4 ?_
  have h1 : Iv 0 8 (st 4 4) := (rb_4_4 hB)
  refine lv_bipush (v := 8) hx hb dX2_readWheel_7 (by decide) ?_
  refine lv_icmp_lt (tgt := 17) hx hb dX2_readWheel_9 (by decide) (fun c2 => ?_) (fun c2 => ?_)
  · skip
    have n3 : (st 4 4).toInt < (8 : Int32).toInt := (i_lt c2)
    have h4 : Iv 0 7 (st 4 4) := lt_l h1 n3 (iv_c (by decide) : Iv 8 8 8) (by decide)
    refine lv_aload_n hx hb dX2_readWheel_17 rfl (lv_at hl 0 rfl) ?_
    obtain ⟨w5, vw5, tw5⟩ := hX.2 _ (List.mem_of_getElem? (l := LIT) (i := 6) rfl)
    have vw5 : vk_R RX2 62 "wheel" w5 s := vw5
    have tw5 : STA A w5 5 (fun j9 => ([119, 104, 101, 101, 108] : List Int32).getD j9 0) s s.heap := tw5
    refine va_ldcS hx hb hown vw5 dX2_readWheel_18 ?_
    refine ca_v hP hD hS hA (fun hDc => run_V (mc := 0) (ms := 0) (As := [.ref w5]) (rest := []) S (s_X2_passWord l D k a st sl   w5 5 (fun j9 => ([119, 104, 101, 101, 108] : List Int32).getD j9 0) _  hB (by decide) ) lkX2_83 ok_X2_passWord ⟨rfl, rfl, Nat.le_of_ble_eq_true rfl, Nat.le_of_ble_eq_true rfl⟩ (px_V (ci := 2) (q0 := 1) nice_NSW hK hN rfl cw_1 hP hDc (show NSW w5 5 (fun j9 => ([119, 104, 101, 101, 108] : List Int32).getD j9 0) A s s.heap from ⟨hX, tw5⟩) hS (px_free hD hS hA)) rfl hl.1 rfl (Nat.le_of_ble_eq_true rfl) ⟨Nat.zero_le _, Nat.zero_le _⟩ dX2_readWheel_20) (fun s6 H9 locs9 hs6 hP9 hD9 hS9 => ?_)
    clear hP hD hS
    have hS := hS9
    have hP := hP9
    have hD := hD9
    clear hP9 hD9 hS9
    obtain ⟨hBs6, gs6, fs6⟩ := hs6
    have hFs6 : FR [1, 13, 4, 12] st s6 := fr_ca fr_rf gs6 (sub_1 (List.mem_of_getElem? (i := 0) rfl) sub_0)
    have k8 := fs6
    refine lv_aload_n hx hb dX2_readWheel_23 rfl (lv_at hl 0 rfl) ?_
    obtain ⟨w9, vw9, tw9⟩ := hX.2 _ (List.mem_of_getElem? (l := LIT) (i := 7) rfl)
    have vw9 : vk_R RX2 117 "rim" w9 s := vw9
    have tw9 : STA A w9 3 (fun j9 => ([114, 105, 109] : List Int32).getD j9 0) s s.heap := tw9
    refine va_ldcS hx hb hown vw9 dX2_readWheel_24 ?_
    refine ca_v hP hD hS hA (fun hDc => run_V (mc := 0) (ms := 0) (As := [.ref w9]) (rest := []) S (s_X2_passWord l D k a s6 sl   w9 3 (fun j9 => ([114, 105, 109] : List Int32).getD j9 0) _  hBs6 (by decide) ) lkX2_83 ok_X2_passWord ⟨rfl, rfl, Nat.le_of_ble_eq_true rfl, Nat.le_of_ble_eq_true rfl⟩ (px_V (ci := 2) (q0 := 1) nice_NSW hK hN rfl cw_1 hP hDc (show NSW w9 3 (fun j9 => ([114, 105, 109] : List Int32).getD j9 0) A s s.heap from ⟨hX, tw9⟩) hS (px_free hD hS hA)) rfl hl.1 rfl (Nat.le_of_ble_eq_true rfl) ⟨Nat.zero_le _, Nat.zero_le _⟩ dX2_readWheel_26) (fun s10 H9 locs9 hs10 hP9 hD9 hS9 => ?_)
    clear hP hD hS
    have hS := hS9
    have hP := hP9
    have hD := hD9
    clear hP9 hD9 hS9
    obtain ⟨hBs10, gs10, fs10⟩ := hs10
    have hFs10 : FR [1, 13, 4, 12] st s10 := fr_ca hFs6 gs10 (sub_1 (List.mem_of_getElem? (i := 0) rfl) sub_0)
    have k12 := fs10
    refine lv_aload_n hx hb dX2_readWheel_29 rfl (lv_at hl 0 rfl) ?_
    refine lv_iconst (v := 0) hx hb dX2_readWheel_30 (by decide) ?_
    refine lv_sipush (v := 999) hx hb dX2_readWheel_31 (by decide) ?_
    refine ca_i hP hD hS hA (fun hDc => run_V (mc := 0) (ms := 0) (As := [.int 0, .int 999]) (rest := []) S (s_X2_passNumber l D k a s10 sl  0 999 _  hBs10  ) lkX2_89 ok_X2_passNumber ⟨rfl, rfl, Nat.le_of_ble_eq_true rfl, Nat.le_of_ble_eq_true rfl⟩ (pw_V (ci := 2) (q0 := 1) hK hN rfl cw_1 hP hDc) rfl hl.1 rfl (Nat.le_of_ble_eq_true rfl) ⟨Nat.zero_le _, Nat.zero_le _⟩ dX2_readWheel_34) (fun r14 s13 H9 locs9 hs13 hP9 hD9 hS9 => ?_)
    clear hP hD hS
    have hS := hS9
    have hP := hP9
    have hD := hD9
    clear hP9 hD9 hS9
    obtain ⟨hBs13, gs13, fs13⟩ := hs13
    have hFs13 : FR [1, 13, 4, 12] st s13 := fr_ca hFs10 gs13 (sub_1 (List.mem_of_getElem? (i := 0) rfl) sub_0)
    have k15 := fs13
    refine lv_istore_n (lv' := [(1, .int r14), (0, .ref (a 1))]) hx hb dX2_readWheel_37 rfl hl (by decide) rfl (fun ls hl => ?_)
    refine lv_aload_n hx hb dX2_readWheel_38 rfl (lv_at hl 1 rfl) ?_
    refine va_get (D := D) (ci := 2) (v := .int (s13 1 2)) (C := RX2) (T := TX2) (N := 8) hx hb hT in_X2 hown hK hP 1 cw_1 rfl 2 (by decide) (hT _ t276) (fun _ h9 => h9) rfl dX2_readWheel_39 ?_
    refine lv_if_ne (tgt := 53) hx hb dX2_readWheel_42 (by decide) (fun c16 => ?_) (fun c16 => ?_)
    · skip
      refine lv_iconst (v := 0) hx hb dX2_readWheel_53 (by decide) ?_
      refine lv_istore_n (lv' := [(2, .int 0), (1, .int r14), (0, .ref (a 1))]) hx hb dX2_readWheel_54 rfl hl (by decide) rfl (fun ls hl => ?_)
      refine lv_iload_n hx hb dX2_readWheel_55 rfl (lv_at hl 0 rfl) ?_
      refine lv_sipush (v := 1000) hx hb dX2_readWheel_56 (by decide) ?_
      refine lv_icmp_ge (tgt := 141) hx hb dX2_readWheel_59 (by decide) (fun c23 => ?_) (fun c23 => ?_)
      · first | exact absurd c23 (by decide) | exact absurd (by decide) c23
      refine lv_aload_n hx hb dX2_readWheel_62 rfl (lv_at hl 2 rfl) ?_
      refine va_get (D := D) (ci := 2) (v := .int (s13 1 2)) (C := RX2) (T := TX2) (N := 8) hx hb hT in_X2 hown hK hP 1 cw_1 rfl 2 (by decide) (hT _ t276) (fun _ h9 => h9) rfl dX2_readWheel_63 ?_
      refine lv_if_ne (tgt := 141) hx hb dX2_readWheel_66 (by decide) (fun c24 => ?_) (fun c24 => ?_)
      · skip
        rw [hQ]
        exact W.vret hx hb hr (fun t ht hW => ⟨⟨s13, rfl, ⟨hBs13, hFs13, (Eq.trans (congrFun (gs13 4 (nm_1 (by decide) nm_0)) 0) (Eq.trans (congrFun (gs10 4 (nm_1 (by decide) nm_0)) 0) (congrFun (gs6 4 (nm_1 (by decide) nm_0)) 0))), (Eq.trans (congrFun (gs13 4 (nm_1 (by decide) nm_0)) 1) (Eq.trans (congrFun (gs10 4 (nm_1 (by decide) nm_0)) 1) (congrFun (gs6 4 (nm_1 (by decide) nm_0)) 1))), (Eq.trans (congrFun (gs13 4 (nm_1 (by decide) nm_0)) 2) (Eq.trans (congrFun (gs10 4 (nm_1 (by decide) nm_0)) 2) (congrFun (gs6 4 (nm_1 (by decide) nm_0)) 2))), (Eq.trans (congrFun (gs13 4 (nm_1 (by decide) nm_0)) 3) (Eq.trans (congrFun (gs10 4 (nm_1 (by decide) nm_0)) 3) (congrFun (gs6 4 (nm_1 (by decide) nm_0)) 3))), (Eq.trans (congrFun (gs13 4 (nm_1 (by decide) nm_0)) 5) (Eq.trans (congrFun (gs10 4 (nm_1 (by decide) nm_0)) 5) (congrFun (gs6 4 (nm_1 (by decide) nm_0)) 5))), (Eq.trans (congrFun (gs13 4 (nm_1 (by decide) nm_0)) 6) (Eq.trans (congrFun (gs10 4 (nm_1 (by decide) nm_0)) 6) (congrFun (gs6 4 (nm_1 (by decide) nm_0)) 6))), trivial⟩, by rw [ht]; exact hP, va_K.moved hW.alike (hK.sub (tys' := []) [] rfl), by rw [hAe]; exact hD⟩, by rw [hAe]; exact hS.F ht⟩) hS.2.2 dX2_readWheel_141
      · skip
        have h25 : Iv 0 0 (s13 1 2) := eq_l c24 (iv_c (by decide) : Iv 0 0 0)
        have k26 : (s13 1 2) = 0 := c24
        exact absurd k26 c16
    · skip
      have h27 : Iv 0 0 (s13 1 2) := eq_l c16 (iv_c (by decide) : Iv 0 0 0)
      have k28 : (s13 1 2) = 0 := c16
      have k29 : (s10 1 2) = 0 := (fun z9 => (k15 z9).1) k28
      have k30 := (fun z9 => (⟨Int.le_trans ((iv_c (by decide) : Iv 0 0 0)).1 (k15 z9).2.1, Int.le_trans (k15 z9).2.2 ((iv_c (by decide) : Iv 999 999 999)).2⟩ : Iv 0 999 r14)) k28
      have h31 : Iv 0 999 r14 := ⟨k30.1, k30.2⟩
      have k32 : (s6 1 2) = 0 := k12 k29
      have k33 : (st 1 2) = 0 := k8 k32
      refine lv_aload_n hx hb dX2_readWheel_45 rfl (lv_at hl 1 rfl) ?_
      refine va_get (D := D) (ci := 2) (v := .ref (a 4)) (C := RX2) (T := TX2) (N := 8) hx hb hT in_X2 hown hK hP 1 cw_1 rfl 1 (by decide) (hT _ t274) (fun _ h9 => h9) rfl dX2_readWheel_46 ?_
      refine lv_iload_n hx hb dX2_readWheel_49 rfl (lv_at hl 0 rfl) ?_
      refine ca_v hP hD hS hA (fun hDc => run_V (mc := 0) (ms := 0) (As := [.int r14]) (rest := []) S (s_X1_addWheel l D k a s13 sl  r14 _  hBs13  ) lkX2_119 ok_X1_addWheel ⟨rfl, rfl, Nat.le_of_ble_eq_true rfl, Nat.le_of_ble_eq_true rfl⟩ (pw_V (ci := 1) (q0 := 4) hK hN rfl cw_4 hP hDc) rfl hl.1 rfl (Nat.le_of_ble_eq_true rfl) ⟨Nat.zero_le _, Nat.zero_le _⟩ dX2_readWheel_50) (fun s34 H9 locs9 hs34 hP9 hD9 hS9 => ?_)
      clear hP hD hS
      have hS := hS9
      have hP := hP9
      have hD := hD9
      clear hP9 hD9 hS9
      obtain ⟨hBs34, gs34, qs34_0, qs34_1, qs34_2, qs34_3, qs34_4, qs34_5, fs34⟩ := hs34
      have hFs34 : FR [1, 13, 4, 12] st s34 := fr_ca hFs13 gs34 (sub_1 (List.mem_of_getElem? (i := 1) rfl) (sub_1 (List.mem_of_getElem? (i := 2) rfl) sub_0))
      have h36 : Iv 1 8 (s34 4 4) := fs34
      refine lv_iconst (v := 0) hx hb dX2_readWheel_53 (by decide) ?_
      refine lv_istore_n (lv' := [(2, .int 0), (1, .int r14), (0, .ref (a 1))]) hx hb dX2_readWheel_54 rfl hl (by decide) rfl (fun ls hl => ?_)
      have lp55 : ∀ (n9_55 : Nat) (v2_55 : Int32) (t55 : CT) (H9 : Heap) (locs9 : List Loc) (ls : Array Slot), Iv 0 1000 v2_55 → (t55 1 2 = 0 → Iv 1 8 (t55 4 4)) → CB t55 → FR [1, 12] s34 t55 → va_P D vwCl (CWS k a t55 sl) H9 → va_D A (CWS k a t55 sl) → va_S A s.heap H9 locs9 → lv_has ls 5 [(2, .int v2_55), (1, .int r14), (0, .ref (a 1))] → (1000 : Int) - v2_55.toInt < (n9_55 : Int) → W p l e (rmw 7 0 0) s m ([.ref (a 1)] : List Value).toArray below meth c H9 locs9 0 0 Q (F0 m 55 ls []) := by
        clear hl hP hD hS
        intro n9_55
        induction n9_55 with
        | zero =>
          intro v2_55 t55 H9 locs9 ls iv2_55 rel55_0 hBt55 gt55 hP hD hS hl hm55
          exact (fu_0 iv2_55 hm55).elim
        | succ n9_55 ih55 =>
          intro v2_55 t55 H9 locs9 ls iv2_55 rel55_0 hBt55 gt55 hP hD hS hl hm55
          have hFt55 : FR [1, 13, 4, 12] st t55 := fr_ca hFs34 gt55 (sub_1 (List.mem_of_getElem? (i := 0) rfl) (sub_1 (List.mem_of_getElem? (i := 3) rfl) sub_0))
          refine lv_iload_n hx hb dX2_readWheel_55 rfl (lv_at hl 0 rfl) ?_
          refine lv_sipush (v := 1000) hx hb dX2_readWheel_56 (by decide) ?_
          refine lv_icmp_ge (tgt := 141) hx hb dX2_readWheel_59 (by decide) (fun c1244 => ?_) (fun c1244 => ?_)
          · skip
            have n1245 : (1000 : Int32).toInt ≤ v2_55.toInt := (i_le c1244)
            have h1246 : Iv 1000 1000 v2_55 := le_r (iv_c (by decide) : Iv 1000 1000 1000) n1245 iv2_55 (by decide)
            rw [hQ]
            exact W.vret hx hb hr (fun t ht hW => ⟨⟨t55, rfl, ⟨hBt55, hFt55, (Eq.trans (congrFun (gt55 4 (nm_1 (by decide) (nm_1 (by decide) nm_0))) 0) (Eq.trans qs34_0 (Eq.trans (congrFun (gs13 4 (nm_1 (by decide) nm_0)) 0) (Eq.trans (congrFun (gs10 4 (nm_1 (by decide) nm_0)) 0) (congrFun (gs6 4 (nm_1 (by decide) nm_0)) 0))))), (Eq.trans (congrFun (gt55 4 (nm_1 (by decide) (nm_1 (by decide) nm_0))) 1) (Eq.trans qs34_1 (Eq.trans (congrFun (gs13 4 (nm_1 (by decide) nm_0)) 1) (Eq.trans (congrFun (gs10 4 (nm_1 (by decide) nm_0)) 1) (congrFun (gs6 4 (nm_1 (by decide) nm_0)) 1))))), (Eq.trans (congrFun (gt55 4 (nm_1 (by decide) (nm_1 (by decide) nm_0))) 2) (Eq.trans qs34_2 (Eq.trans (congrFun (gs13 4 (nm_1 (by decide) nm_0)) 2) (Eq.trans (congrFun (gs10 4 (nm_1 (by decide) nm_0)) 2) (congrFun (gs6 4 (nm_1 (by decide) nm_0)) 2))))), (Eq.trans (congrFun (gt55 4 (nm_1 (by decide) (nm_1 (by decide) nm_0))) 3) (Eq.trans qs34_3 (Eq.trans (congrFun (gs13 4 (nm_1 (by decide) nm_0)) 3) (Eq.trans (congrFun (gs10 4 (nm_1 (by decide) nm_0)) 3) (congrFun (gs6 4 (nm_1 (by decide) nm_0)) 3))))), (Eq.trans (congrFun (gt55 4 (nm_1 (by decide) (nm_1 (by decide) nm_0))) 5) (Eq.trans qs34_4 (Eq.trans (congrFun (gs13 4 (nm_1 (by decide) nm_0)) 5) (Eq.trans (congrFun (gs10 4 (nm_1 (by decide) nm_0)) 5) (congrFun (gs6 4 (nm_1 (by decide) nm_0)) 5))))), (Eq.trans (congrFun (gt55 4 (nm_1 (by decide) (nm_1 (by decide) nm_0))) 6) (Eq.trans qs34_5 (Eq.trans (congrFun (gs13 4 (nm_1 (by decide) nm_0)) 6) (Eq.trans (congrFun (gs10 4 (nm_1 (by decide) nm_0)) 6) (congrFun (gs6 4 (nm_1 (by decide) nm_0)) 6))))), trivial⟩, by rw [ht]; exact hP, va_K.moved hW.alike (hK.sub (tys' := []) [] rfl), by rw [hAe]; exact hD⟩, by rw [hAe]; exact hS.F ht⟩) hS.2.2 dX2_readWheel_141
          · skip
            have n1247 : v2_55.toInt < (1000 : Int32).toInt := (i_nle c1244)
            have h1248 : Iv 0 999 v2_55 := lt_l iv2_55 n1247 (iv_c (by decide) : Iv 1000 1000 1000) (by decide)
            refine lv_aload_n hx hb dX2_readWheel_62 rfl (lv_at hl 2 rfl) ?_
            refine va_get (D := D) (ci := 2) (v := .int (t55 1 2)) (C := RX2) (T := TX2) (N := 8) hx hb hT in_X2 hown hK hP 1 cw_1 rfl 2 (by decide) (hT _ t276) (fun _ h9 => h9) rfl dX2_readWheel_63 ?_
            refine lv_if_ne (tgt := 141) hx hb dX2_readWheel_66 (by decide) (fun c1249 => ?_) (fun c1249 => ?_)
            · skip
              rw [hQ]
              exact W.vret hx hb hr (fun t ht hW => ⟨⟨t55, rfl, ⟨hBt55, hFt55, (Eq.trans (congrFun (gt55 4 (nm_1 (by decide) (nm_1 (by decide) nm_0))) 0) (Eq.trans qs34_0 (Eq.trans (congrFun (gs13 4 (nm_1 (by decide) nm_0)) 0) (Eq.trans (congrFun (gs10 4 (nm_1 (by decide) nm_0)) 0) (congrFun (gs6 4 (nm_1 (by decide) nm_0)) 0))))), (Eq.trans (congrFun (gt55 4 (nm_1 (by decide) (nm_1 (by decide) nm_0))) 1) (Eq.trans qs34_1 (Eq.trans (congrFun (gs13 4 (nm_1 (by decide) nm_0)) 1) (Eq.trans (congrFun (gs10 4 (nm_1 (by decide) nm_0)) 1) (congrFun (gs6 4 (nm_1 (by decide) nm_0)) 1))))), (Eq.trans (congrFun (gt55 4 (nm_1 (by decide) (nm_1 (by decide) nm_0))) 2) (Eq.trans qs34_2 (Eq.trans (congrFun (gs13 4 (nm_1 (by decide) nm_0)) 2) (Eq.trans (congrFun (gs10 4 (nm_1 (by decide) nm_0)) 2) (congrFun (gs6 4 (nm_1 (by decide) nm_0)) 2))))), (Eq.trans (congrFun (gt55 4 (nm_1 (by decide) (nm_1 (by decide) nm_0))) 3) (Eq.trans qs34_3 (Eq.trans (congrFun (gs13 4 (nm_1 (by decide) nm_0)) 3) (Eq.trans (congrFun (gs10 4 (nm_1 (by decide) nm_0)) 3) (congrFun (gs6 4 (nm_1 (by decide) nm_0)) 3))))), (Eq.trans (congrFun (gt55 4 (nm_1 (by decide) (nm_1 (by decide) nm_0))) 5) (Eq.trans qs34_4 (Eq.trans (congrFun (gs13 4 (nm_1 (by decide) nm_0)) 5) (Eq.trans (congrFun (gs10 4 (nm_1 (by decide) nm_0)) 5) (congrFun (gs6 4 (nm_1 (by decide) nm_0)) 5))))), (Eq.trans (congrFun (gt55 4 (nm_1 (by decide) (nm_1 (by decide) nm_0))) 6) (Eq.trans qs34_5 (Eq.trans (congrFun (gs13 4 (nm_1 (by decide) nm_0)) 6) (Eq.trans (congrFun (gs10 4 (nm_1 (by decide) nm_0)) 6) (congrFun (gs6 4 (nm_1 (by decide) nm_0)) 6))))), trivial⟩, by rw [ht]; exact hP, va_K.moved hW.alike (hK.sub (tys' := []) [] rfl), by rw [hAe]; exact hD⟩, by rw [hAe]; exact hS.F ht⟩) hS.2.2 dX2_readWheel_141
            · skip
              have h1250 : Iv 0 0 (t55 1 2) := eq_l c1249 (iv_c (by decide) : Iv 0 0 0)
              have k1251 : (t55 1 2) = 0 := c1249
              refine lv_aload_n hx hb dX2_readWheel_69 rfl (lv_at hl 2 rfl) ?_
              obtain ⟨w1252, vw1252, tw1252⟩ := hX.2 _ (List.mem_of_getElem? (l := LIT) (i := 8) rfl)
              have vw1252 : vk_R RX2 122 "likes" w1252 s := vw1252
              have tw1252 : STA A w1252 5 (fun j9 => ([108, 105, 107, 101, 115] : List Int32).getD j9 0) s s.heap := tw1252
              refine va_ldcS hx hb hown vw1252 dX2_readWheel_70 ?_
              refine ro_V (As := [.ref w1252]) (rest := []) S (s_X2_isWord l D k a t55 sl   w1252 5 (fun j9 => ([108, 105, 107, 101, 115] : List Int32).getD j9 0) _  hBt55 (by decide) ) lkX2_55 ok_X2_isWord ⟨rfl, rfl, Nat.le_of_ble_eq_true rfl, Nat.le_of_ble_eq_true rfl⟩ (px_V (ci := 2) (q0 := 1) nice_NSW hK hN rfl cw_1 hP (hD.weaken (fun _ _ _ _ => trivial)) (show NSW w1252 5 (fun j9 => ([108, 105, 107, 101, 115] : List Int32).getD j9 0) A s s.heap from ⟨hX, tw1252⟩) hS (px_free hD hS hA)) rfl hl.1 rfl (Nat.le_of_ble_eq_true rfl) ⟨Nat.zero_le _, Nat.zero_le _⟩ dX2_readWheel_72 (fun r1253 er1253 => ?_)
              rcases er1253 with ⟨rfl, g9⟩ | ⟨rfl, g9⟩
              · skip
                have g1254 := g9
                refine lv_if_eq (tgt := 141) hx hb dX2_readWheel_75 (by decide) (fun c1255 => ?_) (fun c1255 => ?_)
                · first | exact absurd c1255 (by decide) | exact absurd (by decide) c1255
                refine lv_aload_n hx hb dX2_readWheel_78 rfl (lv_at hl 2 rfl) ?_
                refine ca_v hP hD hS hA (fun hDc => run_V (mc := 0) (ms := 0) (As := []) (rest := []) S (s_X2_next l D k a t55 sl   _  hBt55  ) lkX2_38 ok_X2_next ⟨rfl, rfl, Nat.le_of_ble_eq_true rfl, Nat.le_of_ble_eq_true rfl⟩ (pw_V (ci := 2) (q0 := 1) hK hN rfl cw_1 hP hDc) rfl hl.1 rfl (Nat.le_of_ble_eq_true rfl) ⟨Nat.zero_le _, Nat.zero_le _⟩ dX2_readWheel_79) (fun s1256 H9 locs9 hs1256 hP9 hD9 hS9 => ?_)
                clear hP hD hS
                have hS := hS9
                have hP := hP9
                have hD := hD9
                clear hP9 hD9 hS9
                obtain ⟨hBs1256, gs1256, qs1256_0, qs1256_1, fs1256⟩ := hs1256
                have hFs1256 : FR [1, 13, 4, 12] st s1256 := fr_ca hFt55 gs1256 (sub_1 (List.mem_of_getElem? (i := 0) rfl) sub_0)
                refine lv_aload_n hx hb dX2_readWheel_82 rfl (lv_at hl 2 rfl) ?_
                refine lv_iconst (v := 0) hx hb dX2_readWheel_83 (by decide) ?_
                refine lv_aload_n hx hb dX2_readWheel_84 rfl (lv_at hl 2 rfl) ?_
                refine va_get (D := D) (ci := 2) (v := .ref (a 4)) (C := RX2) (T := TX2) (N := 8) hx hb hT in_X2 hown hK hP 1 cw_1 rfl 1 (by decide) (hT _ t274) (fun _ h9 => h9) rfl dX2_readWheel_85 ?_
                refine va_get (D := D) (ci := 1) (v := .int (s1256 4 3)) (C := RX1) (T := TX1) (N := 14) hx hb hT in_X1 hown hK hP 4 cw_4 rfl 3 (by decide) (hT _ t209) (fun _ h9 => h9) rfl dX2_readWheel_88 ?_
                refine k_top (y := (st 4 3)) (Eq.trans (congrFun (gs1256 4 (nm_1 (by decide) nm_0)) 3) (Eq.trans (congrFun (gt55 4 (nm_1 (by decide) (nm_1 (by decide) nm_0))) 3) (Eq.trans qs34_3 (Eq.trans (congrFun (gs13 4 (nm_1 (by decide) nm_0)) 3) (Eq.trans (congrFun (gs10 4 (nm_1 (by decide) nm_0)) 3) (congrFun (gs6 4 (nm_1 (by decide) nm_0)) 3)))))) ?_
                have h1258 : Iv 0 8 (st 4 3) := (rb_4_3 hB)
                refine lv_iconst (v := 1) hx hb dX2_readWheel_91 (by decide) ?_
                refine lv_isub hx hb dX2_readWheel_92 ?_
                refine lv_topi (fun z1259 ez1259 => ?_)
                have h1260 : Iv (-1) 7 z1259 := iv_sub ez1259 h1258 (iv_c (by decide) : Iv 1 1 1) (by decide) (by decide) (by decide) (by decide)
                refine ca_i hP hD hS hA (fun hDc => run_V (mc := 0) (ms := 0) (As := [.int 0, .int z1259]) (rest := []) S (s_X2_passNumber l D k a s1256 sl  0 z1259 _  hBs1256  ) lkX2_89 ok_X2_passNumber ⟨rfl, rfl, Nat.le_of_ble_eq_true rfl, Nat.le_of_ble_eq_true rfl⟩ (pw_V (ci := 2) (q0 := 1) hK hN rfl cw_1 hP hDc) rfl hl.1 rfl (Nat.le_of_ble_eq_true rfl) ⟨Nat.zero_le _, Nat.zero_le _⟩ dX2_readWheel_93) (fun r1262 s1261 H9 locs9 hs1261 hP9 hD9 hS9 => ?_)
                clear hP hD hS
                have hS := hS9
                have hP := hP9
                have hD := hD9
                clear hP9 hD9 hS9
                obtain ⟨hBs1261, gs1261, fs1261⟩ := hs1261
                have hFs1261 : FR [1, 13, 4, 12] st s1261 := fr_ca hFs1256 gs1261 (sub_1 (List.mem_of_getElem? (i := 0) rfl) sub_0)
                have k1263 := fs1261
                refine lv_istore_n (lv' := [(3, .int r1262), (2, .int v2_55), (1, .int r14), (0, .ref (a 1))]) hx hb dX2_readWheel_96 rfl hl (by decide) rfl (fun ls hl => ?_)
                refine lv_aload_n hx hb dX2_readWheel_97 rfl (lv_at hl 3 rfl) ?_
                refine lv_iconst (v := 0) hx hb dX2_readWheel_98 (by decide) ?_
                refine lv_bipush (v := 9) hx hb dX2_readWheel_99 (by decide) ?_
                refine ca_i hP hD hS hA (fun hDc => run_V (mc := 0) (ms := 0) (As := [.int 0, .int 9]) (rest := []) S (s_X2_passNumber l D k a s1261 sl  0 9 _  hBs1261  ) lkX2_89 ok_X2_passNumber ⟨rfl, rfl, Nat.le_of_ble_eq_true rfl, Nat.le_of_ble_eq_true rfl⟩ (pw_V (ci := 2) (q0 := 1) hK hN rfl cw_1 hP hDc) rfl hl.1 rfl (Nat.le_of_ble_eq_true rfl) ⟨Nat.zero_le _, Nat.zero_le _⟩ dX2_readWheel_101) (fun r1265 s1264 H9 locs9 hs1264 hP9 hD9 hS9 => ?_)
                clear hP hD hS
                have hS := hS9
                have hP := hP9
                have hD := hD9
                clear hP9 hD9 hS9
                obtain ⟨hBs1264, gs1264, fs1264⟩ := hs1264
                have hFs1264 : FR [1, 13, 4, 12] st s1264 := fr_ca hFs1261 gs1264 (sub_1 (List.mem_of_getElem? (i := 0) rfl) sub_0)
                have k1266 := fs1264
                refine lv_istore (lv' := [(4, .int r1265), (3, .int r1262), (2, .int v2_55), (1, .int r14), (0, .ref (a 1))]) hx hb dX2_readWheel_104 hl (by decide) rfl (fun ls hl => ?_)
                refine lv_aload_n hx hb dX2_readWheel_106 rfl (lv_at hl 4 rfl) ?_
                refine va_get (D := D) (ci := 2) (v := .int (s1264 1 2)) (C := RX2) (T := TX2) (N := 8) hx hb hT in_X2 hown hK hP 1 cw_1 rfl 2 (by decide) (hT _ t276) (fun _ h9 => h9) rfl dX2_readWheel_107 ?_
                refine lv_if_ne (tgt := 135) hx hb dX2_readWheel_110 (by decide) (fun c1267 => ?_) (fun c1267 => ?_)
                · skip
                  obtain ⟨z1268, ez1268⟩ : ∃ z9 : Int32, z9 = v2_55 + Int32.ofInt 1 := ⟨_, rfl⟩
                  have h1269 : Iv 1 1000 z1268 := iv_inc ez1268 h1248 (by decide) (by decide) (by decide) (by decide) (by decide) (by decide)
                  refine lv_iinc (v := z1268) (lv' := [(2, .int z1268), (4, .int r1265), (3, .int r1262), (1, .int r14), (0, .ref (a 1))]) hx hb dX2_readWheel_135 hl (k := 2) rfl ez1268.symm (by decide) rfl (fun ls hl => ?_)
                  refine lv_goto (tgt := 55) hx hb dX2_readWheel_138 (by decide) ?_
                  exact ih55 z1268 s1264 _ _ _ (iv_mono (c := 0) (d := 1000) h1269 (by decide) (by decide)) (fun _ => (eq_l (Eq.trans (congrFun (gs1264 4 (nm_1 (by decide) nm_0)) 4) (Eq.trans (congrFun (gs1261 4 (nm_1 (by decide) nm_0)) 4) (Eq.trans (congrFun (gs1256 4 (nm_1 (by decide) nm_0)) 4) (congrFun (gt55 4 (nm_1 (by decide) (nm_1 (by decide) nm_0))) 4)))) (⟨h36.1, h36.2⟩ : Iv 1 8 (s34 4 4)))) hBs1264 (fr_ca (fr_ca (fr_ca gt55 gs1256 (sub_1 (List.mem_of_getElem? (i := 0) rfl) sub_0)) gs1261 (sub_1 (List.mem_of_getElem? (i := 0) rfl) sub_0)) gs1264 (sub_1 (List.mem_of_getElem? (i := 0) rfl) sub_0)) hP hD hS (lv_sub hl [0, 3, 4] rfl) (fu_s (lo := 0) (ti_inc ez1268 h1248 (by decide) (by decide) (by decide) (by decide)) (by decide) hm55)
                · skip
                  have h1270 : Iv 0 0 (s1264 1 2) := eq_l c1267 (iv_c (by decide) : Iv 0 0 0)
                  have k1271 : (s1264 1 2) = 0 := c1267
                  have k1272 : (s1261 1 2) = 0 := (fun z9 => (k1266 z9).1) k1271
                  have k1273 := (fun z9 => (⟨Int.le_trans ((iv_c (by decide) : Iv 0 0 0)).1 (k1266 z9).2.1, Int.le_trans (k1266 z9).2.2 ((iv_c (by decide) : Iv 9 9 9)).2⟩ : Iv 0 9 r1265)) k1271
                  have h1274 : Iv 0 9 r1265 := ⟨k1273.1, k1273.2⟩
                  have k1275 : (t55 1 2) = 0 := Eq.trans (Eq.symm qs1256_0) ((fun z9 => (k1263 z9).1) k1272)
                  have k1276 := (fun z9 => (⟨Int.le_trans ((iv_c (by decide) : Iv 0 0 0)).1 (k1263 z9).2.1, Int.le_trans (k1263 z9).2.2 (h1260).2⟩ : Iv 0 7 r1262)) k1272
                  have h1277 : Iv 0 7 r1262 := ⟨k1276.1, k1276.2⟩
                  refine lv_aload_n hx hb dX2_readWheel_113 rfl (lv_at hl 4 rfl) ?_
                  refine va_get (D := D) (ci := 2) (v := .ref (a 4)) (C := RX2) (T := TX2) (N := 8) hx hb hT in_X2 hown hK hP 1 cw_1 rfl 1 (by decide) (hT _ t274) (fun _ h9 => h9) rfl dX2_readWheel_114 ?_
                  refine va_get (D := D) (ci := 1) (v := .ref (a 11)) (C := RX1) (T := TX1) (N := 14) hx hb hT in_X1 hown hK hP 4 cw_4 rfl 13 (by decide) (hT _ t241) (fun _ h9 => h9) rfl dX2_readWheel_117 ?_
                  refine lv_aload_n hx hb dX2_readWheel_120 rfl (lv_at hl 4 rfl) ?_
                  refine va_get (D := D) (ci := 2) (v := .ref (a 4)) (C := RX2) (T := TX2) (N := 8) hx hb hT in_X2 hown hK hP 1 cw_1 rfl 1 (by decide) (hT _ t274) (fun _ h9 => h9) rfl dX2_readWheel_121 ?_
                  refine va_get (D := D) (ci := 1) (v := .int (s1264 4 4)) (C := RX1) (T := TX1) (N := 14) hx hb hT in_X1 hown hK hP 4 cw_4 rfl 4 (by decide) (hT _ t214) (fun _ h9 => h9) rfl dX2_readWheel_124 ?_
                  refine k_top (y := (s34 4 4)) (Eq.trans (congrFun (gs1264 4 (nm_1 (by decide) nm_0)) 4) (Eq.trans (congrFun (gs1261 4 (nm_1 (by decide) nm_0)) 4) (Eq.trans (congrFun (gs1256 4 (nm_1 (by decide) nm_0)) 4) (congrFun (gt55 4 (nm_1 (by decide) (nm_1 (by decide) nm_0))) 4)))) ?_
                  refine lv_iconst (v := 1) hx hb dX2_readWheel_127 (by decide) ?_
                  refine lv_isub hx hb dX2_readWheel_128 ?_
                  refine lv_topi (fun z1278 ez1278 => ?_)
                  have h1279 : Iv 0 7 z1278 := iv_sub ez1278 (⟨h36.1, h36.2⟩ : Iv 1 8 (s34 4 4)) (iv_c (by decide) : Iv 1 1 1) (by decide) (by decide) (by decide) (by decide)
                  refine lv_iload_n hx hb dX2_readWheel_129 rfl (lv_at hl 1 rfl) ?_
                  refine lv_iload hx hb dX2_readWheel_130 (lv_at hl 0 rfl) ?_
                  refine ca_v hP hD hS hA (fun hDc => run_V (mc := 0) (ms := 0) (As := [.int z1278, .int r1262, .int r1265]) (rest := []) S (s_X5_setLike l D k a s1264 sl 11 z1278 r1262 r1265 _ (by decide) hBs1264 h1279 h1277 h1274 ) lkX2_128 ok_X5_setLike ⟨rfl, rfl, Nat.le_of_ble_eq_true rfl, Nat.le_of_ble_eq_true rfl⟩ (pw_V (ci := 5) (q0 := 11) hK hN rfl cw_11 hP hDc) rfl hl.1 rfl (Nat.le_of_ble_eq_true rfl) ⟨Nat.zero_le _, Nat.zero_le _⟩ dX2_readWheel_132) (fun s1280 H9 locs9 hs1280 hP9 hD9 hS9 => ?_)
                  clear hP hD hS
                  have hS := hS9
                  have hP := hP9
                  have hD := hD9
                  clear hP9 hD9 hS9
                  obtain ⟨hBs1280, gs1280, fs1280⟩ := hs1280
                  have hFs1280 : FR [1, 13, 4, 12] st s1280 := fr_ca hFs1264 gs1280 (sub_1 (List.mem_of_getElem? (i := 3) rfl) sub_0)
                  obtain ⟨z1282, ez1282⟩ : ∃ z9 : Int32, z9 = v2_55 + Int32.ofInt 1 := ⟨_, rfl⟩
                  have h1283 : Iv 1 1000 z1282 := iv_inc ez1282 h1248 (by decide) (by decide) (by decide) (by decide) (by decide) (by decide)
                  refine lv_iinc (v := z1282) (lv' := [(2, .int z1282), (4, .int r1265), (3, .int r1262), (1, .int r14), (0, .ref (a 1))]) hx hb dX2_readWheel_135 hl (k := 2) rfl ez1282.symm (by decide) rfl (fun ls hl => ?_)
                  refine lv_goto (tgt := 55) hx hb dX2_readWheel_138 (by decide) ?_
                  exact ih55 z1282 s1280 _ _ _ (iv_mono (c := 0) (d := 1000) h1283 (by decide) (by decide)) (fun _ => (eq_l (Eq.trans (congrFun (gs1280 4 (nm_1 (by decide) nm_0)) 4) (Eq.trans (congrFun (gs1264 4 (nm_1 (by decide) nm_0)) 4) (Eq.trans (congrFun (gs1261 4 (nm_1 (by decide) nm_0)) 4) (Eq.trans (congrFun (gs1256 4 (nm_1 (by decide) nm_0)) 4) (congrFun (gt55 4 (nm_1 (by decide) (nm_1 (by decide) nm_0))) 4))))) (⟨h36.1, h36.2⟩ : Iv 1 8 (s34 4 4)))) hBs1280 (fr_ca (fr_ca (fr_ca (fr_ca gt55 gs1256 (sub_1 (List.mem_of_getElem? (i := 0) rfl) sub_0)) gs1261 (sub_1 (List.mem_of_getElem? (i := 0) rfl) sub_0)) gs1264 (sub_1 (List.mem_of_getElem? (i := 0) rfl) sub_0)) gs1280 (sub_1 (List.mem_of_getElem? (i := 1) rfl) sub_0)) hP hD hS (lv_sub hl [0, 3, 4] rfl) (fu_s (lo := 0) (ti_inc ez1282 h1248 (by decide) (by decide) (by decide) (by decide)) (by decide) hm55)
              · skip
                have g1284 := g9
                refine lv_if_eq (tgt := 141) hx hb dX2_readWheel_75 (by decide) (fun c1285 => ?_) (fun c1285 => ?_)
                rotate_left
                · first | exact absurd c1285 (by decide) | exact absurd (by decide) c1285
                rw [hQ]
                exact W.vret hx hb hr (fun t ht hW => ⟨⟨t55, rfl, ⟨hBt55, hFt55, (Eq.trans (congrFun (gt55 4 (nm_1 (by decide) (nm_1 (by decide) nm_0))) 0) (Eq.trans qs34_0 (Eq.trans (congrFun (gs13 4 (nm_1 (by decide) nm_0)) 0) (Eq.trans (congrFun (gs10 4 (nm_1 (by decide) nm_0)) 0) (congrFun (gs6 4 (nm_1 (by decide) nm_0)) 0))))), (Eq.trans (congrFun (gt55 4 (nm_1 (by decide) (nm_1 (by decide) nm_0))) 1) (Eq.trans qs34_1 (Eq.trans (congrFun (gs13 4 (nm_1 (by decide) nm_0)) 1) (Eq.trans (congrFun (gs10 4 (nm_1 (by decide) nm_0)) 1) (congrFun (gs6 4 (nm_1 (by decide) nm_0)) 1))))), (Eq.trans (congrFun (gt55 4 (nm_1 (by decide) (nm_1 (by decide) nm_0))) 2) (Eq.trans qs34_2 (Eq.trans (congrFun (gs13 4 (nm_1 (by decide) nm_0)) 2) (Eq.trans (congrFun (gs10 4 (nm_1 (by decide) nm_0)) 2) (congrFun (gs6 4 (nm_1 (by decide) nm_0)) 2))))), (Eq.trans (congrFun (gt55 4 (nm_1 (by decide) (nm_1 (by decide) nm_0))) 3) (Eq.trans qs34_3 (Eq.trans (congrFun (gs13 4 (nm_1 (by decide) nm_0)) 3) (Eq.trans (congrFun (gs10 4 (nm_1 (by decide) nm_0)) 3) (congrFun (gs6 4 (nm_1 (by decide) nm_0)) 3))))), (Eq.trans (congrFun (gt55 4 (nm_1 (by decide) (nm_1 (by decide) nm_0))) 5) (Eq.trans qs34_4 (Eq.trans (congrFun (gs13 4 (nm_1 (by decide) nm_0)) 5) (Eq.trans (congrFun (gs10 4 (nm_1 (by decide) nm_0)) 5) (congrFun (gs6 4 (nm_1 (by decide) nm_0)) 5))))), (Eq.trans (congrFun (gt55 4 (nm_1 (by decide) (nm_1 (by decide) nm_0))) 6) (Eq.trans qs34_5 (Eq.trans (congrFun (gs13 4 (nm_1 (by decide) nm_0)) 6) (Eq.trans (congrFun (gs10 4 (nm_1 (by decide) nm_0)) 6) (congrFun (gs6 4 (nm_1 (by decide) nm_0)) 6))))), trivial⟩, by rw [ht]; exact hP, va_K.moved hW.alike (hK.sub (tys' := []) [] rfl), by rw [hAe]; exact hD⟩, by rw [hAe]; exact hS.F ht⟩) hS.2.2 dX2_readWheel_141
      exact lp55 1001 0 s34 _ _ _ (iv_mono (c := 0) (d := 1000) (iv_c (by decide) : Iv 0 0 0) (by decide) (by decide)) (fun _ => (⟨h36.1, h36.2⟩ : Iv 1 8 (s34 4 4))) hBs34 fr_rf hP hD hS (lv_sub hl [0, 1, 2] rfl) (fu_i (iv_mono (c := 0) (d := 1000) (iv_c (by decide) : Iv 0 0 0) (by decide) (by decide)) (by decide))
  · skip
    have n1286 : (8 : Int32).toInt ≤ (st 4 4).toInt := (i_nlt c2)
    have h1287 : Iv 8 8 (st 4 4) := le_r (iv_c (by decide) : Iv 8 8 8) n1286 h1 (by decide)
    refine lv_aload_n hx hb dX2_readWheel_12 rfl (lv_at hl 0 rfl) ?_
    refine lv_iconst (v := 3) hx hb dX2_readWheel_13 (by decide) ?_
    refine ca_v hP hD hS hA (fun hDc => run_V (mc := 0) (ms := 0) (As := [.int 3]) (rest := []) S (s_X2_fail l D k a st sl  3 _  hB (iv_mono (c := 1) (d := 3) (iv_c (by decide) : Iv 3 3 3) (by decide) (by decide)) ) lkX2_77 ok_X2_fail ⟨rfl, rfl, Nat.le_of_ble_eq_true rfl, Nat.le_of_ble_eq_true rfl⟩ (pw_V (ci := 2) (q0 := 1) hK hN rfl cw_1 hP hDc) rfl hl.1 rfl (Nat.le_of_ble_eq_true rfl) ⟨Nat.zero_le _, Nat.zero_le _⟩ dX2_readWheel_14) (fun s1288 H9 locs9 hs1288 hP9 hD9 hS9 => ?_)
    clear hP hD hS
    have hS := hS9
    have hP := hP9
    have hD := hD9
    clear hP9 hD9 hS9
    obtain ⟨hBs1288, gs1288, qs1288_0, qs1288_1, qs1288_2, qs1288_3, fs1288⟩ := hs1288
    have hFs1288 : FR [1, 13, 4, 12] st s1288 := fr_ca fr_rf gs1288 (sub_1 (List.mem_of_getElem? (i := 0) rfl) sub_0)
    have k1290 := fs1288
    refine lv_aload_n hx hb dX2_readWheel_17 rfl (lv_at hl 0 rfl) ?_
    obtain ⟨w1291, vw1291, tw1291⟩ := hX.2 _ (List.mem_of_getElem? (l := LIT) (i := 6) rfl)
    have vw1291 : vk_R RX2 62 "wheel" w1291 s := vw1291
    have tw1291 : STA A w1291 5 (fun j9 => ([119, 104, 101, 101, 108] : List Int32).getD j9 0) s s.heap := tw1291
    refine va_ldcS hx hb hown vw1291 dX2_readWheel_18 ?_
    refine ca_v hP hD hS hA (fun hDc => run_V (mc := 0) (ms := 0) (As := [.ref w1291]) (rest := []) S (s_X2_passWord l D k a s1288 sl   w1291 5 (fun j9 => ([119, 104, 101, 101, 108] : List Int32).getD j9 0) _  hBs1288 (by decide) ) lkX2_83 ok_X2_passWord ⟨rfl, rfl, Nat.le_of_ble_eq_true rfl, Nat.le_of_ble_eq_true rfl⟩ (px_V (ci := 2) (q0 := 1) nice_NSW hK hN rfl cw_1 hP hDc (show NSW w1291 5 (fun j9 => ([119, 104, 101, 101, 108] : List Int32).getD j9 0) A s s.heap from ⟨hX, tw1291⟩) hS (px_free hD hS hA)) rfl hl.1 rfl (Nat.le_of_ble_eq_true rfl) ⟨Nat.zero_le _, Nat.zero_le _⟩ dX2_readWheel_20) (fun s1292 H9 locs9 hs1292 hP9 hD9 hS9 => ?_)
    clear hP hD hS
    have hS := hS9
    have hP := hP9
    have hD := hD9
    clear hP9 hD9 hS9
    obtain ⟨hBs1292, gs1292, fs1292⟩ := hs1292
    have hFs1292 : FR [1, 13, 4, 12] st s1292 := fr_ca hFs1288 gs1292 (sub_1 (List.mem_of_getElem? (i := 0) rfl) sub_0)
    have k1294 := fs1292
    refine lv_aload_n hx hb dX2_readWheel_23 rfl (lv_at hl 0 rfl) ?_
    obtain ⟨w1295, vw1295, tw1295⟩ := hX.2 _ (List.mem_of_getElem? (l := LIT) (i := 7) rfl)
    have vw1295 : vk_R RX2 117 "rim" w1295 s := vw1295
    have tw1295 : STA A w1295 3 (fun j9 => ([114, 105, 109] : List Int32).getD j9 0) s s.heap := tw1295
    refine va_ldcS hx hb hown vw1295 dX2_readWheel_24 ?_
    refine ca_v hP hD hS hA (fun hDc => run_V (mc := 0) (ms := 0) (As := [.ref w1295]) (rest := []) S (s_X2_passWord l D k a s1292 sl   w1295 3 (fun j9 => ([114, 105, 109] : List Int32).getD j9 0) _  hBs1292 (by decide) ) lkX2_83 ok_X2_passWord ⟨rfl, rfl, Nat.le_of_ble_eq_true rfl, Nat.le_of_ble_eq_true rfl⟩ (px_V (ci := 2) (q0 := 1) nice_NSW hK hN rfl cw_1 hP hDc (show NSW w1295 3 (fun j9 => ([114, 105, 109] : List Int32).getD j9 0) A s s.heap from ⟨hX, tw1295⟩) hS (px_free hD hS hA)) rfl hl.1 rfl (Nat.le_of_ble_eq_true rfl) ⟨Nat.zero_le _, Nat.zero_le _⟩ dX2_readWheel_26) (fun s1296 H9 locs9 hs1296 hP9 hD9 hS9 => ?_)
    clear hP hD hS
    have hS := hS9
    have hP := hP9
    have hD := hD9
    clear hP9 hD9 hS9
    obtain ⟨hBs1296, gs1296, fs1296⟩ := hs1296
    have hFs1296 : FR [1, 13, 4, 12] st s1296 := fr_ca hFs1292 gs1296 (sub_1 (List.mem_of_getElem? (i := 0) rfl) sub_0)
    have k1298 := fs1296
    refine lv_aload_n hx hb dX2_readWheel_29 rfl (lv_at hl 0 rfl) ?_
    refine lv_iconst (v := 0) hx hb dX2_readWheel_30 (by decide) ?_
    refine lv_sipush (v := 999) hx hb dX2_readWheel_31 (by decide) ?_
    refine ca_i hP hD hS hA (fun hDc => run_V (mc := 0) (ms := 0) (As := [.int 0, .int 999]) (rest := []) S (s_X2_passNumber l D k a s1296 sl  0 999 _  hBs1296  ) lkX2_89 ok_X2_passNumber ⟨rfl, rfl, Nat.le_of_ble_eq_true rfl, Nat.le_of_ble_eq_true rfl⟩ (pw_V (ci := 2) (q0 := 1) hK hN rfl cw_1 hP hDc) rfl hl.1 rfl (Nat.le_of_ble_eq_true rfl) ⟨Nat.zero_le _, Nat.zero_le _⟩ dX2_readWheel_34) (fun r1300 s1299 H9 locs9 hs1299 hP9 hD9 hS9 => ?_)
    clear hP hD hS
    have hS := hS9
    have hP := hP9
    have hD := hD9
    clear hP9 hD9 hS9
    obtain ⟨hBs1299, gs1299, fs1299⟩ := hs1299
    have hFs1299 : FR [1, 13, 4, 12] st s1299 := fr_ca hFs1296 gs1299 (sub_1 (List.mem_of_getElem? (i := 0) rfl) sub_0)
    have k1301 := fs1299
    refine lv_istore_n (lv' := [(1, .int r1300), (0, .ref (a 1))]) hx hb dX2_readWheel_37 rfl hl (by decide) rfl (fun ls hl => ?_)
    refine lv_aload_n hx hb dX2_readWheel_38 rfl (lv_at hl 1 rfl) ?_
    refine va_get (D := D) (ci := 2) (v := .int (s1299 1 2)) (C := RX2) (T := TX2) (N := 8) hx hb hT in_X2 hown hK hP 1 cw_1 rfl 2 (by decide) (hT _ t276) (fun _ h9 => h9) rfl dX2_readWheel_39 ?_
    refine lv_if_ne (tgt := 53) hx hb dX2_readWheel_42 (by decide) (fun c1302 => ?_) (fun c1302 => ?_)
    · skip
      refine lv_iconst (v := 0) hx hb dX2_readWheel_53 (by decide) ?_
      refine lv_istore_n (lv' := [(2, .int 0), (1, .int r1300), (0, .ref (a 1))]) hx hb dX2_readWheel_54 rfl hl (by decide) rfl (fun ls hl => ?_)
      refine lv_iload_n hx hb dX2_readWheel_55 rfl (lv_at hl 0 rfl) ?_
      refine lv_sipush (v := 1000) hx hb dX2_readWheel_56 (by decide) ?_
      refine lv_icmp_ge (tgt := 141) hx hb dX2_readWheel_59 (by decide) (fun c1309 => ?_) (fun c1309 => ?_)
      · first | exact absurd c1309 (by decide) | exact absurd (by decide) c1309
      refine lv_aload_n hx hb dX2_readWheel_62 rfl (lv_at hl 2 rfl) ?_
      refine va_get (D := D) (ci := 2) (v := .int (s1299 1 2)) (C := RX2) (T := TX2) (N := 8) hx hb hT in_X2 hown hK hP 1 cw_1 rfl 2 (by decide) (hT _ t276) (fun _ h9 => h9) rfl dX2_readWheel_63 ?_
      refine lv_if_ne (tgt := 141) hx hb dX2_readWheel_66 (by decide) (fun c1310 => ?_) (fun c1310 => ?_)
      · skip
        rw [hQ]
        exact W.vret hx hb hr (fun t ht hW => ⟨⟨s1299, rfl, ⟨hBs1299, hFs1299, (Eq.trans (congrFun (gs1299 4 (nm_1 (by decide) nm_0)) 0) (Eq.trans (congrFun (gs1296 4 (nm_1 (by decide) nm_0)) 0) (Eq.trans (congrFun (gs1292 4 (nm_1 (by decide) nm_0)) 0) (congrFun (gs1288 4 (nm_1 (by decide) nm_0)) 0)))), (Eq.trans (congrFun (gs1299 4 (nm_1 (by decide) nm_0)) 1) (Eq.trans (congrFun (gs1296 4 (nm_1 (by decide) nm_0)) 1) (Eq.trans (congrFun (gs1292 4 (nm_1 (by decide) nm_0)) 1) (congrFun (gs1288 4 (nm_1 (by decide) nm_0)) 1)))), (Eq.trans (congrFun (gs1299 4 (nm_1 (by decide) nm_0)) 2) (Eq.trans (congrFun (gs1296 4 (nm_1 (by decide) nm_0)) 2) (Eq.trans (congrFun (gs1292 4 (nm_1 (by decide) nm_0)) 2) (congrFun (gs1288 4 (nm_1 (by decide) nm_0)) 2)))), (Eq.trans (congrFun (gs1299 4 (nm_1 (by decide) nm_0)) 3) (Eq.trans (congrFun (gs1296 4 (nm_1 (by decide) nm_0)) 3) (Eq.trans (congrFun (gs1292 4 (nm_1 (by decide) nm_0)) 3) (congrFun (gs1288 4 (nm_1 (by decide) nm_0)) 3)))), (Eq.trans (congrFun (gs1299 4 (nm_1 (by decide) nm_0)) 5) (Eq.trans (congrFun (gs1296 4 (nm_1 (by decide) nm_0)) 5) (Eq.trans (congrFun (gs1292 4 (nm_1 (by decide) nm_0)) 5) (congrFun (gs1288 4 (nm_1 (by decide) nm_0)) 5)))), (Eq.trans (congrFun (gs1299 4 (nm_1 (by decide) nm_0)) 6) (Eq.trans (congrFun (gs1296 4 (nm_1 (by decide) nm_0)) 6) (Eq.trans (congrFun (gs1292 4 (nm_1 (by decide) nm_0)) 6) (congrFun (gs1288 4 (nm_1 (by decide) nm_0)) 6)))), trivial⟩, by rw [ht]; exact hP, va_K.moved hW.alike (hK.sub (tys' := []) [] rfl), by rw [hAe]; exact hD⟩, by rw [hAe]; exact hS.F ht⟩) hS.2.2 dX2_readWheel_141
      · skip
        have h1311 : Iv 0 0 (s1299 1 2) := eq_l c1310 (iv_c (by decide) : Iv 0 0 0)
        have k1312 : (s1299 1 2) = 0 := c1310
        exact absurd k1312 c1302
    · skip
      have h1313 : Iv 0 0 (s1299 1 2) := eq_l c1302 (iv_c (by decide) : Iv 0 0 0)
      have k1314 : (s1299 1 2) = 0 := c1302
      have k1315 : (s1296 1 2) = 0 := (fun z9 => (k1301 z9).1) k1314
      have k1316 := (fun z9 => (⟨Int.le_trans ((iv_c (by decide) : Iv 0 0 0)).1 (k1301 z9).2.1, Int.le_trans (k1301 z9).2.2 ((iv_c (by decide) : Iv 999 999 999)).2⟩ : Iv 0 999 r1300)) k1314
      have h1317 : Iv 0 999 r1300 := ⟨k1316.1, k1316.2⟩
      have k1318 : (s1292 1 2) = 0 := k1298 k1315
      have k1319 : (s1288 1 2) = 0 := k1294 k1318
      exact absurd k1319 k1290
set_option maxHeartbeats 4000000 in
set_option maxRecDepth 100000 in
theorem s_X2_readCart (l : Launch) (D : va_G) (k : Nat → ClassId) (a : Nat → Nat) (st : CT) (sl : CL) (sz : Nat) (hB : CB st)  : Met l yX2_readCart (.code yX2_readCart cX2_readCart 3 none :: TB) (rmw 7 0 0) (va_Pc [.ref (a 1)] (PX D k sz (CWS k a st sl) NS)) (QV D (S := CT) (fun u => CB u ∧ FR [1, 15, 4, 14] st u ∧ u 4 0 = st 4 0 ∧ u 4 1 = st 4 1 ∧ u 4 2 = st 4 2 ∧ u 4 3 = st 4 3 ∧ u 4 4 = st 4 4 ∧ u 4 6 = st 4 6 ∧ (True)) (fun u => CWS k a u sl) (fun _ => []) (CWS k a st sl) sz) 0 0 (va_A (CWS k a st sl) sz) := by
  refine Met.ofW (cc := cX2_readCart) (maxL := 3) (ret := none) (by decide) rfl ?_
  intro p e s m args below meth c s₁ B hml hv
  obtain ⟨rfl, hsz, hP, hK, hD0, hN, hX⟩ := hv
  have hx := B.exec
  have hb := B.bytes
  have hr := B.returns
  have hT : ∀ w9 ∈ TB, w9.before ([.ref (a 1)] : List Value).toArray s = true := fun w9 h => atoms_spec (ws := .code yX2_readCart cX2_readCart 3 none :: TB) B.pre w9 (List.mem_cons_of_mem _ h)
  have hown : s.vm.findClass RX2 = some m.cls := findClass_of_methodNamed B.named
  have S : CallFix p m c cX2_readCart 3 s _ TB RX2 := ⟨hx, hb, hml, hown, hT⟩
  subst hsz
  have hD := hD0.self (sz := s.heap.size)
  generalize hAe : va_A (CWS k a st sl) s.heap.size = A at hD hX ⊢
  have hA : ∀ q : Nat, s.heap.size ≤ q → A q := fun q h => by rw [← hAe]; exact Or.inr h
  have hS : va_S A s.heap s.heap [] := va_S.rf
  have hl := lv_entry ([.ref (a 1)]) (n := 3) (Nat.le_of_ble_eq_true rfl)
  rw [lg_entry_eq]
  generalize (lg_sl ([.ref (a 1)]) ++ List.replicate (3 - (lg_sl ([.ref (a 1)])).length) Slot.unset).toArray = ls at hl ⊢
  have hl : lv_has ls 3 [(0, .ref (a 1))] := hl
  refine nameQ (fun Q hQ => ?_)
  refine lv_aload_n hx hb dX2_readCart_0 rfl (lv_at hl 0 rfl) ?_
  refine va_get (D := D) (ci := 2) (v := .ref (a 4)) (C := RX2) (T := TX2) (N := 8) hx hb hT in_X2 hown hK hP 1 cw_1 rfl 1 (by decide) (hT _ t274) (fun _ h9 => h9) rfl dX2_readCart_1 ?_
  refine va_get (D := D) (ci := 1) (v := .int (st 4 5)) (C := RX1) (T := TX1) (N := 14) hx hb hT in_X1 hown hK hP 4 cw_4 rfl 5 (by decide) (hT _ t217) (fun _ h9 => h9) rfl dX2_readCart_4 ?_
  have h1 : Iv 0 3 (st 4 5) := (rb_4_5 hB)
  refine lv_iconst (v := 3) hx hb dX2_readCart_7 (by decide) ?_
  refine lv_icmp_lt (tgt := 16) hx hb dX2_readCart_8 (by decide) (fun c2 => ?_) (fun c2 => ?_)
  · skip
    have n3 : (st 4 5).toInt < (3 : Int32).toInt := (i_lt c2)
    have h4 : Iv 0 2 (st 4 5) := lt_l h1 n3 (iv_c (by decide) : Iv 3 3 3) (by decide)
    refine lv_aload_n hx hb dX2_readCart_16 rfl (lv_at hl 0 rfl) ?_
    obtain ⟨w5, vw5, tw5⟩ := hX.2 _ (List.mem_of_getElem? (l := LIT) (i := 9) rfl)
    have vw5 : vk_R RX2 67 "cart" w5 s := vw5
    have tw5 : STA A w5 4 (fun j9 => ([99, 97, 114, 116] : List Int32).getD j9 0) s s.heap := tw5
    refine va_ldcS hx hb hown vw5 dX2_readCart_17 ?_
    refine ca_v hP hD hS hA (fun hDc => run_V (mc := 0) (ms := 0) (As := [.ref w5]) (rest := []) S (s_X2_passWord l D k a st sl   w5 4 (fun j9 => ([99, 97, 114, 116] : List Int32).getD j9 0) _  hB (by decide) ) lkX2_83 ok_X2_passWord ⟨rfl, rfl, Nat.le_of_ble_eq_true rfl, Nat.le_of_ble_eq_true rfl⟩ (px_V (ci := 2) (q0 := 1) nice_NSW hK hN rfl cw_1 hP hDc (show NSW w5 4 (fun j9 => ([99, 97, 114, 116] : List Int32).getD j9 0) A s s.heap from ⟨hX, tw5⟩) hS (px_free hD hS hA)) rfl hl.1 rfl (Nat.le_of_ble_eq_true rfl) ⟨Nat.zero_le _, Nat.zero_le _⟩ dX2_readCart_19) (fun s6 H9 locs9 hs6 hP9 hD9 hS9 => ?_)
    clear hP hD hS
    have hS := hS9
    have hP := hP9
    have hD := hD9
    clear hP9 hD9 hS9
    obtain ⟨hBs6, gs6, fs6⟩ := hs6
    have hFs6 : FR [1, 15, 4, 14] st s6 := fr_ca fr_rf gs6 (sub_1 (List.mem_of_getElem? (i := 0) rfl) sub_0)
    have k8 := fs6
    refine lv_aload_n hx hb dX2_readCart_22 rfl (lv_at hl 0 rfl) ?_
    obtain ⟨w9, vw9, tw9⟩ := hX.2 _ (List.mem_of_getElem? (l := LIT) (i := 10) rfl)
    have vw9 : vk_R RX2 136 "at" w9 s := vw9
    have tw9 : STA A w9 2 (fun j9 => ([97, 116] : List Int32).getD j9 0) s s.heap := tw9
    refine va_ldcS hx hb hown vw9 dX2_readCart_23 ?_
    refine ca_v hP hD hS hA (fun hDc => run_V (mc := 0) (ms := 0) (As := [.ref w9]) (rest := []) S (s_X2_passWord l D k a s6 sl   w9 2 (fun j9 => ([97, 116] : List Int32).getD j9 0) _  hBs6 (by decide) ) lkX2_83 ok_X2_passWord ⟨rfl, rfl, Nat.le_of_ble_eq_true rfl, Nat.le_of_ble_eq_true rfl⟩ (px_V (ci := 2) (q0 := 1) nice_NSW hK hN rfl cw_1 hP hDc (show NSW w9 2 (fun j9 => ([97, 116] : List Int32).getD j9 0) A s s.heap from ⟨hX, tw9⟩) hS (px_free hD hS hA)) rfl hl.1 rfl (Nat.le_of_ble_eq_true rfl) ⟨Nat.zero_le _, Nat.zero_le _⟩ dX2_readCart_25) (fun s10 H9 locs9 hs10 hP9 hD9 hS9 => ?_)
    clear hP hD hS
    have hS := hS9
    have hP := hP9
    have hD := hD9
    clear hP9 hD9 hS9
    obtain ⟨hBs10, gs10, fs10⟩ := hs10
    have hFs10 : FR [1, 15, 4, 14] st s10 := fr_ca hFs6 gs10 (sub_1 (List.mem_of_getElem? (i := 0) rfl) sub_0)
    have k12 := fs10
    refine lv_aload_n hx hb dX2_readCart_28 rfl (lv_at hl 0 rfl) ?_
    refine lv_iconst (v := 0) hx hb dX2_readCart_29 (by decide) ?_
    refine lv_aload_n hx hb dX2_readCart_30 rfl (lv_at hl 0 rfl) ?_
    refine va_get (D := D) (ci := 2) (v := .ref (a 4)) (C := RX2) (T := TX2) (N := 8) hx hb hT in_X2 hown hK hP 1 cw_1 rfl 1 (by decide) (hT _ t274) (fun _ h9 => h9) rfl dX2_readCart_31 ?_
    refine va_get (D := D) (ci := 1) (v := .int (s10 4 1)) (C := RX1) (T := TX1) (N := 14) hx hb hT in_X1 hown hK hP 4 cw_4 rfl 1 (by decide) (hT _ t200) (fun _ h9 => h9) rfl dX2_readCart_34 ?_
    refine k_top (y := (st 4 1)) (Eq.trans (congrFun (gs10 4 (nm_1 (by decide) nm_0)) 1) (congrFun (gs6 4 (nm_1 (by decide) nm_0)) 1)) ?_
    have h13 : Iv 0 6 (st 4 1) := (rb_4_1 hB)
    refine lv_iconst (v := 1) hx hb dX2_readCart_37 (by decide) ?_
    refine lv_isub hx hb dX2_readCart_38 ?_
    refine lv_topi (fun z14 ez14 => ?_)
    have h15 : Iv (-1) 5 z14 := iv_sub ez14 h13 (iv_c (by decide) : Iv 1 1 1) (by decide) (by decide) (by decide) (by decide)
    refine ca_i hP hD hS hA (fun hDc => run_V (mc := 0) (ms := 0) (As := [.int 0, .int z14]) (rest := []) S (s_X2_passNumber l D k a s10 sl  0 z14 _  hBs10  ) lkX2_89 ok_X2_passNumber ⟨rfl, rfl, Nat.le_of_ble_eq_true rfl, Nat.le_of_ble_eq_true rfl⟩ (pw_V (ci := 2) (q0 := 1) hK hN rfl cw_1 hP hDc) rfl hl.1 rfl (Nat.le_of_ble_eq_true rfl) ⟨Nat.zero_le _, Nat.zero_le _⟩ dX2_readCart_39) (fun r17 s16 H9 locs9 hs16 hP9 hD9 hS9 => ?_)
    clear hP hD hS
    have hS := hS9
    have hP := hP9
    have hD := hD9
    clear hP9 hD9 hS9
    obtain ⟨hBs16, gs16, fs16⟩ := hs16
    have hFs16 : FR [1, 15, 4, 14] st s16 := fr_ca hFs10 gs16 (sub_1 (List.mem_of_getElem? (i := 0) rfl) sub_0)
    have k18 := fs16
    refine lv_istore_n (lv' := [(1, .int r17), (0, .ref (a 1))]) hx hb dX2_readCart_42 rfl hl (by decide) rfl (fun ls hl => ?_)
    refine lv_aload_n hx hb dX2_readCart_43 rfl (lv_at hl 1 rfl) ?_
    obtain ⟨w19, vw19, tw19⟩ := hX.2 _ (List.mem_of_getElem? (l := LIT) (i := 11) rfl)
    have vw19 : vk_R RX2 138 "wheels" w19 s := vw19
    have tw19 : STA A w19 6 (fun j9 => ([119, 104, 101, 101, 108, 115] : List Int32).getD j9 0) s s.heap := tw19
    refine va_ldcS hx hb hown vw19 dX2_readCart_44 ?_
    refine ca_v hP hD hS hA (fun hDc => run_V (mc := 0) (ms := 0) (As := [.ref w19]) (rest := []) S (s_X2_passWord l D k a s16 sl   w19 6 (fun j9 => ([119, 104, 101, 101, 108, 115] : List Int32).getD j9 0) _  hBs16 (by decide) ) lkX2_83 ok_X2_passWord ⟨rfl, rfl, Nat.le_of_ble_eq_true rfl, Nat.le_of_ble_eq_true rfl⟩ (px_V (ci := 2) (q0 := 1) nice_NSW hK hN rfl cw_1 hP hDc (show NSW w19 6 (fun j9 => ([119, 104, 101, 101, 108, 115] : List Int32).getD j9 0) A s s.heap from ⟨hX, tw19⟩) hS (px_free hD hS hA)) rfl hl.1 rfl (Nat.le_of_ble_eq_true rfl) ⟨Nat.zero_le _, Nat.zero_le _⟩ dX2_readCart_46) (fun s20 H9 locs9 hs20 hP9 hD9 hS9 => ?_)
    clear hP hD hS
    have hS := hS9
    have hP := hP9
    have hD := hD9
    clear hP9 hD9 hS9
    obtain ⟨hBs20, gs20, fs20⟩ := hs20
    have hFs20 : FR [1, 15, 4, 14] st s20 := fr_ca hFs16 gs20 (sub_1 (List.mem_of_getElem? (i := 0) rfl) sub_0)
    have k22 := fs20
    refine lv_aload_n hx hb dX2_readCart_49 rfl (lv_at hl 1 rfl) ?_
    refine va_get (D := D) (ci := 2) (v := .int (s20 1 4)) (C := RX2) (T := TX2) (N := 8) hx hb hT in_X2 hown hK hP 1 cw_1 rfl 4 (by decide) (hT _ t280) (fun _ h9 => h9) rfl dX2_readCart_50 ?_
    refine lv_iconst (v := 2) hx hb dX2_readCart_53 (by decide) ?_
    refine lv_icmp_eq (tgt := 62) hx hb dX2_readCart_54 (by decide) (fun c23 => ?_) (fun c23 => ?_)
    · skip
      have h24 : Iv 2 2 (s20 1 4) := eq_l c23 (iv_c (by decide) : Iv 2 2 2)
      refine lv_aload_n hx hb dX2_readCart_62 rfl (lv_at hl 1 rfl) ?_
      refine va_get (D := D) (ci := 2) (v := .int (s20 1 2)) (C := RX2) (T := TX2) (N := 8) hx hb hT in_X2 hown hK hP 1 cw_1 rfl 2 (by decide) (hT _ t276) (fun _ h9 => h9) rfl dX2_readCart_63 ?_
      refine lv_if_ne (tgt := 77) hx hb dX2_readCart_66 (by decide) (fun c25 => ?_) (fun c25 => ?_)
      · skip
        refine lv_iconst (v := 0) hx hb dX2_readCart_77 (by decide) ?_
        refine lv_istore_n (lv' := [(2, .int 0), (1, .int r17), (0, .ref (a 1))]) hx hb dX2_readCart_78 rfl hl (by decide) rfl (fun ls hl => ?_)
        refine lv_iload_n hx hb dX2_readCart_79 rfl (lv_at hl 0 rfl) ?_
        refine lv_sipush (v := 1000) hx hb dX2_readCart_80 (by decide) ?_
        refine lv_icmp_ge (tgt := 112) hx hb dX2_readCart_83 (by decide) (fun c32 => ?_) (fun c32 => ?_)
        · first | exact absurd c32 (by decide) | exact absurd (by decide) c32
        refine lv_aload_n hx hb dX2_readCart_86 rfl (lv_at hl 2 rfl) ?_
        refine va_get (D := D) (ci := 2) (v := .int (s20 1 2)) (C := RX2) (T := TX2) (N := 8) hx hb hT in_X2 hown hK hP 1 cw_1 rfl 2 (by decide) (hT _ t276) (fun _ h9 => h9) rfl dX2_readCart_87 ?_
        refine lv_if_ne (tgt := 112) hx hb dX2_readCart_90 (by decide) (fun c33 => ?_) (fun c33 => ?_)
        · skip
          rw [hQ]
          exact W.vret hx hb hr (fun t ht hW => ⟨⟨s20, rfl, ⟨hBs20, hFs20, (Eq.trans (congrFun (gs20 4 (nm_1 (by decide) nm_0)) 0) (Eq.trans (congrFun (gs16 4 (nm_1 (by decide) nm_0)) 0) (Eq.trans (congrFun (gs10 4 (nm_1 (by decide) nm_0)) 0) (congrFun (gs6 4 (nm_1 (by decide) nm_0)) 0)))), (Eq.trans (congrFun (gs20 4 (nm_1 (by decide) nm_0)) 1) (Eq.trans (congrFun (gs16 4 (nm_1 (by decide) nm_0)) 1) (Eq.trans (congrFun (gs10 4 (nm_1 (by decide) nm_0)) 1) (congrFun (gs6 4 (nm_1 (by decide) nm_0)) 1)))), (Eq.trans (congrFun (gs20 4 (nm_1 (by decide) nm_0)) 2) (Eq.trans (congrFun (gs16 4 (nm_1 (by decide) nm_0)) 2) (Eq.trans (congrFun (gs10 4 (nm_1 (by decide) nm_0)) 2) (congrFun (gs6 4 (nm_1 (by decide) nm_0)) 2)))), (Eq.trans (congrFun (gs20 4 (nm_1 (by decide) nm_0)) 3) (Eq.trans (congrFun (gs16 4 (nm_1 (by decide) nm_0)) 3) (Eq.trans (congrFun (gs10 4 (nm_1 (by decide) nm_0)) 3) (congrFun (gs6 4 (nm_1 (by decide) nm_0)) 3)))), (Eq.trans (congrFun (gs20 4 (nm_1 (by decide) nm_0)) 4) (Eq.trans (congrFun (gs16 4 (nm_1 (by decide) nm_0)) 4) (Eq.trans (congrFun (gs10 4 (nm_1 (by decide) nm_0)) 4) (congrFun (gs6 4 (nm_1 (by decide) nm_0)) 4)))), (Eq.trans (congrFun (gs20 4 (nm_1 (by decide) nm_0)) 6) (Eq.trans (congrFun (gs16 4 (nm_1 (by decide) nm_0)) 6) (Eq.trans (congrFun (gs10 4 (nm_1 (by decide) nm_0)) 6) (congrFun (gs6 4 (nm_1 (by decide) nm_0)) 6)))), trivial⟩, by rw [ht]; exact hP, va_K.moved hW.alike (hK.sub (tys' := []) [] rfl), by rw [hAe]; exact hD⟩, by rw [hAe]; exact hS.F ht⟩) hS.2.2 dX2_readCart_112
        · skip
          have h34 : Iv 0 0 (s20 1 2) := eq_l c33 (iv_c (by decide) : Iv 0 0 0)
          have k35 : (s20 1 2) = 0 := c33
          exact absurd k35 c25
      · skip
        have h36 : Iv 0 0 (s20 1 2) := eq_l c25 (iv_c (by decide) : Iv 0 0 0)
        have k37 : (s20 1 2) = 0 := c25
        have k38 : (s16 1 2) = 0 := k22 k37
        have k39 : (s10 1 2) = 0 := (fun z9 => (k18 z9).1) k38
        have k40 := (fun z9 => (⟨Int.le_trans ((iv_c (by decide) : Iv 0 0 0)).1 (k18 z9).2.1, Int.le_trans (k18 z9).2.2 (h15).2⟩ : Iv 0 5 r17)) k38
        have h41 : Iv 0 5 r17 := ⟨k40.1, k40.2⟩
        have k42 : (s6 1 2) = 0 := k12 k39
        have k43 : (st 1 2) = 0 := k8 k42
        refine lv_aload_n hx hb dX2_readCart_69 rfl (lv_at hl 1 rfl) ?_
        refine va_get (D := D) (ci := 2) (v := .ref (a 4)) (C := RX2) (T := TX2) (N := 8) hx hb hT in_X2 hown hK hP 1 cw_1 rfl 1 (by decide) (hT _ t274) (fun _ h9 => h9) rfl dX2_readCart_70 ?_
        refine lv_iload_n hx hb dX2_readCart_73 rfl (lv_at hl 0 rfl) ?_
        refine ca_v hP hD hS hA (fun hDc => run_V (mc := 0) (ms := 0) (As := [.int r17]) (rest := []) S (s_X1_addCart l D k a s20 sl  r17 _  hBs20 h41 ) lkX2_140 ok_X1_addCart ⟨rfl, rfl, Nat.le_of_ble_eq_true rfl, Nat.le_of_ble_eq_true rfl⟩ (pw_V (ci := 1) (q0 := 4) hK hN rfl cw_4 hP hDc) rfl hl.1 rfl (Nat.le_of_ble_eq_true rfl) ⟨Nat.zero_le _, Nat.zero_le _⟩ dX2_readCart_74) (fun s44 H9 locs9 hs44 hP9 hD9 hS9 => ?_)
        clear hP hD hS
        have hS := hS9
        have hP := hP9
        have hD := hD9
        clear hP9 hD9 hS9
        obtain ⟨hBs44, gs44, qs44_0, qs44_1, qs44_2, qs44_3, qs44_4, qs44_5, fs44⟩ := hs44
        have hFs44 : FR [1, 15, 4, 14] st s44 := fr_ca hFs20 gs44 (sub_1 (List.mem_of_getElem? (i := 1) rfl) (sub_1 (List.mem_of_getElem? (i := 2) rfl) sub_0))
        refine lv_iconst (v := 0) hx hb dX2_readCart_77 (by decide) ?_
        refine lv_istore_n (lv' := [(2, .int 0), (1, .int r17), (0, .ref (a 1))]) hx hb dX2_readCart_78 rfl hl (by decide) rfl (fun ls hl => ?_)
        have lp79 : ∀ (n9_79 : Nat) (v2_79 : Int32) (t79 : CT) (H9 : Heap) (locs9 : List Loc) (ls : Array Slot), Iv 0 1000 v2_79 → CB t79 → FR [14, 1] s44 t79 → va_P D vwCl (CWS k a t79 sl) H9 → va_D A (CWS k a t79 sl) → va_S A s.heap H9 locs9 → lv_has ls 3 [(2, .int v2_79), (1, .int r17), (0, .ref (a 1))] → (1000 : Int) - v2_79.toInt < (n9_79 : Int) → W p l e (rmw 7 0 0) s m ([.ref (a 1)] : List Value).toArray below meth c H9 locs9 0 0 Q (F0 m 79 ls []) := by
          clear hl hP hD hS
          intro n9_79
          induction n9_79 with
          | zero =>
            intro v2_79 t79 H9 locs9 ls iv2_79 hBt79 gt79 hP hD hS hl hm79
            exact (fu_0 iv2_79 hm79).elim
          | succ n9_79 ih79 =>
            intro v2_79 t79 H9 locs9 ls iv2_79 hBt79 gt79 hP hD hS hl hm79
            have hFt79 : FR [1, 15, 4, 14] st t79 := fr_ca hFs44 gt79 (sub_1 (List.mem_of_getElem? (i := 3) rfl) (sub_1 (List.mem_of_getElem? (i := 0) rfl) sub_0))
            refine lv_iload_n hx hb dX2_readCart_79 rfl (lv_at hl 0 rfl) ?_
            refine lv_sipush (v := 1000) hx hb dX2_readCart_80 (by decide) ?_
            refine lv_icmp_ge (tgt := 112) hx hb dX2_readCart_83 (by decide) (fun c410 => ?_) (fun c410 => ?_)
            · skip
              have n411 : (1000 : Int32).toInt ≤ v2_79.toInt := (i_le c410)
              have h412 : Iv 1000 1000 v2_79 := le_r (iv_c (by decide) : Iv 1000 1000 1000) n411 iv2_79 (by decide)
              rw [hQ]
              exact W.vret hx hb hr (fun t ht hW => ⟨⟨t79, rfl, ⟨hBt79, hFt79, (Eq.trans (congrFun (gt79 4 (nm_1 (by decide) (nm_1 (by decide) nm_0))) 0) (Eq.trans qs44_0 (Eq.trans (congrFun (gs20 4 (nm_1 (by decide) nm_0)) 0) (Eq.trans (congrFun (gs16 4 (nm_1 (by decide) nm_0)) 0) (Eq.trans (congrFun (gs10 4 (nm_1 (by decide) nm_0)) 0) (congrFun (gs6 4 (nm_1 (by decide) nm_0)) 0)))))), (Eq.trans (congrFun (gt79 4 (nm_1 (by decide) (nm_1 (by decide) nm_0))) 1) (Eq.trans qs44_1 (Eq.trans (congrFun (gs20 4 (nm_1 (by decide) nm_0)) 1) (Eq.trans (congrFun (gs16 4 (nm_1 (by decide) nm_0)) 1) (Eq.trans (congrFun (gs10 4 (nm_1 (by decide) nm_0)) 1) (congrFun (gs6 4 (nm_1 (by decide) nm_0)) 1)))))), (Eq.trans (congrFun (gt79 4 (nm_1 (by decide) (nm_1 (by decide) nm_0))) 2) (Eq.trans qs44_2 (Eq.trans (congrFun (gs20 4 (nm_1 (by decide) nm_0)) 2) (Eq.trans (congrFun (gs16 4 (nm_1 (by decide) nm_0)) 2) (Eq.trans (congrFun (gs10 4 (nm_1 (by decide) nm_0)) 2) (congrFun (gs6 4 (nm_1 (by decide) nm_0)) 2)))))), (Eq.trans (congrFun (gt79 4 (nm_1 (by decide) (nm_1 (by decide) nm_0))) 3) (Eq.trans qs44_3 (Eq.trans (congrFun (gs20 4 (nm_1 (by decide) nm_0)) 3) (Eq.trans (congrFun (gs16 4 (nm_1 (by decide) nm_0)) 3) (Eq.trans (congrFun (gs10 4 (nm_1 (by decide) nm_0)) 3) (congrFun (gs6 4 (nm_1 (by decide) nm_0)) 3)))))), (Eq.trans (congrFun (gt79 4 (nm_1 (by decide) (nm_1 (by decide) nm_0))) 4) (Eq.trans qs44_4 (Eq.trans (congrFun (gs20 4 (nm_1 (by decide) nm_0)) 4) (Eq.trans (congrFun (gs16 4 (nm_1 (by decide) nm_0)) 4) (Eq.trans (congrFun (gs10 4 (nm_1 (by decide) nm_0)) 4) (congrFun (gs6 4 (nm_1 (by decide) nm_0)) 4)))))), (Eq.trans (congrFun (gt79 4 (nm_1 (by decide) (nm_1 (by decide) nm_0))) 6) (Eq.trans qs44_5 (Eq.trans (congrFun (gs20 4 (nm_1 (by decide) nm_0)) 6) (Eq.trans (congrFun (gs16 4 (nm_1 (by decide) nm_0)) 6) (Eq.trans (congrFun (gs10 4 (nm_1 (by decide) nm_0)) 6) (congrFun (gs6 4 (nm_1 (by decide) nm_0)) 6)))))), trivial⟩, by rw [ht]; exact hP, va_K.moved hW.alike (hK.sub (tys' := []) [] rfl), by rw [hAe]; exact hD⟩, by rw [hAe]; exact hS.F ht⟩) hS.2.2 dX2_readCart_112
            · skip
              have n413 : v2_79.toInt < (1000 : Int32).toInt := (i_nle c410)
              have h414 : Iv 0 999 v2_79 := lt_l iv2_79 n413 (iv_c (by decide) : Iv 1000 1000 1000) (by decide)
              refine lv_aload_n hx hb dX2_readCart_86 rfl (lv_at hl 2 rfl) ?_
              refine va_get (D := D) (ci := 2) (v := .int (t79 1 2)) (C := RX2) (T := TX2) (N := 8) hx hb hT in_X2 hown hK hP 1 cw_1 rfl 2 (by decide) (hT _ t276) (fun _ h9 => h9) rfl dX2_readCart_87 ?_
              refine lv_if_ne (tgt := 112) hx hb dX2_readCart_90 (by decide) (fun c415 => ?_) (fun c415 => ?_)
              · skip
                rw [hQ]
                exact W.vret hx hb hr (fun t ht hW => ⟨⟨t79, rfl, ⟨hBt79, hFt79, (Eq.trans (congrFun (gt79 4 (nm_1 (by decide) (nm_1 (by decide) nm_0))) 0) (Eq.trans qs44_0 (Eq.trans (congrFun (gs20 4 (nm_1 (by decide) nm_0)) 0) (Eq.trans (congrFun (gs16 4 (nm_1 (by decide) nm_0)) 0) (Eq.trans (congrFun (gs10 4 (nm_1 (by decide) nm_0)) 0) (congrFun (gs6 4 (nm_1 (by decide) nm_0)) 0)))))), (Eq.trans (congrFun (gt79 4 (nm_1 (by decide) (nm_1 (by decide) nm_0))) 1) (Eq.trans qs44_1 (Eq.trans (congrFun (gs20 4 (nm_1 (by decide) nm_0)) 1) (Eq.trans (congrFun (gs16 4 (nm_1 (by decide) nm_0)) 1) (Eq.trans (congrFun (gs10 4 (nm_1 (by decide) nm_0)) 1) (congrFun (gs6 4 (nm_1 (by decide) nm_0)) 1)))))), (Eq.trans (congrFun (gt79 4 (nm_1 (by decide) (nm_1 (by decide) nm_0))) 2) (Eq.trans qs44_2 (Eq.trans (congrFun (gs20 4 (nm_1 (by decide) nm_0)) 2) (Eq.trans (congrFun (gs16 4 (nm_1 (by decide) nm_0)) 2) (Eq.trans (congrFun (gs10 4 (nm_1 (by decide) nm_0)) 2) (congrFun (gs6 4 (nm_1 (by decide) nm_0)) 2)))))), (Eq.trans (congrFun (gt79 4 (nm_1 (by decide) (nm_1 (by decide) nm_0))) 3) (Eq.trans qs44_3 (Eq.trans (congrFun (gs20 4 (nm_1 (by decide) nm_0)) 3) (Eq.trans (congrFun (gs16 4 (nm_1 (by decide) nm_0)) 3) (Eq.trans (congrFun (gs10 4 (nm_1 (by decide) nm_0)) 3) (congrFun (gs6 4 (nm_1 (by decide) nm_0)) 3)))))), (Eq.trans (congrFun (gt79 4 (nm_1 (by decide) (nm_1 (by decide) nm_0))) 4) (Eq.trans qs44_4 (Eq.trans (congrFun (gs20 4 (nm_1 (by decide) nm_0)) 4) (Eq.trans (congrFun (gs16 4 (nm_1 (by decide) nm_0)) 4) (Eq.trans (congrFun (gs10 4 (nm_1 (by decide) nm_0)) 4) (congrFun (gs6 4 (nm_1 (by decide) nm_0)) 4)))))), (Eq.trans (congrFun (gt79 4 (nm_1 (by decide) (nm_1 (by decide) nm_0))) 6) (Eq.trans qs44_5 (Eq.trans (congrFun (gs20 4 (nm_1 (by decide) nm_0)) 6) (Eq.trans (congrFun (gs16 4 (nm_1 (by decide) nm_0)) 6) (Eq.trans (congrFun (gs10 4 (nm_1 (by decide) nm_0)) 6) (congrFun (gs6 4 (nm_1 (by decide) nm_0)) 6)))))), trivial⟩, by rw [ht]; exact hP, va_K.moved hW.alike (hK.sub (tys' := []) [] rfl), by rw [hAe]; exact hD⟩, by rw [hAe]; exact hS.F ht⟩) hS.2.2 dX2_readCart_112
              · skip
                have h416 : Iv 0 0 (t79 1 2) := eq_l c415 (iv_c (by decide) : Iv 0 0 0)
                have k417 : (t79 1 2) = 0 := c415
                refine lv_aload_n hx hb dX2_readCart_93 rfl (lv_at hl 2 rfl) ?_
                refine va_get (D := D) (ci := 2) (v := .int (t79 1 4)) (C := RX2) (T := TX2) (N := 8) hx hb hT in_X2 hown hK hP 1 cw_1 rfl 4 (by decide) (hT _ t280) (fun _ h9 => h9) rfl dX2_readCart_94 ?_
                refine lv_iconst (v := 2) hx hb dX2_readCart_97 (by decide) ?_
                refine lv_icmp_ne (tgt := 112) hx hb dX2_readCart_98 (by decide) (fun c418 => ?_) (fun c418 => ?_)
                · skip
                  rw [hQ]
                  exact W.vret hx hb hr (fun t ht hW => ⟨⟨t79, rfl, ⟨hBt79, hFt79, (Eq.trans (congrFun (gt79 4 (nm_1 (by decide) (nm_1 (by decide) nm_0))) 0) (Eq.trans qs44_0 (Eq.trans (congrFun (gs20 4 (nm_1 (by decide) nm_0)) 0) (Eq.trans (congrFun (gs16 4 (nm_1 (by decide) nm_0)) 0) (Eq.trans (congrFun (gs10 4 (nm_1 (by decide) nm_0)) 0) (congrFun (gs6 4 (nm_1 (by decide) nm_0)) 0)))))), (Eq.trans (congrFun (gt79 4 (nm_1 (by decide) (nm_1 (by decide) nm_0))) 1) (Eq.trans qs44_1 (Eq.trans (congrFun (gs20 4 (nm_1 (by decide) nm_0)) 1) (Eq.trans (congrFun (gs16 4 (nm_1 (by decide) nm_0)) 1) (Eq.trans (congrFun (gs10 4 (nm_1 (by decide) nm_0)) 1) (congrFun (gs6 4 (nm_1 (by decide) nm_0)) 1)))))), (Eq.trans (congrFun (gt79 4 (nm_1 (by decide) (nm_1 (by decide) nm_0))) 2) (Eq.trans qs44_2 (Eq.trans (congrFun (gs20 4 (nm_1 (by decide) nm_0)) 2) (Eq.trans (congrFun (gs16 4 (nm_1 (by decide) nm_0)) 2) (Eq.trans (congrFun (gs10 4 (nm_1 (by decide) nm_0)) 2) (congrFun (gs6 4 (nm_1 (by decide) nm_0)) 2)))))), (Eq.trans (congrFun (gt79 4 (nm_1 (by decide) (nm_1 (by decide) nm_0))) 3) (Eq.trans qs44_3 (Eq.trans (congrFun (gs20 4 (nm_1 (by decide) nm_0)) 3) (Eq.trans (congrFun (gs16 4 (nm_1 (by decide) nm_0)) 3) (Eq.trans (congrFun (gs10 4 (nm_1 (by decide) nm_0)) 3) (congrFun (gs6 4 (nm_1 (by decide) nm_0)) 3)))))), (Eq.trans (congrFun (gt79 4 (nm_1 (by decide) (nm_1 (by decide) nm_0))) 4) (Eq.trans qs44_4 (Eq.trans (congrFun (gs20 4 (nm_1 (by decide) nm_0)) 4) (Eq.trans (congrFun (gs16 4 (nm_1 (by decide) nm_0)) 4) (Eq.trans (congrFun (gs10 4 (nm_1 (by decide) nm_0)) 4) (congrFun (gs6 4 (nm_1 (by decide) nm_0)) 4)))))), (Eq.trans (congrFun (gt79 4 (nm_1 (by decide) (nm_1 (by decide) nm_0))) 6) (Eq.trans qs44_5 (Eq.trans (congrFun (gs20 4 (nm_1 (by decide) nm_0)) 6) (Eq.trans (congrFun (gs16 4 (nm_1 (by decide) nm_0)) 6) (Eq.trans (congrFun (gs10 4 (nm_1 (by decide) nm_0)) 6) (congrFun (gs6 4 (nm_1 (by decide) nm_0)) 6)))))), trivial⟩, by rw [ht]; exact hP, va_K.moved hW.alike (hK.sub (tys' := []) [] rfl), by rw [hAe]; exact hD⟩, by rw [hAe]; exact hS.F ht⟩) hS.2.2 dX2_readCart_112
                · skip
                  have h419 : Iv 2 2 (t79 1 4) := eq_l c418 (iv_c (by decide) : Iv 2 2 2)
                  refine lv_aload_n hx hb dX2_readCart_101 rfl (lv_at hl 2 rfl) ?_
                  refine lv_iload_n hx hb dX2_readCart_102 rfl (lv_at hl 0 rfl) ?_
                  refine ca_v hP hD hS hA (fun hDc => run_V (mc := 0) (ms := 0) (As := [.int v2_79]) (rest := []) S (s_X2_readSeat l D k a t79 sl  v2_79 _  hBt79  ) lkX2_143 ok_X2_readSeat ⟨rfl, rfl, Nat.le_of_ble_eq_true rfl, Nat.le_of_ble_eq_true rfl⟩ (pw_V (ci := 2) (q0 := 1) hK hN rfl cw_1 hP hDc) rfl hl.1 rfl (Nat.le_of_ble_eq_true rfl) ⟨Nat.zero_le _, Nat.zero_le _⟩ dX2_readCart_103) (fun s420 H9 locs9 hs420 hP9 hD9 hS9 => ?_)
                  clear hP hD hS
                  have hS := hS9
                  have hP := hP9
                  have hD := hD9
                  clear hP9 hD9 hS9
                  obtain ⟨hBs420, gs420, fs420⟩ := hs420
                  have hFs420 : FR [1, 15, 4, 14] st s420 := fr_ca hFt79 gs420 (sub_1 (List.mem_of_getElem? (i := 3) rfl) (sub_1 (List.mem_of_getElem? (i := 0) rfl) sub_0))
                  obtain ⟨z422, ez422⟩ : ∃ z9 : Int32, z9 = v2_79 + Int32.ofInt 1 := ⟨_, rfl⟩
                  have h423 : Iv 1 1000 z422 := iv_inc ez422 h414 (by decide) (by decide) (by decide) (by decide) (by decide) (by decide)
                  refine lv_iinc (v := z422) (lv' := [(2, .int z422), (1, .int r17), (0, .ref (a 1))]) hx hb dX2_readCart_106 hl (k := 0) rfl ez422.symm (by decide) rfl (fun ls hl => ?_)
                  refine lv_goto (tgt := 79) hx hb dX2_readCart_109 (by decide) ?_
                  exact ih79 z422 s420 _ _ _ (iv_mono (c := 0) (d := 1000) h423 (by decide) (by decide)) hBs420 (fr_ca gt79 gs420 (sub_1 (List.mem_of_getElem? (i := 0) rfl) (sub_1 (List.mem_of_getElem? (i := 1) rfl) sub_0))) hP hD hS (lv_sub hl [0, 1, 2] rfl) (fu_s (lo := 0) (ti_inc ez422 h414 (by decide) (by decide) (by decide) (by decide)) (by decide) hm79)
        exact lp79 1001 0 s44 _ _ _ (iv_mono (c := 0) (d := 1000) (iv_c (by decide) : Iv 0 0 0) (by decide) (by decide)) hBs44 fr_rf hP hD hS (lv_sub hl [0, 1, 2] rfl) (fu_i (iv_mono (c := 0) (d := 1000) (iv_c (by decide) : Iv 0 0 0) (by decide) (by decide)) (by decide))
    · skip
      refine lv_aload_n hx hb dX2_readCart_57 rfl (lv_at hl 1 rfl) ?_
      refine lv_iconst (v := 1) hx hb dX2_readCart_58 (by decide) ?_
      refine ca_v hP hD hS hA (fun hDc => run_V (mc := 0) (ms := 0) (As := [.int 1]) (rest := []) S (s_X2_fail l D k a s20 sl  1 _  hBs20 (iv_mono (c := 1) (d := 3) (iv_c (by decide) : Iv 1 1 1) (by decide) (by decide)) ) lkX2_77 ok_X2_fail ⟨rfl, rfl, Nat.le_of_ble_eq_true rfl, Nat.le_of_ble_eq_true rfl⟩ (pw_V (ci := 2) (q0 := 1) hK hN rfl cw_1 hP hDc) rfl hl.1 rfl (Nat.le_of_ble_eq_true rfl) ⟨Nat.zero_le _, Nat.zero_le _⟩ dX2_readCart_59) (fun s424 H9 locs9 hs424 hP9 hD9 hS9 => ?_)
      clear hP hD hS
      have hS := hS9
      have hP := hP9
      have hD := hD9
      clear hP9 hD9 hS9
      obtain ⟨hBs424, gs424, qs424_0, qs424_1, qs424_2, qs424_3, fs424⟩ := hs424
      have hFs424 : FR [1, 15, 4, 14] st s424 := fr_ca hFs20 gs424 (sub_1 (List.mem_of_getElem? (i := 0) rfl) sub_0)
      have k426 := fs424
      refine lv_aload_n hx hb dX2_readCart_62 rfl (lv_at hl 1 rfl) ?_
      refine va_get (D := D) (ci := 2) (v := .int (s424 1 2)) (C := RX2) (T := TX2) (N := 8) hx hb hT in_X2 hown hK hP 1 cw_1 rfl 2 (by decide) (hT _ t276) (fun _ h9 => h9) rfl dX2_readCart_63 ?_
      refine lv_if_ne (tgt := 77) hx hb dX2_readCart_66 (by decide) (fun c427 => ?_) (fun c427 => ?_)
      · skip
        refine lv_iconst (v := 0) hx hb dX2_readCart_77 (by decide) ?_
        refine lv_istore_n (lv' := [(2, .int 0), (1, .int r17), (0, .ref (a 1))]) hx hb dX2_readCart_78 rfl hl (by decide) rfl (fun ls hl => ?_)
        refine lv_iload_n hx hb dX2_readCart_79 rfl (lv_at hl 0 rfl) ?_
        refine lv_sipush (v := 1000) hx hb dX2_readCart_80 (by decide) ?_
        refine lv_icmp_ge (tgt := 112) hx hb dX2_readCart_83 (by decide) (fun c434 => ?_) (fun c434 => ?_)
        · first | exact absurd c434 (by decide) | exact absurd (by decide) c434
        refine lv_aload_n hx hb dX2_readCart_86 rfl (lv_at hl 2 rfl) ?_
        refine va_get (D := D) (ci := 2) (v := .int (s424 1 2)) (C := RX2) (T := TX2) (N := 8) hx hb hT in_X2 hown hK hP 1 cw_1 rfl 2 (by decide) (hT _ t276) (fun _ h9 => h9) rfl dX2_readCart_87 ?_
        refine lv_if_ne (tgt := 112) hx hb dX2_readCart_90 (by decide) (fun c435 => ?_) (fun c435 => ?_)
        · skip
          rw [hQ]
          exact W.vret hx hb hr (fun t ht hW => ⟨⟨s424, rfl, ⟨hBs424, hFs424, (Eq.trans (congrFun (gs424 4 (nm_1 (by decide) nm_0)) 0) (Eq.trans (congrFun (gs20 4 (nm_1 (by decide) nm_0)) 0) (Eq.trans (congrFun (gs16 4 (nm_1 (by decide) nm_0)) 0) (Eq.trans (congrFun (gs10 4 (nm_1 (by decide) nm_0)) 0) (congrFun (gs6 4 (nm_1 (by decide) nm_0)) 0))))), (Eq.trans (congrFun (gs424 4 (nm_1 (by decide) nm_0)) 1) (Eq.trans (congrFun (gs20 4 (nm_1 (by decide) nm_0)) 1) (Eq.trans (congrFun (gs16 4 (nm_1 (by decide) nm_0)) 1) (Eq.trans (congrFun (gs10 4 (nm_1 (by decide) nm_0)) 1) (congrFun (gs6 4 (nm_1 (by decide) nm_0)) 1))))), (Eq.trans (congrFun (gs424 4 (nm_1 (by decide) nm_0)) 2) (Eq.trans (congrFun (gs20 4 (nm_1 (by decide) nm_0)) 2) (Eq.trans (congrFun (gs16 4 (nm_1 (by decide) nm_0)) 2) (Eq.trans (congrFun (gs10 4 (nm_1 (by decide) nm_0)) 2) (congrFun (gs6 4 (nm_1 (by decide) nm_0)) 2))))), (Eq.trans (congrFun (gs424 4 (nm_1 (by decide) nm_0)) 3) (Eq.trans (congrFun (gs20 4 (nm_1 (by decide) nm_0)) 3) (Eq.trans (congrFun (gs16 4 (nm_1 (by decide) nm_0)) 3) (Eq.trans (congrFun (gs10 4 (nm_1 (by decide) nm_0)) 3) (congrFun (gs6 4 (nm_1 (by decide) nm_0)) 3))))), (Eq.trans (congrFun (gs424 4 (nm_1 (by decide) nm_0)) 4) (Eq.trans (congrFun (gs20 4 (nm_1 (by decide) nm_0)) 4) (Eq.trans (congrFun (gs16 4 (nm_1 (by decide) nm_0)) 4) (Eq.trans (congrFun (gs10 4 (nm_1 (by decide) nm_0)) 4) (congrFun (gs6 4 (nm_1 (by decide) nm_0)) 4))))), (Eq.trans (congrFun (gs424 4 (nm_1 (by decide) nm_0)) 6) (Eq.trans (congrFun (gs20 4 (nm_1 (by decide) nm_0)) 6) (Eq.trans (congrFun (gs16 4 (nm_1 (by decide) nm_0)) 6) (Eq.trans (congrFun (gs10 4 (nm_1 (by decide) nm_0)) 6) (congrFun (gs6 4 (nm_1 (by decide) nm_0)) 6))))), trivial⟩, by rw [ht]; exact hP, va_K.moved hW.alike (hK.sub (tys' := []) [] rfl), by rw [hAe]; exact hD⟩, by rw [hAe]; exact hS.F ht⟩) hS.2.2 dX2_readCart_112
        · skip
          have h436 : Iv 0 0 (s424 1 2) := eq_l c435 (iv_c (by decide) : Iv 0 0 0)
          have k437 : (s424 1 2) = 0 := c435
          exact absurd k437 c427
      · skip
        have h438 : Iv 0 0 (s424 1 2) := eq_l c427 (iv_c (by decide) : Iv 0 0 0)
        have k439 : (s424 1 2) = 0 := c427
        exact absurd k439 k426
  · skip
    have n440 : (3 : Int32).toInt ≤ (st 4 5).toInt := (i_nlt c2)
    have h441 : Iv 3 3 (st 4 5) := le_r (iv_c (by decide) : Iv 3 3 3) n440 h1 (by decide)
    refine lv_aload_n hx hb dX2_readCart_11 rfl (lv_at hl 0 rfl) ?_
    refine lv_iconst (v := 3) hx hb dX2_readCart_12 (by decide) ?_
    refine ca_v hP hD hS hA (fun hDc => run_V (mc := 0) (ms := 0) (As := [.int 3]) (rest := []) S (s_X2_fail l D k a st sl  3 _  hB (iv_mono (c := 1) (d := 3) (iv_c (by decide) : Iv 3 3 3) (by decide) (by decide)) ) lkX2_77 ok_X2_fail ⟨rfl, rfl, Nat.le_of_ble_eq_true rfl, Nat.le_of_ble_eq_true rfl⟩ (pw_V (ci := 2) (q0 := 1) hK hN rfl cw_1 hP hDc) rfl hl.1 rfl (Nat.le_of_ble_eq_true rfl) ⟨Nat.zero_le _, Nat.zero_le _⟩ dX2_readCart_13) (fun s442 H9 locs9 hs442 hP9 hD9 hS9 => ?_)
    clear hP hD hS
    have hS := hS9
    have hP := hP9
    have hD := hD9
    clear hP9 hD9 hS9
    obtain ⟨hBs442, gs442, qs442_0, qs442_1, qs442_2, qs442_3, fs442⟩ := hs442
    have hFs442 : FR [1, 15, 4, 14] st s442 := fr_ca fr_rf gs442 (sub_1 (List.mem_of_getElem? (i := 0) rfl) sub_0)
    have k444 := fs442
    refine lv_aload_n hx hb dX2_readCart_16 rfl (lv_at hl 0 rfl) ?_
    obtain ⟨w445, vw445, tw445⟩ := hX.2 _ (List.mem_of_getElem? (l := LIT) (i := 9) rfl)
    have vw445 : vk_R RX2 67 "cart" w445 s := vw445
    have tw445 : STA A w445 4 (fun j9 => ([99, 97, 114, 116] : List Int32).getD j9 0) s s.heap := tw445
    refine va_ldcS hx hb hown vw445 dX2_readCart_17 ?_
    refine ca_v hP hD hS hA (fun hDc => run_V (mc := 0) (ms := 0) (As := [.ref w445]) (rest := []) S (s_X2_passWord l D k a s442 sl   w445 4 (fun j9 => ([99, 97, 114, 116] : List Int32).getD j9 0) _  hBs442 (by decide) ) lkX2_83 ok_X2_passWord ⟨rfl, rfl, Nat.le_of_ble_eq_true rfl, Nat.le_of_ble_eq_true rfl⟩ (px_V (ci := 2) (q0 := 1) nice_NSW hK hN rfl cw_1 hP hDc (show NSW w445 4 (fun j9 => ([99, 97, 114, 116] : List Int32).getD j9 0) A s s.heap from ⟨hX, tw445⟩) hS (px_free hD hS hA)) rfl hl.1 rfl (Nat.le_of_ble_eq_true rfl) ⟨Nat.zero_le _, Nat.zero_le _⟩ dX2_readCart_19) (fun s446 H9 locs9 hs446 hP9 hD9 hS9 => ?_)
    clear hP hD hS
    have hS := hS9
    have hP := hP9
    have hD := hD9
    clear hP9 hD9 hS9
    obtain ⟨hBs446, gs446, fs446⟩ := hs446
    have hFs446 : FR [1, 15, 4, 14] st s446 := fr_ca hFs442 gs446 (sub_1 (List.mem_of_getElem? (i := 0) rfl) sub_0)
    have k448 := fs446
    refine lv_aload_n hx hb dX2_readCart_22 rfl (lv_at hl 0 rfl) ?_
    obtain ⟨w449, vw449, tw449⟩ := hX.2 _ (List.mem_of_getElem? (l := LIT) (i := 10) rfl)
    have vw449 : vk_R RX2 136 "at" w449 s := vw449
    have tw449 : STA A w449 2 (fun j9 => ([97, 116] : List Int32).getD j9 0) s s.heap := tw449
    refine va_ldcS hx hb hown vw449 dX2_readCart_23 ?_
    refine ca_v hP hD hS hA (fun hDc => run_V (mc := 0) (ms := 0) (As := [.ref w449]) (rest := []) S (s_X2_passWord l D k a s446 sl   w449 2 (fun j9 => ([97, 116] : List Int32).getD j9 0) _  hBs446 (by decide) ) lkX2_83 ok_X2_passWord ⟨rfl, rfl, Nat.le_of_ble_eq_true rfl, Nat.le_of_ble_eq_true rfl⟩ (px_V (ci := 2) (q0 := 1) nice_NSW hK hN rfl cw_1 hP hDc (show NSW w449 2 (fun j9 => ([97, 116] : List Int32).getD j9 0) A s s.heap from ⟨hX, tw449⟩) hS (px_free hD hS hA)) rfl hl.1 rfl (Nat.le_of_ble_eq_true rfl) ⟨Nat.zero_le _, Nat.zero_le _⟩ dX2_readCart_25) (fun s450 H9 locs9 hs450 hP9 hD9 hS9 => ?_)
    clear hP hD hS
    have hS := hS9
    have hP := hP9
    have hD := hD9
    clear hP9 hD9 hS9
    obtain ⟨hBs450, gs450, fs450⟩ := hs450
    have hFs450 : FR [1, 15, 4, 14] st s450 := fr_ca hFs446 gs450 (sub_1 (List.mem_of_getElem? (i := 0) rfl) sub_0)
    have k452 := fs450
    refine lv_aload_n hx hb dX2_readCart_28 rfl (lv_at hl 0 rfl) ?_
    refine lv_iconst (v := 0) hx hb dX2_readCart_29 (by decide) ?_
    refine lv_aload_n hx hb dX2_readCart_30 rfl (lv_at hl 0 rfl) ?_
    refine va_get (D := D) (ci := 2) (v := .ref (a 4)) (C := RX2) (T := TX2) (N := 8) hx hb hT in_X2 hown hK hP 1 cw_1 rfl 1 (by decide) (hT _ t274) (fun _ h9 => h9) rfl dX2_readCart_31 ?_
    refine va_get (D := D) (ci := 1) (v := .int (s450 4 1)) (C := RX1) (T := TX1) (N := 14) hx hb hT in_X1 hown hK hP 4 cw_4 rfl 1 (by decide) (hT _ t200) (fun _ h9 => h9) rfl dX2_readCart_34 ?_
    refine k_top (y := (st 4 1)) (Eq.trans (congrFun (gs450 4 (nm_1 (by decide) nm_0)) 1) (Eq.trans (congrFun (gs446 4 (nm_1 (by decide) nm_0)) 1) (congrFun (gs442 4 (nm_1 (by decide) nm_0)) 1))) ?_
    have h453 : Iv 0 6 (st 4 1) := (rb_4_1 hB)
    refine lv_iconst (v := 1) hx hb dX2_readCart_37 (by decide) ?_
    refine lv_isub hx hb dX2_readCart_38 ?_
    refine lv_topi (fun z454 ez454 => ?_)
    have h455 : Iv (-1) 5 z454 := iv_sub ez454 h453 (iv_c (by decide) : Iv 1 1 1) (by decide) (by decide) (by decide) (by decide)
    refine ca_i hP hD hS hA (fun hDc => run_V (mc := 0) (ms := 0) (As := [.int 0, .int z454]) (rest := []) S (s_X2_passNumber l D k a s450 sl  0 z454 _  hBs450  ) lkX2_89 ok_X2_passNumber ⟨rfl, rfl, Nat.le_of_ble_eq_true rfl, Nat.le_of_ble_eq_true rfl⟩ (pw_V (ci := 2) (q0 := 1) hK hN rfl cw_1 hP hDc) rfl hl.1 rfl (Nat.le_of_ble_eq_true rfl) ⟨Nat.zero_le _, Nat.zero_le _⟩ dX2_readCart_39) (fun r457 s456 H9 locs9 hs456 hP9 hD9 hS9 => ?_)
    clear hP hD hS
    have hS := hS9
    have hP := hP9
    have hD := hD9
    clear hP9 hD9 hS9
    obtain ⟨hBs456, gs456, fs456⟩ := hs456
    have hFs456 : FR [1, 15, 4, 14] st s456 := fr_ca hFs450 gs456 (sub_1 (List.mem_of_getElem? (i := 0) rfl) sub_0)
    have k458 := fs456
    refine lv_istore_n (lv' := [(1, .int r457), (0, .ref (a 1))]) hx hb dX2_readCart_42 rfl hl (by decide) rfl (fun ls hl => ?_)
    refine lv_aload_n hx hb dX2_readCart_43 rfl (lv_at hl 1 rfl) ?_
    obtain ⟨w459, vw459, tw459⟩ := hX.2 _ (List.mem_of_getElem? (l := LIT) (i := 11) rfl)
    have vw459 : vk_R RX2 138 "wheels" w459 s := vw459
    have tw459 : STA A w459 6 (fun j9 => ([119, 104, 101, 101, 108, 115] : List Int32).getD j9 0) s s.heap := tw459
    refine va_ldcS hx hb hown vw459 dX2_readCart_44 ?_
    refine ca_v hP hD hS hA (fun hDc => run_V (mc := 0) (ms := 0) (As := [.ref w459]) (rest := []) S (s_X2_passWord l D k a s456 sl   w459 6 (fun j9 => ([119, 104, 101, 101, 108, 115] : List Int32).getD j9 0) _  hBs456 (by decide) ) lkX2_83 ok_X2_passWord ⟨rfl, rfl, Nat.le_of_ble_eq_true rfl, Nat.le_of_ble_eq_true rfl⟩ (px_V (ci := 2) (q0 := 1) nice_NSW hK hN rfl cw_1 hP hDc (show NSW w459 6 (fun j9 => ([119, 104, 101, 101, 108, 115] : List Int32).getD j9 0) A s s.heap from ⟨hX, tw459⟩) hS (px_free hD hS hA)) rfl hl.1 rfl (Nat.le_of_ble_eq_true rfl) ⟨Nat.zero_le _, Nat.zero_le _⟩ dX2_readCart_46) (fun s460 H9 locs9 hs460 hP9 hD9 hS9 => ?_)
    clear hP hD hS
    have hS := hS9
    have hP := hP9
    have hD := hD9
    clear hP9 hD9 hS9
    obtain ⟨hBs460, gs460, fs460⟩ := hs460
    have hFs460 : FR [1, 15, 4, 14] st s460 := fr_ca hFs456 gs460 (sub_1 (List.mem_of_getElem? (i := 0) rfl) sub_0)
    have k462 := fs460
    refine lv_aload_n hx hb dX2_readCart_49 rfl (lv_at hl 1 rfl) ?_
    refine va_get (D := D) (ci := 2) (v := .int (s460 1 4)) (C := RX2) (T := TX2) (N := 8) hx hb hT in_X2 hown hK hP 1 cw_1 rfl 4 (by decide) (hT _ t280) (fun _ h9 => h9) rfl dX2_readCart_50 ?_
    refine lv_iconst (v := 2) hx hb dX2_readCart_53 (by decide) ?_
    refine lv_icmp_eq (tgt := 62) hx hb dX2_readCart_54 (by decide) (fun c463 => ?_) (fun c463 => ?_)
    · skip
      have h464 : Iv 2 2 (s460 1 4) := eq_l c463 (iv_c (by decide) : Iv 2 2 2)
      refine lv_aload_n hx hb dX2_readCart_62 rfl (lv_at hl 1 rfl) ?_
      refine va_get (D := D) (ci := 2) (v := .int (s460 1 2)) (C := RX2) (T := TX2) (N := 8) hx hb hT in_X2 hown hK hP 1 cw_1 rfl 2 (by decide) (hT _ t276) (fun _ h9 => h9) rfl dX2_readCart_63 ?_
      refine lv_if_ne (tgt := 77) hx hb dX2_readCart_66 (by decide) (fun c465 => ?_) (fun c465 => ?_)
      · skip
        refine lv_iconst (v := 0) hx hb dX2_readCart_77 (by decide) ?_
        refine lv_istore_n (lv' := [(2, .int 0), (1, .int r457), (0, .ref (a 1))]) hx hb dX2_readCart_78 rfl hl (by decide) rfl (fun ls hl => ?_)
        refine lv_iload_n hx hb dX2_readCart_79 rfl (lv_at hl 0 rfl) ?_
        refine lv_sipush (v := 1000) hx hb dX2_readCart_80 (by decide) ?_
        refine lv_icmp_ge (tgt := 112) hx hb dX2_readCart_83 (by decide) (fun c472 => ?_) (fun c472 => ?_)
        · first | exact absurd c472 (by decide) | exact absurd (by decide) c472
        refine lv_aload_n hx hb dX2_readCart_86 rfl (lv_at hl 2 rfl) ?_
        refine va_get (D := D) (ci := 2) (v := .int (s460 1 2)) (C := RX2) (T := TX2) (N := 8) hx hb hT in_X2 hown hK hP 1 cw_1 rfl 2 (by decide) (hT _ t276) (fun _ h9 => h9) rfl dX2_readCart_87 ?_
        refine lv_if_ne (tgt := 112) hx hb dX2_readCart_90 (by decide) (fun c473 => ?_) (fun c473 => ?_)
        · skip
          rw [hQ]
          exact W.vret hx hb hr (fun t ht hW => ⟨⟨s460, rfl, ⟨hBs460, hFs460, (Eq.trans (congrFun (gs460 4 (nm_1 (by decide) nm_0)) 0) (Eq.trans (congrFun (gs456 4 (nm_1 (by decide) nm_0)) 0) (Eq.trans (congrFun (gs450 4 (nm_1 (by decide) nm_0)) 0) (Eq.trans (congrFun (gs446 4 (nm_1 (by decide) nm_0)) 0) (congrFun (gs442 4 (nm_1 (by decide) nm_0)) 0))))), (Eq.trans (congrFun (gs460 4 (nm_1 (by decide) nm_0)) 1) (Eq.trans (congrFun (gs456 4 (nm_1 (by decide) nm_0)) 1) (Eq.trans (congrFun (gs450 4 (nm_1 (by decide) nm_0)) 1) (Eq.trans (congrFun (gs446 4 (nm_1 (by decide) nm_0)) 1) (congrFun (gs442 4 (nm_1 (by decide) nm_0)) 1))))), (Eq.trans (congrFun (gs460 4 (nm_1 (by decide) nm_0)) 2) (Eq.trans (congrFun (gs456 4 (nm_1 (by decide) nm_0)) 2) (Eq.trans (congrFun (gs450 4 (nm_1 (by decide) nm_0)) 2) (Eq.trans (congrFun (gs446 4 (nm_1 (by decide) nm_0)) 2) (congrFun (gs442 4 (nm_1 (by decide) nm_0)) 2))))), (Eq.trans (congrFun (gs460 4 (nm_1 (by decide) nm_0)) 3) (Eq.trans (congrFun (gs456 4 (nm_1 (by decide) nm_0)) 3) (Eq.trans (congrFun (gs450 4 (nm_1 (by decide) nm_0)) 3) (Eq.trans (congrFun (gs446 4 (nm_1 (by decide) nm_0)) 3) (congrFun (gs442 4 (nm_1 (by decide) nm_0)) 3))))), (Eq.trans (congrFun (gs460 4 (nm_1 (by decide) nm_0)) 4) (Eq.trans (congrFun (gs456 4 (nm_1 (by decide) nm_0)) 4) (Eq.trans (congrFun (gs450 4 (nm_1 (by decide) nm_0)) 4) (Eq.trans (congrFun (gs446 4 (nm_1 (by decide) nm_0)) 4) (congrFun (gs442 4 (nm_1 (by decide) nm_0)) 4))))), (Eq.trans (congrFun (gs460 4 (nm_1 (by decide) nm_0)) 6) (Eq.trans (congrFun (gs456 4 (nm_1 (by decide) nm_0)) 6) (Eq.trans (congrFun (gs450 4 (nm_1 (by decide) nm_0)) 6) (Eq.trans (congrFun (gs446 4 (nm_1 (by decide) nm_0)) 6) (congrFun (gs442 4 (nm_1 (by decide) nm_0)) 6))))), trivial⟩, by rw [ht]; exact hP, va_K.moved hW.alike (hK.sub (tys' := []) [] rfl), by rw [hAe]; exact hD⟩, by rw [hAe]; exact hS.F ht⟩) hS.2.2 dX2_readCart_112
        · skip
          have h474 : Iv 0 0 (s460 1 2) := eq_l c473 (iv_c (by decide) : Iv 0 0 0)
          have k475 : (s460 1 2) = 0 := c473
          exact absurd k475 c465
      · skip
        have h476 : Iv 0 0 (s460 1 2) := eq_l c465 (iv_c (by decide) : Iv 0 0 0)
        have k477 : (s460 1 2) = 0 := c465
        have k478 : (s456 1 2) = 0 := k462 k477
        have k479 : (s450 1 2) = 0 := (fun z9 => (k458 z9).1) k478
        have k480 := (fun z9 => (⟨Int.le_trans ((iv_c (by decide) : Iv 0 0 0)).1 (k458 z9).2.1, Int.le_trans (k458 z9).2.2 (h455).2⟩ : Iv 0 5 r457)) k478
        have h481 : Iv 0 5 r457 := ⟨k480.1, k480.2⟩
        have k482 : (s446 1 2) = 0 := k452 k479
        have k483 : (s442 1 2) = 0 := k448 k482
        exact absurd k483 k444
    · skip
      refine lv_aload_n hx hb dX2_readCart_57 rfl (lv_at hl 1 rfl) ?_
      refine lv_iconst (v := 1) hx hb dX2_readCart_58 (by decide) ?_
      refine ca_v hP hD hS hA (fun hDc => run_V (mc := 0) (ms := 0) (As := [.int 1]) (rest := []) S (s_X2_fail l D k a s460 sl  1 _  hBs460 (iv_mono (c := 1) (d := 3) (iv_c (by decide) : Iv 1 1 1) (by decide) (by decide)) ) lkX2_77 ok_X2_fail ⟨rfl, rfl, Nat.le_of_ble_eq_true rfl, Nat.le_of_ble_eq_true rfl⟩ (pw_V (ci := 2) (q0 := 1) hK hN rfl cw_1 hP hDc) rfl hl.1 rfl (Nat.le_of_ble_eq_true rfl) ⟨Nat.zero_le _, Nat.zero_le _⟩ dX2_readCart_59) (fun s484 H9 locs9 hs484 hP9 hD9 hS9 => ?_)
      clear hP hD hS
      have hS := hS9
      have hP := hP9
      have hD := hD9
      clear hP9 hD9 hS9
      obtain ⟨hBs484, gs484, qs484_0, qs484_1, qs484_2, qs484_3, fs484⟩ := hs484
      have hFs484 : FR [1, 15, 4, 14] st s484 := fr_ca hFs460 gs484 (sub_1 (List.mem_of_getElem? (i := 0) rfl) sub_0)
      have k486 := fs484
      refine lv_aload_n hx hb dX2_readCart_62 rfl (lv_at hl 1 rfl) ?_
      refine va_get (D := D) (ci := 2) (v := .int (s484 1 2)) (C := RX2) (T := TX2) (N := 8) hx hb hT in_X2 hown hK hP 1 cw_1 rfl 2 (by decide) (hT _ t276) (fun _ h9 => h9) rfl dX2_readCart_63 ?_
      refine lv_if_ne (tgt := 77) hx hb dX2_readCart_66 (by decide) (fun c487 => ?_) (fun c487 => ?_)
      · skip
        refine lv_iconst (v := 0) hx hb dX2_readCart_77 (by decide) ?_
        refine lv_istore_n (lv' := [(2, .int 0), (1, .int r457), (0, .ref (a 1))]) hx hb dX2_readCart_78 rfl hl (by decide) rfl (fun ls hl => ?_)
        refine lv_iload_n hx hb dX2_readCart_79 rfl (lv_at hl 0 rfl) ?_
        refine lv_sipush (v := 1000) hx hb dX2_readCart_80 (by decide) ?_
        refine lv_icmp_ge (tgt := 112) hx hb dX2_readCart_83 (by decide) (fun c494 => ?_) (fun c494 => ?_)
        · first | exact absurd c494 (by decide) | exact absurd (by decide) c494
        refine lv_aload_n hx hb dX2_readCart_86 rfl (lv_at hl 2 rfl) ?_
        refine va_get (D := D) (ci := 2) (v := .int (s484 1 2)) (C := RX2) (T := TX2) (N := 8) hx hb hT in_X2 hown hK hP 1 cw_1 rfl 2 (by decide) (hT _ t276) (fun _ h9 => h9) rfl dX2_readCart_87 ?_
        refine lv_if_ne (tgt := 112) hx hb dX2_readCart_90 (by decide) (fun c495 => ?_) (fun c495 => ?_)
        · skip
          rw [hQ]
          exact W.vret hx hb hr (fun t ht hW => ⟨⟨s484, rfl, ⟨hBs484, hFs484, (Eq.trans (congrFun (gs484 4 (nm_1 (by decide) nm_0)) 0) (Eq.trans (congrFun (gs460 4 (nm_1 (by decide) nm_0)) 0) (Eq.trans (congrFun (gs456 4 (nm_1 (by decide) nm_0)) 0) (Eq.trans (congrFun (gs450 4 (nm_1 (by decide) nm_0)) 0) (Eq.trans (congrFun (gs446 4 (nm_1 (by decide) nm_0)) 0) (congrFun (gs442 4 (nm_1 (by decide) nm_0)) 0)))))), (Eq.trans (congrFun (gs484 4 (nm_1 (by decide) nm_0)) 1) (Eq.trans (congrFun (gs460 4 (nm_1 (by decide) nm_0)) 1) (Eq.trans (congrFun (gs456 4 (nm_1 (by decide) nm_0)) 1) (Eq.trans (congrFun (gs450 4 (nm_1 (by decide) nm_0)) 1) (Eq.trans (congrFun (gs446 4 (nm_1 (by decide) nm_0)) 1) (congrFun (gs442 4 (nm_1 (by decide) nm_0)) 1)))))), (Eq.trans (congrFun (gs484 4 (nm_1 (by decide) nm_0)) 2) (Eq.trans (congrFun (gs460 4 (nm_1 (by decide) nm_0)) 2) (Eq.trans (congrFun (gs456 4 (nm_1 (by decide) nm_0)) 2) (Eq.trans (congrFun (gs450 4 (nm_1 (by decide) nm_0)) 2) (Eq.trans (congrFun (gs446 4 (nm_1 (by decide) nm_0)) 2) (congrFun (gs442 4 (nm_1 (by decide) nm_0)) 2)))))), (Eq.trans (congrFun (gs484 4 (nm_1 (by decide) nm_0)) 3) (Eq.trans (congrFun (gs460 4 (nm_1 (by decide) nm_0)) 3) (Eq.trans (congrFun (gs456 4 (nm_1 (by decide) nm_0)) 3) (Eq.trans (congrFun (gs450 4 (nm_1 (by decide) nm_0)) 3) (Eq.trans (congrFun (gs446 4 (nm_1 (by decide) nm_0)) 3) (congrFun (gs442 4 (nm_1 (by decide) nm_0)) 3)))))), (Eq.trans (congrFun (gs484 4 (nm_1 (by decide) nm_0)) 4) (Eq.trans (congrFun (gs460 4 (nm_1 (by decide) nm_0)) 4) (Eq.trans (congrFun (gs456 4 (nm_1 (by decide) nm_0)) 4) (Eq.trans (congrFun (gs450 4 (nm_1 (by decide) nm_0)) 4) (Eq.trans (congrFun (gs446 4 (nm_1 (by decide) nm_0)) 4) (congrFun (gs442 4 (nm_1 (by decide) nm_0)) 4)))))), (Eq.trans (congrFun (gs484 4 (nm_1 (by decide) nm_0)) 6) (Eq.trans (congrFun (gs460 4 (nm_1 (by decide) nm_0)) 6) (Eq.trans (congrFun (gs456 4 (nm_1 (by decide) nm_0)) 6) (Eq.trans (congrFun (gs450 4 (nm_1 (by decide) nm_0)) 6) (Eq.trans (congrFun (gs446 4 (nm_1 (by decide) nm_0)) 6) (congrFun (gs442 4 (nm_1 (by decide) nm_0)) 6)))))), trivial⟩, by rw [ht]; exact hP, va_K.moved hW.alike (hK.sub (tys' := []) [] rfl), by rw [hAe]; exact hD⟩, by rw [hAe]; exact hS.F ht⟩) hS.2.2 dX2_readCart_112
        · skip
          have h496 : Iv 0 0 (s484 1 2) := eq_l c495 (iv_c (by decide) : Iv 0 0 0)
          have k497 : (s484 1 2) = 0 := c495
          exact absurd k497 c487
      · skip
        have h498 : Iv 0 0 (s484 1 2) := eq_l c487 (iv_c (by decide) : Iv 0 0 0)
        have k499 : (s484 1 2) = 0 := c487
        exact absurd k499 k486
set_option maxHeartbeats 4000000 in
set_option maxRecDepth 100000 in
theorem s_X2_readErrand (l : Launch) (D : va_G) (k : Nat → ClassId) (a : Nat → Nat) (st : CT) (sl : CL) (sz : Nat) (hB : CB st)  : Met l yX2_readErrand (.code yX2_readErrand cX2_readErrand 4 none :: TB) (rmw 7 0 0) (va_Pc [.ref (a 1)] (PX D k sz (CWS k a st sl) NS)) (QV D (S := CT) (fun u => CB u ∧ FR [1, 8, 9, 10, 4] st u ∧ u 4 0 = st 4 0 ∧ u 4 1 = st 4 1 ∧ u 4 2 = st 4 2 ∧ u 4 3 = st 4 3 ∧ u 4 4 = st 4 4 ∧ u 4 5 = st 4 5 ∧ (True)) (fun u => CWS k a u sl) (fun _ => []) (CWS k a st sl) sz) 0 0 (va_A (CWS k a st sl) sz) := by
  refine Met.ofW (cc := cX2_readErrand) (maxL := 4) (ret := none) (by decide) rfl ?_
  intro p e s m args below meth c s₁ B hml hv
  obtain ⟨rfl, hsz, hP, hK, hD0, hN, hX⟩ := hv
  have hx := B.exec
  have hb := B.bytes
  have hr := B.returns
  have hT : ∀ w9 ∈ TB, w9.before ([.ref (a 1)] : List Value).toArray s = true := fun w9 h => atoms_spec (ws := .code yX2_readErrand cX2_readErrand 4 none :: TB) B.pre w9 (List.mem_cons_of_mem _ h)
  have hown : s.vm.findClass RX2 = some m.cls := findClass_of_methodNamed B.named
  have S : CallFix p m c cX2_readErrand 4 s _ TB RX2 := ⟨hx, hb, hml, hown, hT⟩
  subst hsz
  have hD := hD0.self (sz := s.heap.size)
  generalize hAe : va_A (CWS k a st sl) s.heap.size = A at hD hX ⊢
  have hA : ∀ q : Nat, s.heap.size ≤ q → A q := fun q h => by rw [← hAe]; exact Or.inr h
  have hS : va_S A s.heap s.heap [] := va_S.rf
  have hl := lv_entry ([.ref (a 1)]) (n := 4) (Nat.le_of_ble_eq_true rfl)
  rw [lg_entry_eq]
  generalize (lg_sl ([.ref (a 1)]) ++ List.replicate (4 - (lg_sl ([.ref (a 1)])).length) Slot.unset).toArray = ls at hl ⊢
  have hl : lv_has ls 4 [(0, .ref (a 1))] := hl
  refine nameQ (fun Q hQ => ?_)
  refine lv_aload_n hx hb dX2_readErrand_0 rfl (lv_at hl 0 rfl) ?_
  refine va_get (D := D) (ci := 2) (v := .ref (a 4)) (C := RX2) (T := TX2) (N := 8) hx hb hT in_X2 hown hK hP 1 cw_1 rfl 1 (by decide) (hT _ t274) (fun _ h9 => h9) rfl dX2_readErrand_1 ?_
  refine va_get (D := D) (ci := 1) (v := .int (st 4 6)) (C := RX1) (T := TX1) (N := 14) hx hb hT in_X1 hown hK hP 4 cw_4 rfl 6 (by decide) (hT _ t220) (fun _ h9 => h9) rfl dX2_readErrand_4 ?_
  have h1 : Iv 0 6 (st 4 6) := (rb_4_6 hB)
  refine lv_bipush (v := 6) hx hb dX2_readErrand_7 (by decide) ?_
  refine lv_icmp_lt (tgt := 17) hx hb dX2_readErrand_9 (by decide) (fun c2 => ?_) (fun c2 => ?_)
  · skip
    have n3 : (st 4 6).toInt < (6 : Int32).toInt := (i_lt c2)
    have h4 : Iv 0 5 (st 4 6) := lt_l h1 n3 (iv_c (by decide) : Iv 6 6 6) (by decide)
    refine lv_aload_n hx hb dX2_readErrand_17 rfl (lv_at hl 0 rfl) ?_
    obtain ⟨w5, vw5, tw5⟩ := hX.2 _ (List.mem_of_getElem? (l := LIT) (i := 12) rfl)
    have vw5 : vk_R RX2 72 "errand" w5 s := vw5
    have tw5 : STA A w5 6 (fun j9 => ([101, 114, 114, 97, 110, 100] : List Int32).getD j9 0) s s.heap := tw5
    refine va_ldcS hx hb hown vw5 dX2_readErrand_18 ?_
    refine ca_v hP hD hS hA (fun hDc => run_V (mc := 0) (ms := 0) (As := [.ref w5]) (rest := []) S (s_X2_passWord l D k a st sl   w5 6 (fun j9 => ([101, 114, 114, 97, 110, 100] : List Int32).getD j9 0) _  hB (by decide) ) lkX2_83 ok_X2_passWord ⟨rfl, rfl, Nat.le_of_ble_eq_true rfl, Nat.le_of_ble_eq_true rfl⟩ (px_V (ci := 2) (q0 := 1) nice_NSW hK hN rfl cw_1 hP hDc (show NSW w5 6 (fun j9 => ([101, 114, 114, 97, 110, 100] : List Int32).getD j9 0) A s s.heap from ⟨hX, tw5⟩) hS (px_free hD hS hA)) rfl hl.1 rfl (Nat.le_of_ble_eq_true rfl) ⟨Nat.zero_le _, Nat.zero_le _⟩ dX2_readErrand_20) (fun s6 H9 locs9 hs6 hP9 hD9 hS9 => ?_)
    clear hP hD hS
    have hS := hS9
    have hP := hP9
    have hD := hD9
    clear hP9 hD9 hS9
    obtain ⟨hBs6, gs6, fs6⟩ := hs6
    have hFs6 : FR [1, 8, 9, 10, 4] st s6 := fr_ca fr_rf gs6 (sub_1 (List.mem_of_getElem? (i := 0) rfl) sub_0)
    have k8 := fs6
    refine lv_aload_n hx hb dX2_readErrand_23 rfl (lv_at hl 0 rfl) ?_
    refine lv_iconst (v := 0) hx hb dX2_readErrand_24 (by decide) ?_
    refine lv_aload_n hx hb dX2_readErrand_25 rfl (lv_at hl 0 rfl) ?_
    refine va_get (D := D) (ci := 2) (v := .ref (a 4)) (C := RX2) (T := TX2) (N := 8) hx hb hT in_X2 hown hK hP 1 cw_1 rfl 1 (by decide) (hT _ t274) (fun _ h9 => h9) rfl dX2_readErrand_26 ?_
    refine va_get (D := D) (ci := 1) (v := .int (s6 4 5)) (C := RX1) (T := TX1) (N := 14) hx hb hT in_X1 hown hK hP 4 cw_4 rfl 5 (by decide) (hT _ t217) (fun _ h9 => h9) rfl dX2_readErrand_29 ?_
    refine k_top (y := (st 4 5)) (congrFun (gs6 4 (nm_1 (by decide) nm_0)) 5) ?_
    have h9 : Iv 0 3 (st 4 5) := (rb_4_5 hB)
    refine lv_iconst (v := 1) hx hb dX2_readErrand_32 (by decide) ?_
    refine lv_isub hx hb dX2_readErrand_33 ?_
    refine lv_topi (fun z10 ez10 => ?_)
    have h11 : Iv (-1) 2 z10 := iv_sub ez10 h9 (iv_c (by decide) : Iv 1 1 1) (by decide) (by decide) (by decide) (by decide)
    refine ca_i hP hD hS hA (fun hDc => run_V (mc := 0) (ms := 0) (As := [.int 0, .int z10]) (rest := []) S (s_X2_passNumber l D k a s6 sl  0 z10 _  hBs6  ) lkX2_89 ok_X2_passNumber ⟨rfl, rfl, Nat.le_of_ble_eq_true rfl, Nat.le_of_ble_eq_true rfl⟩ (pw_V (ci := 2) (q0 := 1) hK hN rfl cw_1 hP hDc) rfl hl.1 rfl (Nat.le_of_ble_eq_true rfl) ⟨Nat.zero_le _, Nat.zero_le _⟩ dX2_readErrand_34) (fun r13 s12 H9 locs9 hs12 hP9 hD9 hS9 => ?_)
    clear hP hD hS
    have hS := hS9
    have hP := hP9
    have hD := hD9
    clear hP9 hD9 hS9
    obtain ⟨hBs12, gs12, fs12⟩ := hs12
    have hFs12 : FR [1, 8, 9, 10, 4] st s12 := fr_ca hFs6 gs12 (sub_1 (List.mem_of_getElem? (i := 0) rfl) sub_0)
    have k14 := fs12
    refine lv_istore_n (lv' := [(1, .int r13), (0, .ref (a 1))]) hx hb dX2_readErrand_37 rfl hl (by decide) rfl (fun ls hl => ?_)
    refine lv_aload_n hx hb dX2_readErrand_38 rfl (lv_at hl 1 rfl) ?_
    obtain ⟨w15, vw15, tw15⟩ := hX.2 _ (List.mem_of_getElem? (l := LIT) (i := 4) rfl)
    have vw15 : vk_R RX2 103 "to" w15 s := vw15
    have tw15 : STA A w15 2 (fun j9 => ([116, 111] : List Int32).getD j9 0) s s.heap := tw15
    refine va_ldcS hx hb hown vw15 dX2_readErrand_39 ?_
    refine ca_v hP hD hS hA (fun hDc => run_V (mc := 0) (ms := 0) (As := [.ref w15]) (rest := []) S (s_X2_passWord l D k a s12 sl   w15 2 (fun j9 => ([116, 111] : List Int32).getD j9 0) _  hBs12 (by decide) ) lkX2_83 ok_X2_passWord ⟨rfl, rfl, Nat.le_of_ble_eq_true rfl, Nat.le_of_ble_eq_true rfl⟩ (px_V (ci := 2) (q0 := 1) nice_NSW hK hN rfl cw_1 hP hDc (show NSW w15 2 (fun j9 => ([116, 111] : List Int32).getD j9 0) A s s.heap from ⟨hX, tw15⟩) hS (px_free hD hS hA)) rfl hl.1 rfl (Nat.le_of_ble_eq_true rfl) ⟨Nat.zero_le _, Nat.zero_le _⟩ dX2_readErrand_41) (fun s16 H9 locs9 hs16 hP9 hD9 hS9 => ?_)
    clear hP hD hS
    have hS := hS9
    have hP := hP9
    have hD := hD9
    clear hP9 hD9 hS9
    obtain ⟨hBs16, gs16, fs16⟩ := hs16
    have hFs16 : FR [1, 8, 9, 10, 4] st s16 := fr_ca hFs12 gs16 (sub_1 (List.mem_of_getElem? (i := 0) rfl) sub_0)
    have k18 := fs16
    refine lv_aload_n hx hb dX2_readErrand_44 rfl (lv_at hl 1 rfl) ?_
    refine lv_iconst (v := 0) hx hb dX2_readErrand_45 (by decide) ?_
    refine lv_aload_n hx hb dX2_readErrand_46 rfl (lv_at hl 1 rfl) ?_
    refine va_get (D := D) (ci := 2) (v := .ref (a 4)) (C := RX2) (T := TX2) (N := 8) hx hb hT in_X2 hown hK hP 1 cw_1 rfl 1 (by decide) (hT _ t274) (fun _ h9 => h9) rfl dX2_readErrand_47 ?_
    refine va_get (D := D) (ci := 1) (v := .int (s16 4 1)) (C := RX1) (T := TX1) (N := 14) hx hb hT in_X1 hown hK hP 4 cw_4 rfl 1 (by decide) (hT _ t200) (fun _ h9 => h9) rfl dX2_readErrand_50 ?_
    refine k_top (y := (st 4 1)) (Eq.trans (congrFun (gs16 4 (nm_1 (by decide) nm_0)) 1) (Eq.trans (congrFun (gs12 4 (nm_1 (by decide) nm_0)) 1) (congrFun (gs6 4 (nm_1 (by decide) nm_0)) 1))) ?_
    have h19 : Iv 0 6 (st 4 1) := (rb_4_1 hB)
    refine lv_iconst (v := 1) hx hb dX2_readErrand_53 (by decide) ?_
    refine lv_isub hx hb dX2_readErrand_54 ?_
    refine lv_topi (fun z20 ez20 => ?_)
    have h21 : Iv (-1) 5 z20 := iv_sub ez20 h19 (iv_c (by decide) : Iv 1 1 1) (by decide) (by decide) (by decide) (by decide)
    refine ca_i hP hD hS hA (fun hDc => run_V (mc := 0) (ms := 0) (As := [.int 0, .int z20]) (rest := []) S (s_X2_passNumber l D k a s16 sl  0 z20 _  hBs16  ) lkX2_89 ok_X2_passNumber ⟨rfl, rfl, Nat.le_of_ble_eq_true rfl, Nat.le_of_ble_eq_true rfl⟩ (pw_V (ci := 2) (q0 := 1) hK hN rfl cw_1 hP hDc) rfl hl.1 rfl (Nat.le_of_ble_eq_true rfl) ⟨Nat.zero_le _, Nat.zero_le _⟩ dX2_readErrand_55) (fun r23 s22 H9 locs9 hs22 hP9 hD9 hS9 => ?_)
    clear hP hD hS
    have hS := hS9
    have hP := hP9
    have hD := hD9
    clear hP9 hD9 hS9
    obtain ⟨hBs22, gs22, fs22⟩ := hs22
    have hFs22 : FR [1, 8, 9, 10, 4] st s22 := fr_ca hFs16 gs22 (sub_1 (List.mem_of_getElem? (i := 0) rfl) sub_0)
    have k24 := fs22
    refine lv_istore_n (lv' := [(2, .int r23), (1, .int r13), (0, .ref (a 1))]) hx hb dX2_readErrand_58 rfl hl (by decide) rfl (fun ls hl => ?_)
    refine lv_aload_n hx hb dX2_readErrand_59 rfl (lv_at hl 2 rfl) ?_
    obtain ⟨w25, vw25, tw25⟩ := hX.2 _ (List.mem_of_getElem? (l := LIT) (i := 13) rfl)
    have vw25 : vk_R RX2 157 "by" w25 s := vw25
    have tw25 : STA A w25 2 (fun j9 => ([98, 121] : List Int32).getD j9 0) s s.heap := tw25
    refine va_ldcS hx hb hown vw25 dX2_readErrand_60 ?_
    refine ca_v hP hD hS hA (fun hDc => run_V (mc := 0) (ms := 0) (As := [.ref w25]) (rest := []) S (s_X2_passWord l D k a s22 sl   w25 2 (fun j9 => ([98, 121] : List Int32).getD j9 0) _  hBs22 (by decide) ) lkX2_83 ok_X2_passWord ⟨rfl, rfl, Nat.le_of_ble_eq_true rfl, Nat.le_of_ble_eq_true rfl⟩ (px_V (ci := 2) (q0 := 1) nice_NSW hK hN rfl cw_1 hP hDc (show NSW w25 2 (fun j9 => ([98, 121] : List Int32).getD j9 0) A s s.heap from ⟨hX, tw25⟩) hS (px_free hD hS hA)) rfl hl.1 rfl (Nat.le_of_ble_eq_true rfl) ⟨Nat.zero_le _, Nat.zero_le _⟩ dX2_readErrand_62) (fun s26 H9 locs9 hs26 hP9 hD9 hS9 => ?_)
    clear hP hD hS
    have hS := hS9
    have hP := hP9
    have hD := hD9
    clear hP9 hD9 hS9
    obtain ⟨hBs26, gs26, fs26⟩ := hs26
    have hFs26 : FR [1, 8, 9, 10, 4] st s26 := fr_ca hFs22 gs26 (sub_1 (List.mem_of_getElem? (i := 0) rfl) sub_0)
    have k28 := fs26
    refine lv_aload_n hx hb dX2_readErrand_65 rfl (lv_at hl 2 rfl) ?_
    refine lv_iconst (v := 1) hx hb dX2_readErrand_66 (by decide) ?_
    refine lv_sipush (v := 200) hx hb dX2_readErrand_67 (by decide) ?_
    refine ca_i hP hD hS hA (fun hDc => run_V (mc := 0) (ms := 0) (As := [.int 1, .int 200]) (rest := []) S (s_X2_passNumber l D k a s26 sl  1 200 _  hBs26  ) lkX2_89 ok_X2_passNumber ⟨rfl, rfl, Nat.le_of_ble_eq_true rfl, Nat.le_of_ble_eq_true rfl⟩ (pw_V (ci := 2) (q0 := 1) hK hN rfl cw_1 hP hDc) rfl hl.1 rfl (Nat.le_of_ble_eq_true rfl) ⟨Nat.zero_le _, Nat.zero_le _⟩ dX2_readErrand_70) (fun r30 s29 H9 locs9 hs29 hP9 hD9 hS9 => ?_)
    clear hP hD hS
    have hS := hS9
    have hP := hP9
    have hD := hD9
    clear hP9 hD9 hS9
    obtain ⟨hBs29, gs29, fs29⟩ := hs29
    have hFs29 : FR [1, 8, 9, 10, 4] st s29 := fr_ca hFs26 gs29 (sub_1 (List.mem_of_getElem? (i := 0) rfl) sub_0)
    have k31 := fs29
    refine lv_istore_n (lv' := [(3, .int r30), (2, .int r23), (1, .int r13), (0, .ref (a 1))]) hx hb dX2_readErrand_73 rfl hl (by decide) rfl (fun ls hl => ?_)
    refine lv_aload_n hx hb dX2_readErrand_74 rfl (lv_at hl 3 rfl) ?_
    refine va_get (D := D) (ci := 2) (v := .int (s29 1 2)) (C := RX2) (T := TX2) (N := 8) hx hb hT in_X2 hown hK hP 1 cw_1 rfl 2 (by decide) (hT _ t276) (fun _ h9 => h9) rfl dX2_readErrand_75 ?_
    refine lv_if_ne (tgt := 91) hx hb dX2_readErrand_78 (by decide) (fun c32 => ?_) (fun c32 => ?_)
    · skip
      rw [hQ]
      exact W.vret hx hb hr (fun t ht hW => ⟨⟨s29, rfl, ⟨hBs29, hFs29, (Eq.trans (congrFun (gs29 4 (nm_1 (by decide) nm_0)) 0) (Eq.trans (congrFun (gs26 4 (nm_1 (by decide) nm_0)) 0) (Eq.trans (congrFun (gs22 4 (nm_1 (by decide) nm_0)) 0) (Eq.trans (congrFun (gs16 4 (nm_1 (by decide) nm_0)) 0) (Eq.trans (congrFun (gs12 4 (nm_1 (by decide) nm_0)) 0) (congrFun (gs6 4 (nm_1 (by decide) nm_0)) 0)))))), (Eq.trans (congrFun (gs29 4 (nm_1 (by decide) nm_0)) 1) (Eq.trans (congrFun (gs26 4 (nm_1 (by decide) nm_0)) 1) (Eq.trans (congrFun (gs22 4 (nm_1 (by decide) nm_0)) 1) (Eq.trans (congrFun (gs16 4 (nm_1 (by decide) nm_0)) 1) (Eq.trans (congrFun (gs12 4 (nm_1 (by decide) nm_0)) 1) (congrFun (gs6 4 (nm_1 (by decide) nm_0)) 1)))))), (Eq.trans (congrFun (gs29 4 (nm_1 (by decide) nm_0)) 2) (Eq.trans (congrFun (gs26 4 (nm_1 (by decide) nm_0)) 2) (Eq.trans (congrFun (gs22 4 (nm_1 (by decide) nm_0)) 2) (Eq.trans (congrFun (gs16 4 (nm_1 (by decide) nm_0)) 2) (Eq.trans (congrFun (gs12 4 (nm_1 (by decide) nm_0)) 2) (congrFun (gs6 4 (nm_1 (by decide) nm_0)) 2)))))), (Eq.trans (congrFun (gs29 4 (nm_1 (by decide) nm_0)) 3) (Eq.trans (congrFun (gs26 4 (nm_1 (by decide) nm_0)) 3) (Eq.trans (congrFun (gs22 4 (nm_1 (by decide) nm_0)) 3) (Eq.trans (congrFun (gs16 4 (nm_1 (by decide) nm_0)) 3) (Eq.trans (congrFun (gs12 4 (nm_1 (by decide) nm_0)) 3) (congrFun (gs6 4 (nm_1 (by decide) nm_0)) 3)))))), (Eq.trans (congrFun (gs29 4 (nm_1 (by decide) nm_0)) 4) (Eq.trans (congrFun (gs26 4 (nm_1 (by decide) nm_0)) 4) (Eq.trans (congrFun (gs22 4 (nm_1 (by decide) nm_0)) 4) (Eq.trans (congrFun (gs16 4 (nm_1 (by decide) nm_0)) 4) (Eq.trans (congrFun (gs12 4 (nm_1 (by decide) nm_0)) 4) (congrFun (gs6 4 (nm_1 (by decide) nm_0)) 4)))))), (Eq.trans (congrFun (gs29 4 (nm_1 (by decide) nm_0)) 5) (Eq.trans (congrFun (gs26 4 (nm_1 (by decide) nm_0)) 5) (Eq.trans (congrFun (gs22 4 (nm_1 (by decide) nm_0)) 5) (Eq.trans (congrFun (gs16 4 (nm_1 (by decide) nm_0)) 5) (Eq.trans (congrFun (gs12 4 (nm_1 (by decide) nm_0)) 5) (congrFun (gs6 4 (nm_1 (by decide) nm_0)) 5)))))), trivial⟩, by rw [ht]; exact hP, va_K.moved hW.alike (hK.sub (tys' := []) [] rfl), by rw [hAe]; exact hD⟩, by rw [hAe]; exact hS.F ht⟩) hS.2.2 dX2_readErrand_91
    · skip
      have h33 : Iv 0 0 (s29 1 2) := eq_l c32 (iv_c (by decide) : Iv 0 0 0)
      have k34 : (s29 1 2) = 0 := c32
      have k35 : (s26 1 2) = 0 := (fun z9 => (k31 z9).1) k34
      have k36 := (fun z9 => (⟨Int.le_trans ((iv_c (by decide) : Iv 1 1 1)).1 (k31 z9).2.1, Int.le_trans (k31 z9).2.2 ((iv_c (by decide) : Iv 200 200 200)).2⟩ : Iv 1 200 r30)) k34
      have h37 : Iv 1 200 r30 := ⟨k36.1, k36.2⟩
      have k38 : (s22 1 2) = 0 := k28 k35
      have k39 : (s16 1 2) = 0 := (fun z9 => (k24 z9).1) k38
      have k40 := (fun z9 => (⟨Int.le_trans ((iv_c (by decide) : Iv 0 0 0)).1 (k24 z9).2.1, Int.le_trans (k24 z9).2.2 (h21).2⟩ : Iv 0 5 r23)) k38
      have h41 : Iv 0 5 r23 := ⟨k40.1, k40.2⟩
      have k42 : (s12 1 2) = 0 := k18 k39
      have k43 : (s6 1 2) = 0 := (fun z9 => (k14 z9).1) k42
      have k44 := (fun z9 => (⟨Int.le_trans ((iv_c (by decide) : Iv 0 0 0)).1 (k14 z9).2.1, Int.le_trans (k14 z9).2.2 (h11).2⟩ : Iv 0 2 r13)) k42
      have h45 : Iv 0 2 r13 := ⟨k44.1, k44.2⟩
      have k46 : (st 1 2) = 0 := k8 k43
      refine lv_aload_n hx hb dX2_readErrand_81 rfl (lv_at hl 3 rfl) ?_
      refine va_get (D := D) (ci := 2) (v := .ref (a 4)) (C := RX2) (T := TX2) (N := 8) hx hb hT in_X2 hown hK hP 1 cw_1 rfl 1 (by decide) (hT _ t274) (fun _ h9 => h9) rfl dX2_readErrand_82 ?_
      refine lv_iload_n hx hb dX2_readErrand_85 rfl (lv_at hl 2 rfl) ?_
      refine lv_iload_n hx hb dX2_readErrand_86 rfl (lv_at hl 1 rfl) ?_
      refine lv_iload_n hx hb dX2_readErrand_87 rfl (lv_at hl 0 rfl) ?_
      refine ca_v hP hD hS hA (fun hDc => run_V (mc := 0) (ms := 0) (As := [.int r13, .int r23, .int r30]) (rest := []) S (s_X1_addErrand l D k a s29 sl  r13 r23 r30 _  hBs29 h45 h41 ) lkX2_159 ok_X1_addErrand ⟨rfl, rfl, Nat.le_of_ble_eq_true rfl, Nat.le_of_ble_eq_true rfl⟩ (pw_V (ci := 1) (q0 := 4) hK hN rfl cw_4 hP hDc) rfl hl.1 rfl (Nat.le_of_ble_eq_true rfl) ⟨Nat.zero_le _, Nat.zero_le _⟩ dX2_readErrand_88) (fun s47 H9 locs9 hs47 hP9 hD9 hS9 => ?_)
      clear hP hD hS
      have hS := hS9
      have hP := hP9
      have hD := hD9
      clear hP9 hD9 hS9
      obtain ⟨hBs47, gs47, qs47_0, qs47_1, qs47_2, qs47_3, qs47_4, qs47_5, fs47⟩ := hs47
      have hFs47 : FR [1, 8, 9, 10, 4] st s47 := fr_ca hFs29 gs47 (sub_1 (List.mem_of_getElem? (i := 1) rfl) (sub_1 (List.mem_of_getElem? (i := 2) rfl) (sub_1 (List.mem_of_getElem? (i := 3) rfl) (sub_1 (List.mem_of_getElem? (i := 4) rfl) sub_0))))
      rw [hQ]
      exact W.vret hx hb hr (fun t ht hW => ⟨⟨s47, rfl, ⟨hBs47, hFs47, (Eq.trans qs47_0 (Eq.trans (congrFun (gs29 4 (nm_1 (by decide) nm_0)) 0) (Eq.trans (congrFun (gs26 4 (nm_1 (by decide) nm_0)) 0) (Eq.trans (congrFun (gs22 4 (nm_1 (by decide) nm_0)) 0) (Eq.trans (congrFun (gs16 4 (nm_1 (by decide) nm_0)) 0) (Eq.trans (congrFun (gs12 4 (nm_1 (by decide) nm_0)) 0) (congrFun (gs6 4 (nm_1 (by decide) nm_0)) 0))))))), (Eq.trans qs47_1 (Eq.trans (congrFun (gs29 4 (nm_1 (by decide) nm_0)) 1) (Eq.trans (congrFun (gs26 4 (nm_1 (by decide) nm_0)) 1) (Eq.trans (congrFun (gs22 4 (nm_1 (by decide) nm_0)) 1) (Eq.trans (congrFun (gs16 4 (nm_1 (by decide) nm_0)) 1) (Eq.trans (congrFun (gs12 4 (nm_1 (by decide) nm_0)) 1) (congrFun (gs6 4 (nm_1 (by decide) nm_0)) 1))))))), (Eq.trans qs47_2 (Eq.trans (congrFun (gs29 4 (nm_1 (by decide) nm_0)) 2) (Eq.trans (congrFun (gs26 4 (nm_1 (by decide) nm_0)) 2) (Eq.trans (congrFun (gs22 4 (nm_1 (by decide) nm_0)) 2) (Eq.trans (congrFun (gs16 4 (nm_1 (by decide) nm_0)) 2) (Eq.trans (congrFun (gs12 4 (nm_1 (by decide) nm_0)) 2) (congrFun (gs6 4 (nm_1 (by decide) nm_0)) 2))))))), (Eq.trans qs47_3 (Eq.trans (congrFun (gs29 4 (nm_1 (by decide) nm_0)) 3) (Eq.trans (congrFun (gs26 4 (nm_1 (by decide) nm_0)) 3) (Eq.trans (congrFun (gs22 4 (nm_1 (by decide) nm_0)) 3) (Eq.trans (congrFun (gs16 4 (nm_1 (by decide) nm_0)) 3) (Eq.trans (congrFun (gs12 4 (nm_1 (by decide) nm_0)) 3) (congrFun (gs6 4 (nm_1 (by decide) nm_0)) 3))))))), (Eq.trans qs47_4 (Eq.trans (congrFun (gs29 4 (nm_1 (by decide) nm_0)) 4) (Eq.trans (congrFun (gs26 4 (nm_1 (by decide) nm_0)) 4) (Eq.trans (congrFun (gs22 4 (nm_1 (by decide) nm_0)) 4) (Eq.trans (congrFun (gs16 4 (nm_1 (by decide) nm_0)) 4) (Eq.trans (congrFun (gs12 4 (nm_1 (by decide) nm_0)) 4) (congrFun (gs6 4 (nm_1 (by decide) nm_0)) 4))))))), (Eq.trans qs47_5 (Eq.trans (congrFun (gs29 4 (nm_1 (by decide) nm_0)) 5) (Eq.trans (congrFun (gs26 4 (nm_1 (by decide) nm_0)) 5) (Eq.trans (congrFun (gs22 4 (nm_1 (by decide) nm_0)) 5) (Eq.trans (congrFun (gs16 4 (nm_1 (by decide) nm_0)) 5) (Eq.trans (congrFun (gs12 4 (nm_1 (by decide) nm_0)) 5) (congrFun (gs6 4 (nm_1 (by decide) nm_0)) 5))))))), trivial⟩, by rw [ht]; exact hP, va_K.moved hW.alike (hK.sub (tys' := []) [] rfl), by rw [hAe]; exact hD⟩, by rw [hAe]; exact hS.F ht⟩) hS.2.2 dX2_readErrand_91
  · skip
    have n49 : (6 : Int32).toInt ≤ (st 4 6).toInt := (i_nlt c2)
    have h50 : Iv 6 6 (st 4 6) := le_r (iv_c (by decide) : Iv 6 6 6) n49 h1 (by decide)
    refine lv_aload_n hx hb dX2_readErrand_12 rfl (lv_at hl 0 rfl) ?_
    refine lv_iconst (v := 3) hx hb dX2_readErrand_13 (by decide) ?_
    refine ca_v hP hD hS hA (fun hDc => run_V (mc := 0) (ms := 0) (As := [.int 3]) (rest := []) S (s_X2_fail l D k a st sl  3 _  hB (iv_mono (c := 1) (d := 3) (iv_c (by decide) : Iv 3 3 3) (by decide) (by decide)) ) lkX2_77 ok_X2_fail ⟨rfl, rfl, Nat.le_of_ble_eq_true rfl, Nat.le_of_ble_eq_true rfl⟩ (pw_V (ci := 2) (q0 := 1) hK hN rfl cw_1 hP hDc) rfl hl.1 rfl (Nat.le_of_ble_eq_true rfl) ⟨Nat.zero_le _, Nat.zero_le _⟩ dX2_readErrand_14) (fun s51 H9 locs9 hs51 hP9 hD9 hS9 => ?_)
    clear hP hD hS
    have hS := hS9
    have hP := hP9
    have hD := hD9
    clear hP9 hD9 hS9
    obtain ⟨hBs51, gs51, qs51_0, qs51_1, qs51_2, qs51_3, fs51⟩ := hs51
    have hFs51 : FR [1, 8, 9, 10, 4] st s51 := fr_ca fr_rf gs51 (sub_1 (List.mem_of_getElem? (i := 0) rfl) sub_0)
    have k53 := fs51
    refine lv_aload_n hx hb dX2_readErrand_17 rfl (lv_at hl 0 rfl) ?_
    obtain ⟨w54, vw54, tw54⟩ := hX.2 _ (List.mem_of_getElem? (l := LIT) (i := 12) rfl)
    have vw54 : vk_R RX2 72 "errand" w54 s := vw54
    have tw54 : STA A w54 6 (fun j9 => ([101, 114, 114, 97, 110, 100] : List Int32).getD j9 0) s s.heap := tw54
    refine va_ldcS hx hb hown vw54 dX2_readErrand_18 ?_
    refine ca_v hP hD hS hA (fun hDc => run_V (mc := 0) (ms := 0) (As := [.ref w54]) (rest := []) S (s_X2_passWord l D k a s51 sl   w54 6 (fun j9 => ([101, 114, 114, 97, 110, 100] : List Int32).getD j9 0) _  hBs51 (by decide) ) lkX2_83 ok_X2_passWord ⟨rfl, rfl, Nat.le_of_ble_eq_true rfl, Nat.le_of_ble_eq_true rfl⟩ (px_V (ci := 2) (q0 := 1) nice_NSW hK hN rfl cw_1 hP hDc (show NSW w54 6 (fun j9 => ([101, 114, 114, 97, 110, 100] : List Int32).getD j9 0) A s s.heap from ⟨hX, tw54⟩) hS (px_free hD hS hA)) rfl hl.1 rfl (Nat.le_of_ble_eq_true rfl) ⟨Nat.zero_le _, Nat.zero_le _⟩ dX2_readErrand_20) (fun s55 H9 locs9 hs55 hP9 hD9 hS9 => ?_)
    clear hP hD hS
    have hS := hS9
    have hP := hP9
    have hD := hD9
    clear hP9 hD9 hS9
    obtain ⟨hBs55, gs55, fs55⟩ := hs55
    have hFs55 : FR [1, 8, 9, 10, 4] st s55 := fr_ca hFs51 gs55 (sub_1 (List.mem_of_getElem? (i := 0) rfl) sub_0)
    have k57 := fs55
    refine lv_aload_n hx hb dX2_readErrand_23 rfl (lv_at hl 0 rfl) ?_
    refine lv_iconst (v := 0) hx hb dX2_readErrand_24 (by decide) ?_
    refine lv_aload_n hx hb dX2_readErrand_25 rfl (lv_at hl 0 rfl) ?_
    refine va_get (D := D) (ci := 2) (v := .ref (a 4)) (C := RX2) (T := TX2) (N := 8) hx hb hT in_X2 hown hK hP 1 cw_1 rfl 1 (by decide) (hT _ t274) (fun _ h9 => h9) rfl dX2_readErrand_26 ?_
    refine va_get (D := D) (ci := 1) (v := .int (s55 4 5)) (C := RX1) (T := TX1) (N := 14) hx hb hT in_X1 hown hK hP 4 cw_4 rfl 5 (by decide) (hT _ t217) (fun _ h9 => h9) rfl dX2_readErrand_29 ?_
    refine k_top (y := (st 4 5)) (Eq.trans (congrFun (gs55 4 (nm_1 (by decide) nm_0)) 5) (congrFun (gs51 4 (nm_1 (by decide) nm_0)) 5)) ?_
    have h58 : Iv 0 3 (st 4 5) := (rb_4_5 hB)
    refine lv_iconst (v := 1) hx hb dX2_readErrand_32 (by decide) ?_
    refine lv_isub hx hb dX2_readErrand_33 ?_
    refine lv_topi (fun z59 ez59 => ?_)
    have h60 : Iv (-1) 2 z59 := iv_sub ez59 h58 (iv_c (by decide) : Iv 1 1 1) (by decide) (by decide) (by decide) (by decide)
    refine ca_i hP hD hS hA (fun hDc => run_V (mc := 0) (ms := 0) (As := [.int 0, .int z59]) (rest := []) S (s_X2_passNumber l D k a s55 sl  0 z59 _  hBs55  ) lkX2_89 ok_X2_passNumber ⟨rfl, rfl, Nat.le_of_ble_eq_true rfl, Nat.le_of_ble_eq_true rfl⟩ (pw_V (ci := 2) (q0 := 1) hK hN rfl cw_1 hP hDc) rfl hl.1 rfl (Nat.le_of_ble_eq_true rfl) ⟨Nat.zero_le _, Nat.zero_le _⟩ dX2_readErrand_34) (fun r62 s61 H9 locs9 hs61 hP9 hD9 hS9 => ?_)
    clear hP hD hS
    have hS := hS9
    have hP := hP9
    have hD := hD9
    clear hP9 hD9 hS9
    obtain ⟨hBs61, gs61, fs61⟩ := hs61
    have hFs61 : FR [1, 8, 9, 10, 4] st s61 := fr_ca hFs55 gs61 (sub_1 (List.mem_of_getElem? (i := 0) rfl) sub_0)
    have k63 := fs61
    refine lv_istore_n (lv' := [(1, .int r62), (0, .ref (a 1))]) hx hb dX2_readErrand_37 rfl hl (by decide) rfl (fun ls hl => ?_)
    refine lv_aload_n hx hb dX2_readErrand_38 rfl (lv_at hl 1 rfl) ?_
    obtain ⟨w64, vw64, tw64⟩ := hX.2 _ (List.mem_of_getElem? (l := LIT) (i := 4) rfl)
    have vw64 : vk_R RX2 103 "to" w64 s := vw64
    have tw64 : STA A w64 2 (fun j9 => ([116, 111] : List Int32).getD j9 0) s s.heap := tw64
    refine va_ldcS hx hb hown vw64 dX2_readErrand_39 ?_
    refine ca_v hP hD hS hA (fun hDc => run_V (mc := 0) (ms := 0) (As := [.ref w64]) (rest := []) S (s_X2_passWord l D k a s61 sl   w64 2 (fun j9 => ([116, 111] : List Int32).getD j9 0) _  hBs61 (by decide) ) lkX2_83 ok_X2_passWord ⟨rfl, rfl, Nat.le_of_ble_eq_true rfl, Nat.le_of_ble_eq_true rfl⟩ (px_V (ci := 2) (q0 := 1) nice_NSW hK hN rfl cw_1 hP hDc (show NSW w64 2 (fun j9 => ([116, 111] : List Int32).getD j9 0) A s s.heap from ⟨hX, tw64⟩) hS (px_free hD hS hA)) rfl hl.1 rfl (Nat.le_of_ble_eq_true rfl) ⟨Nat.zero_le _, Nat.zero_le _⟩ dX2_readErrand_41) (fun s65 H9 locs9 hs65 hP9 hD9 hS9 => ?_)
    clear hP hD hS
    have hS := hS9
    have hP := hP9
    have hD := hD9
    clear hP9 hD9 hS9
    obtain ⟨hBs65, gs65, fs65⟩ := hs65
    have hFs65 : FR [1, 8, 9, 10, 4] st s65 := fr_ca hFs61 gs65 (sub_1 (List.mem_of_getElem? (i := 0) rfl) sub_0)
    have k67 := fs65
    refine lv_aload_n hx hb dX2_readErrand_44 rfl (lv_at hl 1 rfl) ?_
    refine lv_iconst (v := 0) hx hb dX2_readErrand_45 (by decide) ?_
    refine lv_aload_n hx hb dX2_readErrand_46 rfl (lv_at hl 1 rfl) ?_
    refine va_get (D := D) (ci := 2) (v := .ref (a 4)) (C := RX2) (T := TX2) (N := 8) hx hb hT in_X2 hown hK hP 1 cw_1 rfl 1 (by decide) (hT _ t274) (fun _ h9 => h9) rfl dX2_readErrand_47 ?_
    refine va_get (D := D) (ci := 1) (v := .int (s65 4 1)) (C := RX1) (T := TX1) (N := 14) hx hb hT in_X1 hown hK hP 4 cw_4 rfl 1 (by decide) (hT _ t200) (fun _ h9 => h9) rfl dX2_readErrand_50 ?_
    refine k_top (y := (st 4 1)) (Eq.trans (congrFun (gs65 4 (nm_1 (by decide) nm_0)) 1) (Eq.trans (congrFun (gs61 4 (nm_1 (by decide) nm_0)) 1) (Eq.trans (congrFun (gs55 4 (nm_1 (by decide) nm_0)) 1) (congrFun (gs51 4 (nm_1 (by decide) nm_0)) 1)))) ?_
    have h68 : Iv 0 6 (st 4 1) := (rb_4_1 hB)
    refine lv_iconst (v := 1) hx hb dX2_readErrand_53 (by decide) ?_
    refine lv_isub hx hb dX2_readErrand_54 ?_
    refine lv_topi (fun z69 ez69 => ?_)
    have h70 : Iv (-1) 5 z69 := iv_sub ez69 h68 (iv_c (by decide) : Iv 1 1 1) (by decide) (by decide) (by decide) (by decide)
    refine ca_i hP hD hS hA (fun hDc => run_V (mc := 0) (ms := 0) (As := [.int 0, .int z69]) (rest := []) S (s_X2_passNumber l D k a s65 sl  0 z69 _  hBs65  ) lkX2_89 ok_X2_passNumber ⟨rfl, rfl, Nat.le_of_ble_eq_true rfl, Nat.le_of_ble_eq_true rfl⟩ (pw_V (ci := 2) (q0 := 1) hK hN rfl cw_1 hP hDc) rfl hl.1 rfl (Nat.le_of_ble_eq_true rfl) ⟨Nat.zero_le _, Nat.zero_le _⟩ dX2_readErrand_55) (fun r72 s71 H9 locs9 hs71 hP9 hD9 hS9 => ?_)
    clear hP hD hS
    have hS := hS9
    have hP := hP9
    have hD := hD9
    clear hP9 hD9 hS9
    obtain ⟨hBs71, gs71, fs71⟩ := hs71
    have hFs71 : FR [1, 8, 9, 10, 4] st s71 := fr_ca hFs65 gs71 (sub_1 (List.mem_of_getElem? (i := 0) rfl) sub_0)
    have k73 := fs71
    refine lv_istore_n (lv' := [(2, .int r72), (1, .int r62), (0, .ref (a 1))]) hx hb dX2_readErrand_58 rfl hl (by decide) rfl (fun ls hl => ?_)
    refine lv_aload_n hx hb dX2_readErrand_59 rfl (lv_at hl 2 rfl) ?_
    obtain ⟨w74, vw74, tw74⟩ := hX.2 _ (List.mem_of_getElem? (l := LIT) (i := 13) rfl)
    have vw74 : vk_R RX2 157 "by" w74 s := vw74
    have tw74 : STA A w74 2 (fun j9 => ([98, 121] : List Int32).getD j9 0) s s.heap := tw74
    refine va_ldcS hx hb hown vw74 dX2_readErrand_60 ?_
    refine ca_v hP hD hS hA (fun hDc => run_V (mc := 0) (ms := 0) (As := [.ref w74]) (rest := []) S (s_X2_passWord l D k a s71 sl   w74 2 (fun j9 => ([98, 121] : List Int32).getD j9 0) _  hBs71 (by decide) ) lkX2_83 ok_X2_passWord ⟨rfl, rfl, Nat.le_of_ble_eq_true rfl, Nat.le_of_ble_eq_true rfl⟩ (px_V (ci := 2) (q0 := 1) nice_NSW hK hN rfl cw_1 hP hDc (show NSW w74 2 (fun j9 => ([98, 121] : List Int32).getD j9 0) A s s.heap from ⟨hX, tw74⟩) hS (px_free hD hS hA)) rfl hl.1 rfl (Nat.le_of_ble_eq_true rfl) ⟨Nat.zero_le _, Nat.zero_le _⟩ dX2_readErrand_62) (fun s75 H9 locs9 hs75 hP9 hD9 hS9 => ?_)
    clear hP hD hS
    have hS := hS9
    have hP := hP9
    have hD := hD9
    clear hP9 hD9 hS9
    obtain ⟨hBs75, gs75, fs75⟩ := hs75
    have hFs75 : FR [1, 8, 9, 10, 4] st s75 := fr_ca hFs71 gs75 (sub_1 (List.mem_of_getElem? (i := 0) rfl) sub_0)
    have k77 := fs75
    refine lv_aload_n hx hb dX2_readErrand_65 rfl (lv_at hl 2 rfl) ?_
    refine lv_iconst (v := 1) hx hb dX2_readErrand_66 (by decide) ?_
    refine lv_sipush (v := 200) hx hb dX2_readErrand_67 (by decide) ?_
    refine ca_i hP hD hS hA (fun hDc => run_V (mc := 0) (ms := 0) (As := [.int 1, .int 200]) (rest := []) S (s_X2_passNumber l D k a s75 sl  1 200 _  hBs75  ) lkX2_89 ok_X2_passNumber ⟨rfl, rfl, Nat.le_of_ble_eq_true rfl, Nat.le_of_ble_eq_true rfl⟩ (pw_V (ci := 2) (q0 := 1) hK hN rfl cw_1 hP hDc) rfl hl.1 rfl (Nat.le_of_ble_eq_true rfl) ⟨Nat.zero_le _, Nat.zero_le _⟩ dX2_readErrand_70) (fun r79 s78 H9 locs9 hs78 hP9 hD9 hS9 => ?_)
    clear hP hD hS
    have hS := hS9
    have hP := hP9
    have hD := hD9
    clear hP9 hD9 hS9
    obtain ⟨hBs78, gs78, fs78⟩ := hs78
    have hFs78 : FR [1, 8, 9, 10, 4] st s78 := fr_ca hFs75 gs78 (sub_1 (List.mem_of_getElem? (i := 0) rfl) sub_0)
    have k80 := fs78
    refine lv_istore_n (lv' := [(3, .int r79), (2, .int r72), (1, .int r62), (0, .ref (a 1))]) hx hb dX2_readErrand_73 rfl hl (by decide) rfl (fun ls hl => ?_)
    refine lv_aload_n hx hb dX2_readErrand_74 rfl (lv_at hl 3 rfl) ?_
    refine va_get (D := D) (ci := 2) (v := .int (s78 1 2)) (C := RX2) (T := TX2) (N := 8) hx hb hT in_X2 hown hK hP 1 cw_1 rfl 2 (by decide) (hT _ t276) (fun _ h9 => h9) rfl dX2_readErrand_75 ?_
    refine lv_if_ne (tgt := 91) hx hb dX2_readErrand_78 (by decide) (fun c81 => ?_) (fun c81 => ?_)
    · skip
      rw [hQ]
      exact W.vret hx hb hr (fun t ht hW => ⟨⟨s78, rfl, ⟨hBs78, hFs78, (Eq.trans (congrFun (gs78 4 (nm_1 (by decide) nm_0)) 0) (Eq.trans (congrFun (gs75 4 (nm_1 (by decide) nm_0)) 0) (Eq.trans (congrFun (gs71 4 (nm_1 (by decide) nm_0)) 0) (Eq.trans (congrFun (gs65 4 (nm_1 (by decide) nm_0)) 0) (Eq.trans (congrFun (gs61 4 (nm_1 (by decide) nm_0)) 0) (Eq.trans (congrFun (gs55 4 (nm_1 (by decide) nm_0)) 0) (congrFun (gs51 4 (nm_1 (by decide) nm_0)) 0))))))), (Eq.trans (congrFun (gs78 4 (nm_1 (by decide) nm_0)) 1) (Eq.trans (congrFun (gs75 4 (nm_1 (by decide) nm_0)) 1) (Eq.trans (congrFun (gs71 4 (nm_1 (by decide) nm_0)) 1) (Eq.trans (congrFun (gs65 4 (nm_1 (by decide) nm_0)) 1) (Eq.trans (congrFun (gs61 4 (nm_1 (by decide) nm_0)) 1) (Eq.trans (congrFun (gs55 4 (nm_1 (by decide) nm_0)) 1) (congrFun (gs51 4 (nm_1 (by decide) nm_0)) 1))))))), (Eq.trans (congrFun (gs78 4 (nm_1 (by decide) nm_0)) 2) (Eq.trans (congrFun (gs75 4 (nm_1 (by decide) nm_0)) 2) (Eq.trans (congrFun (gs71 4 (nm_1 (by decide) nm_0)) 2) (Eq.trans (congrFun (gs65 4 (nm_1 (by decide) nm_0)) 2) (Eq.trans (congrFun (gs61 4 (nm_1 (by decide) nm_0)) 2) (Eq.trans (congrFun (gs55 4 (nm_1 (by decide) nm_0)) 2) (congrFun (gs51 4 (nm_1 (by decide) nm_0)) 2))))))), (Eq.trans (congrFun (gs78 4 (nm_1 (by decide) nm_0)) 3) (Eq.trans (congrFun (gs75 4 (nm_1 (by decide) nm_0)) 3) (Eq.trans (congrFun (gs71 4 (nm_1 (by decide) nm_0)) 3) (Eq.trans (congrFun (gs65 4 (nm_1 (by decide) nm_0)) 3) (Eq.trans (congrFun (gs61 4 (nm_1 (by decide) nm_0)) 3) (Eq.trans (congrFun (gs55 4 (nm_1 (by decide) nm_0)) 3) (congrFun (gs51 4 (nm_1 (by decide) nm_0)) 3))))))), (Eq.trans (congrFun (gs78 4 (nm_1 (by decide) nm_0)) 4) (Eq.trans (congrFun (gs75 4 (nm_1 (by decide) nm_0)) 4) (Eq.trans (congrFun (gs71 4 (nm_1 (by decide) nm_0)) 4) (Eq.trans (congrFun (gs65 4 (nm_1 (by decide) nm_0)) 4) (Eq.trans (congrFun (gs61 4 (nm_1 (by decide) nm_0)) 4) (Eq.trans (congrFun (gs55 4 (nm_1 (by decide) nm_0)) 4) (congrFun (gs51 4 (nm_1 (by decide) nm_0)) 4))))))), (Eq.trans (congrFun (gs78 4 (nm_1 (by decide) nm_0)) 5) (Eq.trans (congrFun (gs75 4 (nm_1 (by decide) nm_0)) 5) (Eq.trans (congrFun (gs71 4 (nm_1 (by decide) nm_0)) 5) (Eq.trans (congrFun (gs65 4 (nm_1 (by decide) nm_0)) 5) (Eq.trans (congrFun (gs61 4 (nm_1 (by decide) nm_0)) 5) (Eq.trans (congrFun (gs55 4 (nm_1 (by decide) nm_0)) 5) (congrFun (gs51 4 (nm_1 (by decide) nm_0)) 5))))))), trivial⟩, by rw [ht]; exact hP, va_K.moved hW.alike (hK.sub (tys' := []) [] rfl), by rw [hAe]; exact hD⟩, by rw [hAe]; exact hS.F ht⟩) hS.2.2 dX2_readErrand_91
    · skip
      have h82 : Iv 0 0 (s78 1 2) := eq_l c81 (iv_c (by decide) : Iv 0 0 0)
      have k83 : (s78 1 2) = 0 := c81
      have k84 : (s75 1 2) = 0 := (fun z9 => (k80 z9).1) k83
      have k85 := (fun z9 => (⟨Int.le_trans ((iv_c (by decide) : Iv 1 1 1)).1 (k80 z9).2.1, Int.le_trans (k80 z9).2.2 ((iv_c (by decide) : Iv 200 200 200)).2⟩ : Iv 1 200 r79)) k83
      have h86 : Iv 1 200 r79 := ⟨k85.1, k85.2⟩
      have k87 : (s71 1 2) = 0 := k77 k84
      have k88 : (s65 1 2) = 0 := (fun z9 => (k73 z9).1) k87
      have k89 := (fun z9 => (⟨Int.le_trans ((iv_c (by decide) : Iv 0 0 0)).1 (k73 z9).2.1, Int.le_trans (k73 z9).2.2 (h70).2⟩ : Iv 0 5 r72)) k87
      have h90 : Iv 0 5 r72 := ⟨k89.1, k89.2⟩
      have k91 : (s61 1 2) = 0 := k67 k88
      have k92 : (s55 1 2) = 0 := (fun z9 => (k63 z9).1) k91
      have k93 := (fun z9 => (⟨Int.le_trans ((iv_c (by decide) : Iv 0 0 0)).1 (k63 z9).2.1, Int.le_trans (k63 z9).2.2 (h60).2⟩ : Iv 0 2 r62)) k91
      have h94 : Iv 0 2 r62 := ⟨k93.1, k93.2⟩
      have k95 : (s51 1 2) = 0 := k57 k92
      exact absurd k95 k53
