set_option maxHeartbeats 4000000 in
set_option maxRecDepth 100000 in
theorem m_X10_readCart (l : Launch) (D : va_G) (k : Nat → ClassId) (a : Nat → Nat) (st : CT) (sl : CL) (sz : Nat) (hB : MB st)  (hj : Iv 0 2 (st 6 4)) : Met l yX10_readCart (.code yX10_readCart cX10_readCart 6 none :: TB) (rmw 8 0 0) (va_Pc [.ref (a 0)] (PX D k sz (MWS k a st sl) NS)) (QV D (S := CT) (fun u => MB u ∧ FR [0, 6] st u ∧ u 0 0 = st 0 0 ∧ u 0 5 = st 0 5 ∧ u 0 7 = st 0 7 ∧ u 0 20 = st 0 20 ∧ u 0 21 = st 0 21 ∧ u 0 22 = st 0 22 ∧ u 0 26 = st 0 26 ∧ u 0 27 = st 0 27 ∧ u 0 29 = st 0 29 ∧ u 0 31 = st 0 31 ∧ u 0 33 = st 0 33 ∧ ((u 0 12 = 0 → st 0 12 = 0) ∧ (st 0 8).toInt ≤ (u 0 8).toInt)) (fun u => MWS k a u sl) (fun _ => []) (MWS k a st sl) sz) 0 0 (va_A (MWS k a st sl) sz) := by
  refine Met.ofW (cc := cX10_readCart) (maxL := 6) (ret := none) (by decide) rfl ?_
  intro p e s m args below meth c s₁ B hml hv
  obtain ⟨rfl, hsz, hP, hK, hD0, hN, hX⟩ := hv
  have hx := B.exec
  have hb := B.bytes
  have hr := B.returns
  have hT : ∀ w9 ∈ TB, w9.before ([.ref (a 0)] : List Value).toArray s = true := fun w9 h => atoms_spec (ws := .code yX10_readCart cX10_readCart 6 none :: TB) B.pre w9 (List.mem_cons_of_mem _ h)
  have hown : s.vm.findClass RX10 = some m.cls := findClass_of_methodNamed B.named
  have S : CallFix p m c cX10_readCart 6 s _ TB RX10 := ⟨hx, hb, hml, hown, hT⟩
  subst hsz
  have hD := hD0.self (sz := s.heap.size)
  generalize hAe : va_A (MWS k a st sl) s.heap.size = A at hD hX ⊢
  have hA : ∀ q : Nat, s.heap.size ≤ q → A q := fun q h => by rw [← hAe]; exact Or.inr h
  have hS : va_S A s.heap s.heap [] := va_S.rf
  have hl := lv_entry ([.ref (a 0)]) (n := 6) (Nat.le_of_ble_eq_true rfl)
  rw [lg_entry_eq]
  generalize (lg_sl ([.ref (a 0)]) ++ List.replicate (6 - (lg_sl ([.ref (a 0)])).length) Slot.unset).toArray = ls at hl ⊢
  have hl : lv_has ls 6 [(0, .ref (a 0))] := hl
  refine nameQ (fun Q hQ => ?_)
  refine lv_bipush (v := 104) hx hb dX10_readCart_0 (by decide) ?_
  refine lv_iconst (v := 2) hx hb dX10_readCart_2 (by decide) ?_
  refine lv_aload_n hx hb dX10_readCart_3 rfl (lv_at hl 0 rfl) ?_
  refine va_get (D := D) (ci := 10) (v := .ref (a 6)) (C := RX10) (T := TX10) (N := 38) hx hb hT in_X10 hown hK hP 0 mw_0 rfl 14 (by decide) (hT _ t1276) (fun _ h9 => h9) rfl dX10_readCart_4 ?_
  refine lv_iconst (v := 4) hx hb dX10_readCart_7 (by decide) ?_
  refine va_iald hx hb hK hP 6 0 mw_6 rfl (by unfold vp_in; decide) dX10_readCart_8 ?_
  refine k_top (y := (st 6 4)) rfl ?_
  refine lv_imul hx hb dX10_readCart_9 ?_
  refine lv_topi (fun z1 ez1 => ?_)
  have h2 : Iv 0 4 z1 := iv_mull ez1 hj (k := 2) (by decide) (by decide) (by decide) (by decide) (by decide) (by decide)
  refine lv_iadd hx hb dX10_readCart_10 ?_
  refine lv_topi (fun z3 ez3 => ?_)
  have h4 : Iv 104 108 z3 := iv_add ez3 (iv_c (by decide) : Iv 104 104 104) h2 (by decide) (by decide) (by decide) (by decide)
  refine lv_istore_n (lv' := [(1, .int z3), (0, .ref (a 0))]) hx hb dX10_readCart_11 rfl hl (by decide) rfl (fun ls hl => ?_)
  refine lv_aload_n hx hb dX10_readCart_12 rfl (lv_at hl 1 rfl) ?_
  obtain ⟨w5, vw5, tw5⟩ := hX.2 _ (List.mem_of_getElem? (l := LIT) (i := 25) rfl)
  have vw5 : vk_R RX10 184 "at" w5 s := vw5
  have tw5 : STA A w5 2 (fun j9 => ([97, 116] : List Int32).getD j9 0) s s.heap := tw5
  refine va_ldcS hx hb hown vw5 dX10_readCart_13 ?_
  refine ca_v hP hD hS hA (fun hDc => run_V (mc := 0) (ms := 0) (As := [.ref w5]) (rest := []) S (m_X10_needs l D k a st sl   w5 2 (fun j9 => ([97, 116] : List Int32).getD j9 0) _  hB (by decide) ) lkX10_164 ok_X10_needs ⟨rfl, rfl, Nat.le_of_ble_eq_true rfl, Nat.le_of_ble_eq_true rfl⟩ (px_V (ci := 10) (q0 := 0) nice_NSW hK hN rfl mw_0 hP hDc (show NSW w5 2 (fun j9 => ([97, 116] : List Int32).getD j9 0) A s s.heap from ⟨hX, tw5⟩) hS (px_free hD hS hA)) rfl hl.1 rfl (Nat.le_of_ble_eq_true rfl) ⟨Nat.zero_le _, Nat.zero_le _⟩ dX10_readCart_15) (fun s6 H9 locs9 hs6 hP9 hD9 hS9 => ?_)
  clear hP hD hS
  have hS := hS9
  have hP := hP9
  have hD := hD9
  clear hP9 hD9 hS9
  obtain ⟨hBs6, gs6, qs6_0, qs6_1, qs6_2, qs6_3, qs6_4, qs6_5, qs6_6, qs6_7, qs6_8, qs6_9, qs6_10, fs6⟩ := hs6
  have hFs6 : FR [0, 6] st s6 := fr_ca fr_rf gs6 (sub_1 (List.mem_of_getElem? (i := 0) rfl) sub_0)
  have k8 := fs6
  refine lv_aload_n hx hb dX10_readCart_18 rfl (lv_at hl 1 rfl) ?_
  refine va_get (D := D) (ci := 10) (v := .ref (a 6)) (C := RX10) (T := TX10) (N := 38) hx hb hT in_X10 hown hK hP 0 mw_0 rfl 14 (by decide) (hT _ t1276) (fun _ h9 => h9) rfl dX10_readCart_19 ?_
  refine lv_iload_n hx hb dX10_readCart_22 rfl (lv_at hl 0 rfl) ?_
  refine lv_aload_n hx hb dX10_readCart_23 rfl (lv_at hl 1 rfl) ?_
  refine ca_i hP hD hS hA (fun hDc => run_V (mc := 0) (ms := 0) (As := []) (rest := [.int z3, .ref (a 6)]) S (m_X10_freshPlace l D k a s6 sl   _  hBs6  ) lkX10_171 ok_X10_freshPlace ⟨rfl, rfl, Nat.le_of_ble_eq_true rfl, Nat.le_of_ble_eq_true rfl⟩ (pw_V (ci := 10) (q0 := 0) hK hN rfl mw_0 hP hDc) rfl hl.1 rfl (Nat.le_of_ble_eq_true rfl) ⟨Nat.zero_le _, Nat.zero_le _⟩ dX10_readCart_24) (fun r10 s9 H9 locs9 hs9 hP9 hD9 hS9 => ?_)
  clear hP hD hS
  have hS := hS9
  have hP := hP9
  have hD := hD9
  clear hP9 hD9 hS9
  obtain ⟨hBs9, gs9, qs9_0, qs9_1, qs9_2, qs9_3, qs9_4, qs9_5, qs9_6, qs9_7, qs9_8, qs9_9, qs9_10, fs9⟩ := hs9
  have hFs9 : FR [0, 6] st s9 := fr_ca hFs6 gs9 (sub_1 (List.mem_of_getElem? (i := 0) rfl) sub_0)
  have h11 : Iv 0 5 r10 := fs9.1
  have k12 := fs9.2
  refine c_ist hx hb hK hP hD hS mw_6 ms_6 (iv_in h4 (by decide) (by decide)) dX10_readCart_27 (fun s13 H9 locs9 es13 hP9 hD9 hS9 => ?_)
  clear hP hD hS
  have hS := hS9
  have hP := hP9
  have hD := hD9
  clear hP9 hD9 hS9
  have hBs13 : MB s13 := by rw [es13]; exact mb_sw hBs9 (fok_bd (hBs9 6) (bd_f h4 (by decide) (by decide)) (iv_full r10))
  have hFs13 : FR [0, 6] st s13 := fr_sw hFs9 (List.mem_of_getElem? (i := 1) rfl) es13
  refine lv_aload_n hx hb dX10_readCart_28 rfl (lv_at hl 1 rfl) ?_
  obtain ⟨w14, vw14, tw14⟩ := hX.2 _ (List.mem_of_getElem? (l := LIT) (i := 26) rfl)
  have vw14 : vk_R RX10 185 "wheels" w14 s := vw14
  have tw14 : STA A w14 6 (fun j9 => ([119, 104, 101, 101, 108, 115] : List Int32).getD j9 0) s s.heap := tw14
  refine va_ldcS hx hb hown vw14 dX10_readCart_29 ?_
  refine ca_v hP hD hS hA (fun hDc => run_V (mc := 0) (ms := 0) (As := [.ref w14]) (rest := []) S (m_X10_needs l D k a s13 sl   w14 6 (fun j9 => ([119, 104, 101, 101, 108, 115] : List Int32).getD j9 0) _  hBs13 (by decide) ) lkX10_164 ok_X10_needs ⟨rfl, rfl, Nat.le_of_ble_eq_true rfl, Nat.le_of_ble_eq_true rfl⟩ (px_V (ci := 10) (q0 := 0) nice_NSW hK hN rfl mw_0 hP hDc (show NSW w14 6 (fun j9 => ([119, 104, 101, 101, 108, 115] : List Int32).getD j9 0) A s s.heap from ⟨hX, tw14⟩) hS (px_free hD hS hA)) rfl hl.1 rfl (Nat.le_of_ble_eq_true rfl) ⟨Nat.zero_le _, Nat.zero_le _⟩ dX10_readCart_31) (fun s15 H9 locs9 hs15 hP9 hD9 hS9 => ?_)
  clear hP hD hS
  have hS := hS9
  have hP := hP9
  have hD := hD9
  clear hP9 hD9 hS9
  obtain ⟨hBs15, gs15, qs15_0, qs15_1, qs15_2, qs15_3, qs15_4, qs15_5, qs15_6, qs15_7, qs15_8, qs15_9, qs15_10, fs15⟩ := hs15
  have hFs15 : FR [0, 6] st s15 := fr_ca hFs13 gs15 (sub_1 (List.mem_of_getElem? (i := 0) rfl) sub_0)
  have k17 := fs15
  refine lv_iconst (v := 0) hx hb dX10_readCart_34 (by decide) ?_
  refine lv_istore_n (lv' := [(2, .int 0), (1, .int z3), (0, .ref (a 0))]) hx hb dX10_readCart_35 rfl hl (by decide) rfl (fun ls hl => ?_)
  refine lv_aload_n hx hb dX10_readCart_36 rfl (lv_at hl 2 rfl) ?_
  refine ro_V (As := []) (rest := []) S (m_X10_freshSeated l D k a s15 sl   _  hBs15  ) lkX10_187 ok_X10_freshSeated ⟨rfl, rfl, Nat.le_of_ble_eq_true rfl, Nat.le_of_ble_eq_true rfl⟩ (pw_V (ci := 10) (q0 := 0) hK hN rfl mw_0 hP (hD.weaken (fun _ _ _ _ => trivial))) rfl hl.1 rfl (Nat.le_of_ble_eq_true rfl) ⟨Nat.zero_le _, Nat.zero_le _⟩ dX10_readCart_37 (fun r18 er18 => ?_)
  refine lv_istore_n (lv' := [(3, .int r18), (2, .int 0), (1, .int z3), (0, .ref (a 0))]) hx hb dX10_readCart_40 rfl hl (by decide) rfl (fun ls hl => ?_)
  have lp41 : ∀ (n9_41 : Nat) (v2_41 : Int32) (t41 : CT) (H9 : Heap) (locs9 : List Loc) (ls : Array Slot), Iv 0 255 v2_41 → ((st 0 8).toInt ≤ (t41 0 8).toInt) → (t41 0 12 = 0 → st 0 12 = 0) → MB t41 → FR [0] s15 t41 → t41 0 0 = s15 0 0 → t41 0 5 = s15 0 5 → t41 0 7 = s15 0 7 → t41 0 20 = s15 0 20 → t41 0 21 = s15 0 21 → t41 0 22 = s15 0 22 → t41 0 26 = s15 0 26 → t41 0 27 = s15 0 27 → t41 0 29 = s15 0 29 → t41 0 31 = s15 0 31 → t41 0 33 = s15 0 33 → va_P D vwCl (MWS k a t41 sl) H9 → va_D A (MWS k a t41 sl) → va_S A s.heap H9 locs9 → lv_has ls 6 [(3, .int r18), (2, .int v2_41), (1, .int z3), (0, .ref (a 0))] → (2 * ((1000 : Int) - (t41 0 8).toInt) + (if t41 0 10 = 0 then 0 else 1)).toNat < n9_41 → W p l e (rmw 8 0 0) s m ([.ref (a 0)] : List Value).toArray below meth c H9 locs9 0 0 Q (F0 m 41 ls []) := by
    clear hl hP hD hS
    intro n9_41
    induction n9_41 with
    | zero =>
      intro v2_41 t41 H9 locs9 ls iv2_41 rel41_0 rel41_1 hBt41 gt41 qt41_0 qt41_1 qt41_2 qt41_3 qt41_4 qt41_5 qt41_6 qt41_7 qt41_8 qt41_9 qt41_10 hP hD hS hl hm41
      exact absurd hm41 (Nat.not_lt_zero _)
    | succ n9_41 ih41 =>
      intro v2_41 t41 H9 locs9 ls iv2_41 rel41_0 rel41_1 hBt41 gt41 qt41_0 qt41_1 qt41_2 qt41_3 qt41_4 qt41_5 qt41_6 qt41_7 qt41_8 qt41_9 qt41_10 hP hD hS hl hm41
      have hFt41 : FR [0, 6] st t41 := fr_ca hFs15 gt41 (sub_1 (List.mem_of_getElem? (i := 0) rfl) sub_0)
      refine lv_aload_n hx hb dX10_readCart_41 rfl (lv_at hl 3 rfl) ?_
      refine ro_V (As := []) (rest := []) S (m_X10_good l D k a t41 sl   _  hBt41  ) lkX10_136 ok_X10_good ⟨rfl, rfl, Nat.le_of_ble_eq_true rfl, Nat.le_of_ble_eq_true rfl⟩ (pw_V (ci := 10) (q0 := 0) hK hN rfl mw_0 hP (hD.weaken (fun _ _ _ _ => trivial))) rfl hl.1 rfl (Nat.le_of_ble_eq_true rfl) ⟨Nat.zero_le _, Nat.zero_le _⟩ dX10_readCart_42 (fun r369 er369 => ?_)
      rcases er369 with ⟨rfl, g9⟩ | ⟨rfl, g9⟩
      · skip
        have g370 := g9
        have k371 := g370
        have k372 := rel41_1 k371
        have k373 : st 0 12 = 0 := k372
        refine lv_if_eq (tgt := 73) hx hb dX10_readCart_45 (by decide) (fun c374 => ?_) (fun c374 => ?_)
        · first | exact absurd c374 (by decide) | exact absurd (by decide) c374
        refine lv_aload_n hx hb dX10_readCart_48 rfl (lv_at hl 3 rfl) ?_
        refine va_get (D := D) (ci := 10) (v := .int (t41 0 10)) (C := RX10) (T := TX10) (N := 38) hx hb hT in_X10 hown hK hP 0 mw_0 rfl 10 (by decide) (hT _ t1272) (fun _ h9 => h9) rfl dX10_readCart_49 ?_
        refine lv_iconst (v := 2) hx hb dX10_readCart_52 (by decide) ?_
        refine lv_icmp_ne (tgt := 73) hx hb dX10_readCart_53 (by decide) (fun c375 => ?_) (fun c375 => ?_)
        · skip
          refine lv_iconst (v := 0) hx hb dX10_readCart_73 (by decide) ?_
          refine lv_istore (lv' := [(4, .int 0), (3, .int r18), (2, .int v2_41), (1, .int z3), (0, .ref (a 0))]) hx hb dX10_readCart_74 hl (by decide) rfl (fun ls hl => ?_)
          refine lv_iload hx hb dX10_readCart_76 (lv_at hl 0 rfl) ?_
          refine lv_if_eq (tgt := 94) hx hb dX10_readCart_78 (by decide) (fun c376 => ?_) (fun c376 => ?_)
          rotate_left
          · first | exact absurd c376 (by decide) | exact absurd (by decide) c376
          refine lv_iload hx hb dX10_readCart_94 (lv_at hl 0 rfl) ?_
          refine lv_if_eq (tgt := 118) hx hb dX10_readCart_96 (by decide) (fun c377 => ?_) (fun c377 => ?_)
          rotate_left
          · first | exact absurd c377 (by decide) | exact absurd (by decide) c377
          refine lv_aload_n hx hb dX10_readCart_118 rfl (lv_at hl 4 rfl) ?_
          refine lv_iconst (v := 0) hx hb dX10_readCart_119 (by decide) ?_
          refine lv_aload_n hx hb dX10_readCart_120 rfl (lv_at hl 4 rfl) ?_
          refine va_get (D := D) (ci := 10) (v := .ref (a 6)) (C := RX10) (T := TX10) (N := 38) hx hb hT in_X10 hown hK hP 0 mw_0 rfl 14 (by decide) (hT _ t1276) (fun _ h9 => h9) rfl dX10_readCart_121 ?_
          refine lv_iconst (v := 3) hx hb dX10_readCart_124 (by decide) ?_
          refine va_iald hx hb hK hP 6 0 mw_6 rfl (by unfold vp_in; decide) dX10_readCart_125 ?_
          refine k_top (y := (t41 6 3)) rfl ?_
          refine k_top (y := (st 6 3)) (Eq.trans (congrFun (gt41 6 (nm_1 (by decide) nm_0)) 3) (Eq.trans (congrFun (gs15 6 (nm_1 (by decide) nm_0)) 3) (Eq.trans (Eq.trans (congrFun (sw_it es13) 3) (upd_no (cl_ne h4 (by decide) (by decide)))) (Eq.trans (congrFun (gs9 6 (nm_1 (by decide) nm_0)) 3) (congrFun (gs6 6 (nm_1 (by decide) nm_0)) 3))))) ?_
          have h378 : Iv 0 8 (st 6 3) := (tok_at (rm_6 hB).1 3 0 8 (by decide) (by decide) (by decide))
          refine lv_iconst (v := 1) hx hb dX10_readCart_126 (by decide) ?_
          refine lv_isub hx hb dX10_readCart_127 ?_
          refine lv_topi (fun z379 ez379 => ?_)
          have h380 : Iv (-1) 7 z379 := iv_sub ez379 h378 (iv_c (by decide) : Iv 1 1 1) (by decide) (by decide) (by decide) (by decide)
          refine ca_i hP hD hS hA (fun hDc => run_V (mc := 0) (ms := 0) (As := [.int 0, .int z379]) (rest := []) S (m_X10_number l D k a t41 sl  0 z379 _  hBt41  ) lkX10_168 ok_X10_number ⟨rfl, rfl, Nat.le_of_ble_eq_true rfl, Nat.le_of_ble_eq_true rfl⟩ (pw_V (ci := 10) (q0 := 0) hK hN rfl mw_0 hP hDc) rfl hl.1 rfl (Nat.le_of_ble_eq_true rfl) ⟨Nat.zero_le _, Nat.zero_le _⟩ dX10_readCart_128) (fun r382 s381 H9 locs9 hs381 hP9 hD9 hS9 => ?_)
          clear hP hD hS
          have hS := hS9
          have hP := hP9
          have hD := hD9
          clear hP9 hD9 hS9
          obtain ⟨hBs381, gs381, qs381_0, qs381_1, qs381_2, qs381_3, qs381_4, qs381_5, qs381_6, qs381_7, qs381_8, qs381_9, qs381_10, fs381⟩ := hs381
          have hFs381 : FR [0, 6] st s381 := fr_ca hFt41 gs381 (sub_1 (List.mem_of_getElem? (i := 0) rfl) sub_0)
          have k383 := fs381
          have k384 : Iv 0 7 r382 := (by rcases k383.2.2 with q9 | q9; (rw [q9]; exact ⟨by decide, by decide⟩); (obtain ⟨y1, y2⟩ := id ((iv_c (by decide) : Iv 0 0 0)); obtain ⟨y3, y4⟩ := id (h380); exact ⟨by omega, by omega⟩))
          refine lv_istore (lv' := [(5, .int r382), (4, .int 0), (3, .int r18), (2, .int v2_41), (1, .int z3), (0, .ref (a 0))]) hx hb dX10_readCart_131 hl (by decide) rfl (fun ls hl => ?_)
          refine lv_aload_n hx hb dX10_readCart_133 rfl (lv_at hl 5 rfl) ?_
          refine ro_V (As := []) (rest := []) S (m_X10_good l D k a s381 sl   _  hBs381  ) lkX10_136 ok_X10_good ⟨rfl, rfl, Nat.le_of_ble_eq_true rfl, Nat.le_of_ble_eq_true rfl⟩ (pw_V (ci := 10) (q0 := 0) hK hN rfl mw_0 hP (hD.weaken (fun _ _ _ _ => trivial))) rfl hl.1 rfl (Nat.le_of_ble_eq_true rfl) ⟨Nat.zero_le _, Nat.zero_le _⟩ dX10_readCart_134 (fun r385 er385 => ?_)
          rcases er385 with ⟨rfl, g9⟩ | ⟨rfl, g9⟩
          · skip
            have g386 := g9
            have k387 := g386
            have k388 := k383.1 k387
            have k389 : t41 0 12 = 0 := k388.1
            refine lv_if_ne (tgt := 141) hx hb dX10_readCart_137 (by decide) (fun c390 => ?_) (fun c390 => ?_)
            rotate_left
            · first | exact absurd c390 (by decide) | exact absurd (by decide) c390
            refine lv_iload_n hx hb dX10_readCart_141 rfl (lv_at hl 3 rfl) ?_
            refine lv_iconst (v := 1) hx hb dX10_readCart_142 (by decide) ?_
            refine lv_iload hx hb dX10_readCart_143 (lv_at hl 0 rfl) ?_
            refine lv_ishl hx hb dX10_readCart_145 ?_
            refine lv_topi (fun z391 ez391 => ?_)
            have h392 : Iv 1 128 z391 := iv_shl 7 ez391 k384 (by decide) (by decide) (by decide)
            refine lv_ior hx hb dX10_readCart_146 ?_
            refine lv_topi (fun z393 ez393 => ?_)
            have h394 : Iv 0 255 z393 := iv_or 8 ez393 iv2_41 (iv_mono (c := 0) (d := 128) h392 (by decide) (by decide)) (by decide) (by decide) (by decide) (by decide)
            refine lv_istore_n (lv' := [(2, .int z393), (5, .int r382), (4, .int 0), (3, .int r18), (1, .int z3), (0, .ref (a 0))]) hx hb dX10_readCart_147 rfl hl (by decide) rfl (fun ls hl => ?_)
            refine lv_aload_n hx hb dX10_readCart_148 rfl (lv_at hl 5 rfl) ?_
            refine va_get (D := D) (ci := 10) (v := .int (s381 0 10)) (C := RX10) (T := TX10) (N := 38) hx hb hT in_X10 hown hK hP 0 mw_0 rfl 10 (by decide) (hT _ t1272) (fun _ h9 => h9) rfl dX10_readCart_149 ?_
            refine lv_iconst (v := 3) hx hb dX10_readCart_152 (by decide) ?_
            refine lv_icmp_ne (tgt := 41) hx hb dX10_readCart_153 (by decide) (fun c395 => ?_) (fun c395 => ?_)
            · skip
              exact ih41 z393 s381 _ _ _ h394 (Int.le_trans rel41_0 k383.2.1) (fun _ => rel41_1 k389) hBs381 (fr_ca gt41 gs381 (sub_1 (List.mem_of_getElem? (i := 0) rfl) sub_0)) (Eq.trans (Eq.trans qs381_0 (Eq.trans qt41_0 (Eq.trans qs15_0 (Eq.trans (congrFun (sw_at es13 (by decide)) 0) (Eq.trans qs9_0 qs6_0))))) (Eq.symm (Eq.trans qs15_0 (Eq.trans (congrFun (sw_at es13 (by decide)) 0) (Eq.trans qs9_0 qs6_0))))) (Eq.trans (Eq.trans qs381_1 (Eq.trans qt41_1 (Eq.trans qs15_1 (Eq.trans (congrFun (sw_at es13 (by decide)) 5) (Eq.trans qs9_1 qs6_1))))) (Eq.symm (Eq.trans qs15_1 (Eq.trans (congrFun (sw_at es13 (by decide)) 5) (Eq.trans qs9_1 qs6_1))))) (Eq.trans (Eq.trans qs381_2 (Eq.trans qt41_2 (Eq.trans qs15_2 (Eq.trans (congrFun (sw_at es13 (by decide)) 7) (Eq.trans qs9_2 qs6_2))))) (Eq.symm (Eq.trans qs15_2 (Eq.trans (congrFun (sw_at es13 (by decide)) 7) (Eq.trans qs9_2 qs6_2))))) (Eq.trans (Eq.trans qs381_3 (Eq.trans qt41_3 (Eq.trans qs15_3 (Eq.trans (congrFun (sw_at es13 (by decide)) 20) (Eq.trans qs9_3 qs6_3))))) (Eq.symm (Eq.trans qs15_3 (Eq.trans (congrFun (sw_at es13 (by decide)) 20) (Eq.trans qs9_3 qs6_3))))) (Eq.trans (Eq.trans qs381_4 (Eq.trans qt41_4 (Eq.trans qs15_4 (Eq.trans (congrFun (sw_at es13 (by decide)) 21) (Eq.trans qs9_4 qs6_4))))) (Eq.symm (Eq.trans qs15_4 (Eq.trans (congrFun (sw_at es13 (by decide)) 21) (Eq.trans qs9_4 qs6_4))))) (Eq.trans (Eq.trans qs381_5 (Eq.trans qt41_5 (Eq.trans qs15_5 (Eq.trans (congrFun (sw_at es13 (by decide)) 22) (Eq.trans qs9_5 qs6_5))))) (Eq.symm (Eq.trans qs15_5 (Eq.trans (congrFun (sw_at es13 (by decide)) 22) (Eq.trans qs9_5 qs6_5))))) (Eq.trans (Eq.trans qs381_6 (Eq.trans qt41_6 (Eq.trans qs15_6 (Eq.trans (congrFun (sw_at es13 (by decide)) 26) (Eq.trans qs9_6 qs6_6))))) (Eq.symm (Eq.trans qs15_6 (Eq.trans (congrFun (sw_at es13 (by decide)) 26) (Eq.trans qs9_6 qs6_6))))) (Eq.trans (Eq.trans qs381_7 (Eq.trans qt41_7 (Eq.trans qs15_7 (Eq.trans (congrFun (sw_at es13 (by decide)) 27) (Eq.trans qs9_7 qs6_7))))) (Eq.symm (Eq.trans qs15_7 (Eq.trans (congrFun (sw_at es13 (by decide)) 27) (Eq.trans qs9_7 qs6_7))))) (Eq.trans (Eq.trans qs381_8 (Eq.trans qt41_8 (Eq.trans qs15_8 (Eq.trans (congrFun (sw_at es13 (by decide)) 29) (Eq.trans qs9_8 qs6_8))))) (Eq.symm (Eq.trans qs15_8 (Eq.trans (congrFun (sw_at es13 (by decide)) 29) (Eq.trans qs9_8 qs6_8))))) (Eq.trans (Eq.trans qs381_9 (Eq.trans qt41_9 (Eq.trans qs15_9 (Eq.trans (congrFun (sw_at es13 (by decide)) 31) (Eq.trans qs9_9 qs6_9))))) (Eq.symm (Eq.trans qs15_9 (Eq.trans (congrFun (sw_at es13 (by decide)) 31) (Eq.trans qs9_9 qs6_9))))) (Eq.trans (Eq.trans qs381_10 (Eq.trans qt41_10 (Eq.trans qs15_10 (Eq.trans (congrFun (sw_at es13 (by decide)) 33) (Eq.trans qs9_10 qs6_10))))) (Eq.symm (Eq.trans qs15_10 (Eq.trans (congrFun (sw_at es13 (by decide)) 33) (Eq.trans qs9_10 qs6_10))))) hP hD hS (lv_sub hl [3, 0, 4, 5] rfl) (by have y1 := k388.2.2.2; have y2 := k388.2.1; rw [show t41 0 10 = t41 0 10 from rfl] at y2; have y3 : (t41 0 8).toInt = (t41 0 8).toInt := congrArg Int32.toInt (rfl); rw [if_neg (by rw [y2]; decide)] at hm41; have y5 := ((rm_0_8 hBs381)).2; by_cases q9 : s381 0 10 = 0; (rw [if_pos q9]; have y4 := y1.1; omega); (rw [if_neg q9]; have y4 := y1.2 q9; omega))
            · skip
              have h396 : Iv 3 3 (s381 0 10) := eq_l c395 (iv_c (by decide) : Iv 3 3 3)
              refine lv_aload_n hx hb dX10_readCart_156 rfl (lv_at hl 5 rfl) ?_
              refine va_get (D := D) (ci := 10) (v := .ref (a 6)) (C := RX10) (T := TX10) (N := 38) hx hb hT in_X10 hown hK hP 0 mw_0 rfl 14 (by decide) (hT _ t1276) (fun _ h9 => h9) rfl dX10_readCart_157 ?_
              refine lv_iload_n hx hb dX10_readCart_160 rfl (lv_at hl 4 rfl) ?_
              refine lv_iconst (v := 1) hx hb dX10_readCart_161 (by decide) ?_
              refine lv_iadd hx hb dX10_readCart_162 ?_
              refine lv_topi (fun z397 ez397 => ?_)
              have h398 : Iv 105 109 z397 := iv_add ez397 h4 (iv_c (by decide) : Iv 1 1 1) (by decide) (by decide) (by decide) (by decide)
              refine lv_iload_n hx hb dX10_readCart_163 rfl (lv_at hl 0 rfl) ?_
              refine c_ist hx hb hK hP hD hS mw_6 ms_6 (iv_in h398 (by decide) (by decide)) dX10_readCart_164 (fun s399 H9 locs9 es399 hP9 hD9 hS9 => ?_)
              clear hP hD hS
              have hS := hS9
              have hP := hP9
              have hD := hD9
              clear hP9 hD9 hS9
              have hBs399 : MB s399 := by rw [es399]; exact mb_sw hBs381 (fok_bd (hBs381 6) (bd_f h398 (by decide) (by decide)) (iv_full z393))
              have hFs399 : FR [0, 6] st s399 := fr_sw hFs381 (List.mem_of_getElem? (i := 1) rfl) es399
              refine lv_aload_n hx hb dX10_readCart_165 rfl (lv_at hl 5 rfl) ?_
              refine va_get (D := D) (ci := 10) (v := .ref (a 6)) (C := RX10) (T := TX10) (N := 38) hx hb hT in_X10 hown hK hP 0 mw_0 rfl 14 (by decide) (hT _ t1276) (fun _ h9 => h9) rfl dX10_readCart_166 ?_
              refine lv_iconst (v := 4) hx hb dX10_readCart_169 (by decide) ?_
              refine lv_dup2_11 hx hb dX10_readCart_170 rfl rfl ?_
              refine va_iald hx hb hK hP 6 0 mw_6 rfl (by unfold vp_in; decide) dX10_readCart_171 ?_
              refine k_top (y := (s399 6 4)) rfl ?_
              refine k_top (y := (st 6 4)) (Eq.trans (Eq.trans (congrFun (sw_it es399) 4) (upd_no (cl_ne h398 (by decide) (by decide)))) (Eq.trans (congrFun (gs381 6 (nm_1 (by decide) nm_0)) 4) (Eq.trans (congrFun (gt41 6 (nm_1 (by decide) nm_0)) 4) (Eq.trans (congrFun (gs15 6 (nm_1 (by decide) nm_0)) 4) (Eq.trans (Eq.trans (congrFun (sw_it es13) 4) (upd_no (cl_ne h4 (by decide) (by decide)))) (Eq.trans (congrFun (gs9 6 (nm_1 (by decide) nm_0)) 4) (congrFun (gs6 6 (nm_1 (by decide) nm_0)) 4))))))) ?_
              refine lv_iconst (v := 1) hx hb dX10_readCart_172 (by decide) ?_
              refine lv_iadd hx hb dX10_readCart_173 ?_
              refine lv_topi (fun z400 ez400 => ?_)
              have h401 : Iv 1 3 z400 := iv_add ez400 hj (iv_c (by decide) : Iv 1 1 1) (by decide) (by decide) (by decide) (by decide)
              refine c_ist hx hb hK hP hD hS mw_6 ms_6 (by unfold vp_in; decide) dX10_readCart_174 (fun s402 H9 locs9 es402 hP9 hD9 hS9 => ?_)
              clear hP hD hS
              have hS := hS9
              have hP := hP9
              have hD := hD9
              clear hP9 hD9 hS9
              have hBs402 : MB s402 := by rw [es402]; exact mb_sw hBs399 (fok_bd (i := 4) (hBs399 6) ⟨by decide, by decide, by decide, by decide⟩ (iv_mono (c := 0) (d := 3) h401 (by decide) (by decide)))
              have hFs402 : FR [0, 6] st s402 := fr_sw hFs399 (List.mem_of_getElem? (i := 1) rfl) es402
              rw [hQ]
              exact W.vret hx hb hr (fun t ht hW => ⟨⟨s402, rfl, ⟨hBs402, hFs402, (Eq.trans (congrFun (sw_at es402 (by decide)) 0) (Eq.trans (congrFun (sw_at es399 (by decide)) 0) (Eq.trans qs381_0 (Eq.trans qt41_0 (Eq.trans qs15_0 (Eq.trans (congrFun (sw_at es13 (by decide)) 0) (Eq.trans qs9_0 qs6_0))))))), (Eq.trans (congrFun (sw_at es402 (by decide)) 5) (Eq.trans (congrFun (sw_at es399 (by decide)) 5) (Eq.trans qs381_1 (Eq.trans qt41_1 (Eq.trans qs15_1 (Eq.trans (congrFun (sw_at es13 (by decide)) 5) (Eq.trans qs9_1 qs6_1))))))), (Eq.trans (congrFun (sw_at es402 (by decide)) 7) (Eq.trans (congrFun (sw_at es399 (by decide)) 7) (Eq.trans qs381_2 (Eq.trans qt41_2 (Eq.trans qs15_2 (Eq.trans (congrFun (sw_at es13 (by decide)) 7) (Eq.trans qs9_2 qs6_2))))))), (Eq.trans (congrFun (sw_at es402 (by decide)) 20) (Eq.trans (congrFun (sw_at es399 (by decide)) 20) (Eq.trans qs381_3 (Eq.trans qt41_3 (Eq.trans qs15_3 (Eq.trans (congrFun (sw_at es13 (by decide)) 20) (Eq.trans qs9_3 qs6_3))))))), (Eq.trans (congrFun (sw_at es402 (by decide)) 21) (Eq.trans (congrFun (sw_at es399 (by decide)) 21) (Eq.trans qs381_4 (Eq.trans qt41_4 (Eq.trans qs15_4 (Eq.trans (congrFun (sw_at es13 (by decide)) 21) (Eq.trans qs9_4 qs6_4))))))), (Eq.trans (congrFun (sw_at es402 (by decide)) 22) (Eq.trans (congrFun (sw_at es399 (by decide)) 22) (Eq.trans qs381_5 (Eq.trans qt41_5 (Eq.trans qs15_5 (Eq.trans (congrFun (sw_at es13 (by decide)) 22) (Eq.trans qs9_5 qs6_5))))))), (Eq.trans (congrFun (sw_at es402 (by decide)) 26) (Eq.trans (congrFun (sw_at es399 (by decide)) 26) (Eq.trans qs381_6 (Eq.trans qt41_6 (Eq.trans qs15_6 (Eq.trans (congrFun (sw_at es13 (by decide)) 26) (Eq.trans qs9_6 qs6_6))))))), (Eq.trans (congrFun (sw_at es402 (by decide)) 27) (Eq.trans (congrFun (sw_at es399 (by decide)) 27) (Eq.trans qs381_7 (Eq.trans qt41_7 (Eq.trans qs15_7 (Eq.trans (congrFun (sw_at es13 (by decide)) 27) (Eq.trans qs9_7 qs6_7))))))), (Eq.trans (congrFun (sw_at es402 (by decide)) 29) (Eq.trans (congrFun (sw_at es399 (by decide)) 29) (Eq.trans qs381_8 (Eq.trans qt41_8 (Eq.trans qs15_8 (Eq.trans (congrFun (sw_at es13 (by decide)) 29) (Eq.trans qs9_8 qs6_8))))))), (Eq.trans (congrFun (sw_at es402 (by decide)) 31) (Eq.trans (congrFun (sw_at es399 (by decide)) 31) (Eq.trans qs381_9 (Eq.trans qt41_9 (Eq.trans qs15_9 (Eq.trans (congrFun (sw_at es13 (by decide)) 31) (Eq.trans qs9_9 qs6_9))))))), (Eq.trans (congrFun (sw_at es402 (by decide)) 33) (Eq.trans (congrFun (sw_at es399 (by decide)) 33) (Eq.trans qs381_10 (Eq.trans qt41_10 (Eq.trans qs15_10 (Eq.trans (congrFun (sw_at es13 (by decide)) 33) (Eq.trans qs9_10 qs6_10))))))), ⟨(fun _ => k373), (Int.le_trans rel41_0 (Int.le_trans k383.2.1 (Int.le_trans (show (s381 0 8).toInt ≤ (s399 0 8).toInt from by rw [(congrFun (sw_at es399 (by decide)) 8)]; exact Int.le_refl _) (show (s399 0 8).toInt ≤ (s402 0 8).toInt from by rw [(congrFun (sw_at es402 (by decide)) 8)]; exact Int.le_refl _))))⟩⟩, by rw [ht]; exact hP, va_K.moved hW.alike (hK.sub (tys' := []) [] rfl), by rw [hAe]; exact hD⟩, by rw [hAe]; exact hS.F ht⟩) hS.2.2 dX10_readCart_175
          · skip
            have g403 := g9
            have k404 := g403
            refine lv_if_ne (tgt := 141) hx hb dX10_readCart_137 (by decide) (fun c405 => ?_) (fun c405 => ?_)
            · first | exact absurd c405 (by decide) | exact absurd (by decide) c405
            rw [hQ]
            exact W.vret hx hb hr (fun t ht hW => ⟨⟨s381, rfl, ⟨hBs381, hFs381, (Eq.trans qs381_0 (Eq.trans qt41_0 (Eq.trans qs15_0 (Eq.trans (congrFun (sw_at es13 (by decide)) 0) (Eq.trans qs9_0 qs6_0))))), (Eq.trans qs381_1 (Eq.trans qt41_1 (Eq.trans qs15_1 (Eq.trans (congrFun (sw_at es13 (by decide)) 5) (Eq.trans qs9_1 qs6_1))))), (Eq.trans qs381_2 (Eq.trans qt41_2 (Eq.trans qs15_2 (Eq.trans (congrFun (sw_at es13 (by decide)) 7) (Eq.trans qs9_2 qs6_2))))), (Eq.trans qs381_3 (Eq.trans qt41_3 (Eq.trans qs15_3 (Eq.trans (congrFun (sw_at es13 (by decide)) 20) (Eq.trans qs9_3 qs6_3))))), (Eq.trans qs381_4 (Eq.trans qt41_4 (Eq.trans qs15_4 (Eq.trans (congrFun (sw_at es13 (by decide)) 21) (Eq.trans qs9_4 qs6_4))))), (Eq.trans qs381_5 (Eq.trans qt41_5 (Eq.trans qs15_5 (Eq.trans (congrFun (sw_at es13 (by decide)) 22) (Eq.trans qs9_5 qs6_5))))), (Eq.trans qs381_6 (Eq.trans qt41_6 (Eq.trans qs15_6 (Eq.trans (congrFun (sw_at es13 (by decide)) 26) (Eq.trans qs9_6 qs6_6))))), (Eq.trans qs381_7 (Eq.trans qt41_7 (Eq.trans qs15_7 (Eq.trans (congrFun (sw_at es13 (by decide)) 27) (Eq.trans qs9_7 qs6_7))))), (Eq.trans qs381_8 (Eq.trans qt41_8 (Eq.trans qs15_8 (Eq.trans (congrFun (sw_at es13 (by decide)) 29) (Eq.trans qs9_8 qs6_8))))), (Eq.trans qs381_9 (Eq.trans qt41_9 (Eq.trans qs15_9 (Eq.trans (congrFun (sw_at es13 (by decide)) 31) (Eq.trans qs9_9 qs6_9))))), (Eq.trans qs381_10 (Eq.trans qt41_10 (Eq.trans qs15_10 (Eq.trans (congrFun (sw_at es13 (by decide)) 33) (Eq.trans qs9_10 qs6_10))))), ⟨(fun z9 => absurd z9 k404), (Int.le_trans rel41_0 k383.2.1)⟩⟩, by rw [ht]; exact hP, va_K.moved hW.alike (hK.sub (tys' := []) [] rfl), by rw [hAe]; exact hD⟩, by rw [hAe]; exact hS.F ht⟩) hS.2.2 dX10_readCart_140
        · skip
          have h406 : Iv 2 2 (t41 0 10) := eq_l c375 (iv_c (by decide) : Iv 2 2 2)
          refine lv_aload_n hx hb dX10_readCart_56 rfl (lv_at hl 3 rfl) ?_
          refine va_get (D := D) (ci := 10) (v := .int (t41 0 11)) (C := RX10) (T := TX10) (N := 38) hx hb hT in_X10 hown hK hP 0 mw_0 rfl 11 (by decide) (hT _ t1273) (fun _ h9 => h9) rfl dX10_readCart_57 ?_
          have h407 : Iv 0 99999 (t41 0 11) := (rm_0_11 hBt41)
          refine lv_aload_n hx hb dX10_readCart_60 rfl (lv_at hl 3 rfl) ?_
          refine va_get (D := D) (ci := 10) (v := .ref (a 6)) (C := RX10) (T := TX10) (N := 38) hx hb hT in_X10 hown hK hP 0 mw_0 rfl 14 (by decide) (hT _ t1276) (fun _ h9 => h9) rfl dX10_readCart_61 ?_
          refine lv_iconst (v := 3) hx hb dX10_readCart_64 (by decide) ?_
          refine va_iald hx hb hK hP 6 0 mw_6 rfl (by unfold vp_in; decide) dX10_readCart_65 ?_
          refine k_top (y := (t41 6 3)) rfl ?_
          refine k_top (y := (st 6 3)) (Eq.trans (congrFun (gt41 6 (nm_1 (by decide) nm_0)) 3) (Eq.trans (congrFun (gs15 6 (nm_1 (by decide) nm_0)) 3) (Eq.trans (Eq.trans (congrFun (sw_it es13) 3) (upd_no (cl_ne h4 (by decide) (by decide)))) (Eq.trans (congrFun (gs9 6 (nm_1 (by decide) nm_0)) 3) (congrFun (gs6 6 (nm_1 (by decide) nm_0)) 3))))) ?_
          have h408 : Iv 0 8 (st 6 3) := (tok_at (rm_6 hB).1 3 0 8 (by decide) (by decide) (by decide))
          refine lv_icmp_ge (tgt := 73) hx hb dX10_readCart_66 (by decide) (fun c409 => ?_) (fun c409 => ?_)
          · skip
            have n410 : (st 6 3).toInt ≤ (t41 0 11).toInt := (i_le c409)
            refine lv_iconst (v := 0) hx hb dX10_readCart_73 (by decide) ?_
            refine lv_istore (lv' := [(4, .int 0), (3, .int r18), (2, .int v2_41), (1, .int z3), (0, .ref (a 0))]) hx hb dX10_readCart_74 hl (by decide) rfl (fun ls hl => ?_)
            refine lv_iload hx hb dX10_readCart_76 (lv_at hl 0 rfl) ?_
            refine lv_if_eq (tgt := 94) hx hb dX10_readCart_78 (by decide) (fun c411 => ?_) (fun c411 => ?_)
            rotate_left
            · first | exact absurd c411 (by decide) | exact absurd (by decide) c411
            refine lv_iload hx hb dX10_readCart_94 (lv_at hl 0 rfl) ?_
            refine lv_if_eq (tgt := 118) hx hb dX10_readCart_96 (by decide) (fun c412 => ?_) (fun c412 => ?_)
            rotate_left
            · first | exact absurd c412 (by decide) | exact absurd (by decide) c412
            refine lv_aload_n hx hb dX10_readCart_118 rfl (lv_at hl 4 rfl) ?_
            refine lv_iconst (v := 0) hx hb dX10_readCart_119 (by decide) ?_
            refine lv_aload_n hx hb dX10_readCart_120 rfl (lv_at hl 4 rfl) ?_
            refine va_get (D := D) (ci := 10) (v := .ref (a 6)) (C := RX10) (T := TX10) (N := 38) hx hb hT in_X10 hown hK hP 0 mw_0 rfl 14 (by decide) (hT _ t1276) (fun _ h9 => h9) rfl dX10_readCart_121 ?_
            refine lv_iconst (v := 3) hx hb dX10_readCart_124 (by decide) ?_
            refine va_iald hx hb hK hP 6 0 mw_6 rfl (by unfold vp_in; decide) dX10_readCart_125 ?_
            refine k_top (y := (t41 6 3)) rfl ?_
            refine k_top (y := (st 6 3)) (Eq.trans (congrFun (gt41 6 (nm_1 (by decide) nm_0)) 3) (Eq.trans (congrFun (gs15 6 (nm_1 (by decide) nm_0)) 3) (Eq.trans (Eq.trans (congrFun (sw_it es13) 3) (upd_no (cl_ne h4 (by decide) (by decide)))) (Eq.trans (congrFun (gs9 6 (nm_1 (by decide) nm_0)) 3) (congrFun (gs6 6 (nm_1 (by decide) nm_0)) 3))))) ?_
            refine lv_iconst (v := 1) hx hb dX10_readCart_126 (by decide) ?_
            refine lv_isub hx hb dX10_readCart_127 ?_
            refine lv_topi (fun z413 ez413 => ?_)
            have h414 : Iv (-1) 7 z413 := iv_sub ez413 h408 (iv_c (by decide) : Iv 1 1 1) (by decide) (by decide) (by decide) (by decide)
            refine ca_i hP hD hS hA (fun hDc => run_V (mc := 0) (ms := 0) (As := [.int 0, .int z413]) (rest := []) S (m_X10_number l D k a t41 sl  0 z413 _  hBt41  ) lkX10_168 ok_X10_number ⟨rfl, rfl, Nat.le_of_ble_eq_true rfl, Nat.le_of_ble_eq_true rfl⟩ (pw_V (ci := 10) (q0 := 0) hK hN rfl mw_0 hP hDc) rfl hl.1 rfl (Nat.le_of_ble_eq_true rfl) ⟨Nat.zero_le _, Nat.zero_le _⟩ dX10_readCart_128) (fun r416 s415 H9 locs9 hs415 hP9 hD9 hS9 => ?_)
            clear hP hD hS
            have hS := hS9
            have hP := hP9
            have hD := hD9
            clear hP9 hD9 hS9
            obtain ⟨hBs415, gs415, qs415_0, qs415_1, qs415_2, qs415_3, qs415_4, qs415_5, qs415_6, qs415_7, qs415_8, qs415_9, qs415_10, fs415⟩ := hs415
            have hFs415 : FR [0, 6] st s415 := fr_ca hFt41 gs415 (sub_1 (List.mem_of_getElem? (i := 0) rfl) sub_0)
            have k417 := fs415
            have k418 : Iv 0 7 r416 := (by rcases k417.2.2 with q9 | q9; (rw [q9]; exact ⟨by decide, by decide⟩); (obtain ⟨y1, y2⟩ := id ((iv_c (by decide) : Iv 0 0 0)); obtain ⟨y3, y4⟩ := id (h414); exact ⟨by omega, by omega⟩))
            refine lv_istore (lv' := [(5, .int r416), (4, .int 0), (3, .int r18), (2, .int v2_41), (1, .int z3), (0, .ref (a 0))]) hx hb dX10_readCart_131 hl (by decide) rfl (fun ls hl => ?_)
            refine lv_aload_n hx hb dX10_readCart_133 rfl (lv_at hl 5 rfl) ?_
            refine ro_V (As := []) (rest := []) S (m_X10_good l D k a s415 sl   _  hBs415  ) lkX10_136 ok_X10_good ⟨rfl, rfl, Nat.le_of_ble_eq_true rfl, Nat.le_of_ble_eq_true rfl⟩ (pw_V (ci := 10) (q0 := 0) hK hN rfl mw_0 hP (hD.weaken (fun _ _ _ _ => trivial))) rfl hl.1 rfl (Nat.le_of_ble_eq_true rfl) ⟨Nat.zero_le _, Nat.zero_le _⟩ dX10_readCart_134 (fun r419 er419 => ?_)
            rcases er419 with ⟨rfl, g9⟩ | ⟨rfl, g9⟩
            · skip
              have g420 := g9
              have k421 := g420
              have k422 := k417.1 k421
              have k423 : t41 0 12 = 0 := k422.1
              refine lv_if_ne (tgt := 141) hx hb dX10_readCart_137 (by decide) (fun c424 => ?_) (fun c424 => ?_)
              rotate_left
              · first | exact absurd c424 (by decide) | exact absurd (by decide) c424
              refine lv_iload_n hx hb dX10_readCart_141 rfl (lv_at hl 3 rfl) ?_
              refine lv_iconst (v := 1) hx hb dX10_readCart_142 (by decide) ?_
              refine lv_iload hx hb dX10_readCart_143 (lv_at hl 0 rfl) ?_
              refine lv_ishl hx hb dX10_readCart_145 ?_
              refine lv_topi (fun z425 ez425 => ?_)
              have h426 : Iv 1 128 z425 := iv_shl 7 ez425 k418 (by decide) (by decide) (by decide)
              refine lv_ior hx hb dX10_readCart_146 ?_
              refine lv_topi (fun z427 ez427 => ?_)
              have h428 : Iv 0 255 z427 := iv_or 8 ez427 iv2_41 (iv_mono (c := 0) (d := 128) h426 (by decide) (by decide)) (by decide) (by decide) (by decide) (by decide)
              refine lv_istore_n (lv' := [(2, .int z427), (5, .int r416), (4, .int 0), (3, .int r18), (1, .int z3), (0, .ref (a 0))]) hx hb dX10_readCart_147 rfl hl (by decide) rfl (fun ls hl => ?_)
              refine lv_aload_n hx hb dX10_readCart_148 rfl (lv_at hl 5 rfl) ?_
              refine va_get (D := D) (ci := 10) (v := .int (s415 0 10)) (C := RX10) (T := TX10) (N := 38) hx hb hT in_X10 hown hK hP 0 mw_0 rfl 10 (by decide) (hT _ t1272) (fun _ h9 => h9) rfl dX10_readCart_149 ?_
              refine lv_iconst (v := 3) hx hb dX10_readCart_152 (by decide) ?_
              refine lv_icmp_ne (tgt := 41) hx hb dX10_readCart_153 (by decide) (fun c429 => ?_) (fun c429 => ?_)
              · skip
                exact ih41 z427 s415 _ _ _ h428 (Int.le_trans rel41_0 k417.2.1) (fun _ => rel41_1 k423) hBs415 (fr_ca gt41 gs415 (sub_1 (List.mem_of_getElem? (i := 0) rfl) sub_0)) (Eq.trans (Eq.trans qs415_0 (Eq.trans qt41_0 (Eq.trans qs15_0 (Eq.trans (congrFun (sw_at es13 (by decide)) 0) (Eq.trans qs9_0 qs6_0))))) (Eq.symm (Eq.trans qs15_0 (Eq.trans (congrFun (sw_at es13 (by decide)) 0) (Eq.trans qs9_0 qs6_0))))) (Eq.trans (Eq.trans qs415_1 (Eq.trans qt41_1 (Eq.trans qs15_1 (Eq.trans (congrFun (sw_at es13 (by decide)) 5) (Eq.trans qs9_1 qs6_1))))) (Eq.symm (Eq.trans qs15_1 (Eq.trans (congrFun (sw_at es13 (by decide)) 5) (Eq.trans qs9_1 qs6_1))))) (Eq.trans (Eq.trans qs415_2 (Eq.trans qt41_2 (Eq.trans qs15_2 (Eq.trans (congrFun (sw_at es13 (by decide)) 7) (Eq.trans qs9_2 qs6_2))))) (Eq.symm (Eq.trans qs15_2 (Eq.trans (congrFun (sw_at es13 (by decide)) 7) (Eq.trans qs9_2 qs6_2))))) (Eq.trans (Eq.trans qs415_3 (Eq.trans qt41_3 (Eq.trans qs15_3 (Eq.trans (congrFun (sw_at es13 (by decide)) 20) (Eq.trans qs9_3 qs6_3))))) (Eq.symm (Eq.trans qs15_3 (Eq.trans (congrFun (sw_at es13 (by decide)) 20) (Eq.trans qs9_3 qs6_3))))) (Eq.trans (Eq.trans qs415_4 (Eq.trans qt41_4 (Eq.trans qs15_4 (Eq.trans (congrFun (sw_at es13 (by decide)) 21) (Eq.trans qs9_4 qs6_4))))) (Eq.symm (Eq.trans qs15_4 (Eq.trans (congrFun (sw_at es13 (by decide)) 21) (Eq.trans qs9_4 qs6_4))))) (Eq.trans (Eq.trans qs415_5 (Eq.trans qt41_5 (Eq.trans qs15_5 (Eq.trans (congrFun (sw_at es13 (by decide)) 22) (Eq.trans qs9_5 qs6_5))))) (Eq.symm (Eq.trans qs15_5 (Eq.trans (congrFun (sw_at es13 (by decide)) 22) (Eq.trans qs9_5 qs6_5))))) (Eq.trans (Eq.trans qs415_6 (Eq.trans qt41_6 (Eq.trans qs15_6 (Eq.trans (congrFun (sw_at es13 (by decide)) 26) (Eq.trans qs9_6 qs6_6))))) (Eq.symm (Eq.trans qs15_6 (Eq.trans (congrFun (sw_at es13 (by decide)) 26) (Eq.trans qs9_6 qs6_6))))) (Eq.trans (Eq.trans qs415_7 (Eq.trans qt41_7 (Eq.trans qs15_7 (Eq.trans (congrFun (sw_at es13 (by decide)) 27) (Eq.trans qs9_7 qs6_7))))) (Eq.symm (Eq.trans qs15_7 (Eq.trans (congrFun (sw_at es13 (by decide)) 27) (Eq.trans qs9_7 qs6_7))))) (Eq.trans (Eq.trans qs415_8 (Eq.trans qt41_8 (Eq.trans qs15_8 (Eq.trans (congrFun (sw_at es13 (by decide)) 29) (Eq.trans qs9_8 qs6_8))))) (Eq.symm (Eq.trans qs15_8 (Eq.trans (congrFun (sw_at es13 (by decide)) 29) (Eq.trans qs9_8 qs6_8))))) (Eq.trans (Eq.trans qs415_9 (Eq.trans qt41_9 (Eq.trans qs15_9 (Eq.trans (congrFun (sw_at es13 (by decide)) 31) (Eq.trans qs9_9 qs6_9))))) (Eq.symm (Eq.trans qs15_9 (Eq.trans (congrFun (sw_at es13 (by decide)) 31) (Eq.trans qs9_9 qs6_9))))) (Eq.trans (Eq.trans qs415_10 (Eq.trans qt41_10 (Eq.trans qs15_10 (Eq.trans (congrFun (sw_at es13 (by decide)) 33) (Eq.trans qs9_10 qs6_10))))) (Eq.symm (Eq.trans qs15_10 (Eq.trans (congrFun (sw_at es13 (by decide)) 33) (Eq.trans qs9_10 qs6_10))))) hP hD hS (lv_sub hl [3, 0, 4, 5] rfl) (by have y1 := k422.2.2.2; have y2 := k422.2.1; rw [show t41 0 10 = t41 0 10 from rfl] at y2; have y3 : (t41 0 8).toInt = (t41 0 8).toInt := congrArg Int32.toInt (rfl); rw [if_neg (by rw [y2]; decide)] at hm41; have y5 := ((rm_0_8 hBs415)).2; by_cases q9 : s415 0 10 = 0; (rw [if_pos q9]; have y4 := y1.1; omega); (rw [if_neg q9]; have y4 := y1.2 q9; omega))
              · skip
                have h430 : Iv 3 3 (s415 0 10) := eq_l c429 (iv_c (by decide) : Iv 3 3 3)
                refine lv_aload_n hx hb dX10_readCart_156 rfl (lv_at hl 5 rfl) ?_
                refine va_get (D := D) (ci := 10) (v := .ref (a 6)) (C := RX10) (T := TX10) (N := 38) hx hb hT in_X10 hown hK hP 0 mw_0 rfl 14 (by decide) (hT _ t1276) (fun _ h9 => h9) rfl dX10_readCart_157 ?_
                refine lv_iload_n hx hb dX10_readCart_160 rfl (lv_at hl 4 rfl) ?_
                refine lv_iconst (v := 1) hx hb dX10_readCart_161 (by decide) ?_
                refine lv_iadd hx hb dX10_readCart_162 ?_
                refine lv_topi (fun z431 ez431 => ?_)
                have h432 : Iv 105 109 z431 := iv_add ez431 h4 (iv_c (by decide) : Iv 1 1 1) (by decide) (by decide) (by decide) (by decide)
                refine lv_iload_n hx hb dX10_readCart_163 rfl (lv_at hl 0 rfl) ?_
                refine c_ist hx hb hK hP hD hS mw_6 ms_6 (iv_in h432 (by decide) (by decide)) dX10_readCart_164 (fun s433 H9 locs9 es433 hP9 hD9 hS9 => ?_)
                clear hP hD hS
                have hS := hS9
                have hP := hP9
                have hD := hD9
                clear hP9 hD9 hS9
                have hBs433 : MB s433 := by rw [es433]; exact mb_sw hBs415 (fok_bd (hBs415 6) (bd_f h432 (by decide) (by decide)) (iv_full z427))
                have hFs433 : FR [0, 6] st s433 := fr_sw hFs415 (List.mem_of_getElem? (i := 1) rfl) es433
                refine lv_aload_n hx hb dX10_readCart_165 rfl (lv_at hl 5 rfl) ?_
                refine va_get (D := D) (ci := 10) (v := .ref (a 6)) (C := RX10) (T := TX10) (N := 38) hx hb hT in_X10 hown hK hP 0 mw_0 rfl 14 (by decide) (hT _ t1276) (fun _ h9 => h9) rfl dX10_readCart_166 ?_
                refine lv_iconst (v := 4) hx hb dX10_readCart_169 (by decide) ?_
                refine lv_dup2_11 hx hb dX10_readCart_170 rfl rfl ?_
                refine va_iald hx hb hK hP 6 0 mw_6 rfl (by unfold vp_in; decide) dX10_readCart_171 ?_
                refine k_top (y := (s433 6 4)) rfl ?_
                refine k_top (y := (st 6 4)) (Eq.trans (Eq.trans (congrFun (sw_it es433) 4) (upd_no (cl_ne h432 (by decide) (by decide)))) (Eq.trans (congrFun (gs415 6 (nm_1 (by decide) nm_0)) 4) (Eq.trans (congrFun (gt41 6 (nm_1 (by decide) nm_0)) 4) (Eq.trans (congrFun (gs15 6 (nm_1 (by decide) nm_0)) 4) (Eq.trans (Eq.trans (congrFun (sw_it es13) 4) (upd_no (cl_ne h4 (by decide) (by decide)))) (Eq.trans (congrFun (gs9 6 (nm_1 (by decide) nm_0)) 4) (congrFun (gs6 6 (nm_1 (by decide) nm_0)) 4))))))) ?_
                refine lv_iconst (v := 1) hx hb dX10_readCart_172 (by decide) ?_
                refine lv_iadd hx hb dX10_readCart_173 ?_
                refine lv_topi (fun z434 ez434 => ?_)
                have h435 : Iv 1 3 z434 := iv_add ez434 hj (iv_c (by decide) : Iv 1 1 1) (by decide) (by decide) (by decide) (by decide)
                refine c_ist hx hb hK hP hD hS mw_6 ms_6 (by unfold vp_in; decide) dX10_readCart_174 (fun s436 H9 locs9 es436 hP9 hD9 hS9 => ?_)
                clear hP hD hS
                have hS := hS9
                have hP := hP9
                have hD := hD9
                clear hP9 hD9 hS9
                have hBs436 : MB s436 := by rw [es436]; exact mb_sw hBs433 (fok_bd (i := 4) (hBs433 6) ⟨by decide, by decide, by decide, by decide⟩ (iv_mono (c := 0) (d := 3) h435 (by decide) (by decide)))
                have hFs436 : FR [0, 6] st s436 := fr_sw hFs433 (List.mem_of_getElem? (i := 1) rfl) es436
                rw [hQ]
                exact W.vret hx hb hr (fun t ht hW => ⟨⟨s436, rfl, ⟨hBs436, hFs436, (Eq.trans (congrFun (sw_at es436 (by decide)) 0) (Eq.trans (congrFun (sw_at es433 (by decide)) 0) (Eq.trans qs415_0 (Eq.trans qt41_0 (Eq.trans qs15_0 (Eq.trans (congrFun (sw_at es13 (by decide)) 0) (Eq.trans qs9_0 qs6_0))))))), (Eq.trans (congrFun (sw_at es436 (by decide)) 5) (Eq.trans (congrFun (sw_at es433 (by decide)) 5) (Eq.trans qs415_1 (Eq.trans qt41_1 (Eq.trans qs15_1 (Eq.trans (congrFun (sw_at es13 (by decide)) 5) (Eq.trans qs9_1 qs6_1))))))), (Eq.trans (congrFun (sw_at es436 (by decide)) 7) (Eq.trans (congrFun (sw_at es433 (by decide)) 7) (Eq.trans qs415_2 (Eq.trans qt41_2 (Eq.trans qs15_2 (Eq.trans (congrFun (sw_at es13 (by decide)) 7) (Eq.trans qs9_2 qs6_2))))))), (Eq.trans (congrFun (sw_at es436 (by decide)) 20) (Eq.trans (congrFun (sw_at es433 (by decide)) 20) (Eq.trans qs415_3 (Eq.trans qt41_3 (Eq.trans qs15_3 (Eq.trans (congrFun (sw_at es13 (by decide)) 20) (Eq.trans qs9_3 qs6_3))))))), (Eq.trans (congrFun (sw_at es436 (by decide)) 21) (Eq.trans (congrFun (sw_at es433 (by decide)) 21) (Eq.trans qs415_4 (Eq.trans qt41_4 (Eq.trans qs15_4 (Eq.trans (congrFun (sw_at es13 (by decide)) 21) (Eq.trans qs9_4 qs6_4))))))), (Eq.trans (congrFun (sw_at es436 (by decide)) 22) (Eq.trans (congrFun (sw_at es433 (by decide)) 22) (Eq.trans qs415_5 (Eq.trans qt41_5 (Eq.trans qs15_5 (Eq.trans (congrFun (sw_at es13 (by decide)) 22) (Eq.trans qs9_5 qs6_5))))))), (Eq.trans (congrFun (sw_at es436 (by decide)) 26) (Eq.trans (congrFun (sw_at es433 (by decide)) 26) (Eq.trans qs415_6 (Eq.trans qt41_6 (Eq.trans qs15_6 (Eq.trans (congrFun (sw_at es13 (by decide)) 26) (Eq.trans qs9_6 qs6_6))))))), (Eq.trans (congrFun (sw_at es436 (by decide)) 27) (Eq.trans (congrFun (sw_at es433 (by decide)) 27) (Eq.trans qs415_7 (Eq.trans qt41_7 (Eq.trans qs15_7 (Eq.trans (congrFun (sw_at es13 (by decide)) 27) (Eq.trans qs9_7 qs6_7))))))), (Eq.trans (congrFun (sw_at es436 (by decide)) 29) (Eq.trans (congrFun (sw_at es433 (by decide)) 29) (Eq.trans qs415_8 (Eq.trans qt41_8 (Eq.trans qs15_8 (Eq.trans (congrFun (sw_at es13 (by decide)) 29) (Eq.trans qs9_8 qs6_8))))))), (Eq.trans (congrFun (sw_at es436 (by decide)) 31) (Eq.trans (congrFun (sw_at es433 (by decide)) 31) (Eq.trans qs415_9 (Eq.trans qt41_9 (Eq.trans qs15_9 (Eq.trans (congrFun (sw_at es13 (by decide)) 31) (Eq.trans qs9_9 qs6_9))))))), (Eq.trans (congrFun (sw_at es436 (by decide)) 33) (Eq.trans (congrFun (sw_at es433 (by decide)) 33) (Eq.trans qs415_10 (Eq.trans qt41_10 (Eq.trans qs15_10 (Eq.trans (congrFun (sw_at es13 (by decide)) 33) (Eq.trans qs9_10 qs6_10))))))), ⟨(fun _ => k373), (Int.le_trans rel41_0 (Int.le_trans k417.2.1 (Int.le_trans (show (s415 0 8).toInt ≤ (s433 0 8).toInt from by rw [(congrFun (sw_at es433 (by decide)) 8)]; exact Int.le_refl _) (show (s433 0 8).toInt ≤ (s436 0 8).toInt from by rw [(congrFun (sw_at es436 (by decide)) 8)]; exact Int.le_refl _))))⟩⟩, by rw [ht]; exact hP, va_K.moved hW.alike (hK.sub (tys' := []) [] rfl), by rw [hAe]; exact hD⟩, by rw [hAe]; exact hS.F ht⟩) hS.2.2 dX10_readCart_175
            · skip
              have g437 := g9
              have k438 := g437
              refine lv_if_ne (tgt := 141) hx hb dX10_readCart_137 (by decide) (fun c439 => ?_) (fun c439 => ?_)
              · first | exact absurd c439 (by decide) | exact absurd (by decide) c439
              rw [hQ]
              exact W.vret hx hb hr (fun t ht hW => ⟨⟨s415, rfl, ⟨hBs415, hFs415, (Eq.trans qs415_0 (Eq.trans qt41_0 (Eq.trans qs15_0 (Eq.trans (congrFun (sw_at es13 (by decide)) 0) (Eq.trans qs9_0 qs6_0))))), (Eq.trans qs415_1 (Eq.trans qt41_1 (Eq.trans qs15_1 (Eq.trans (congrFun (sw_at es13 (by decide)) 5) (Eq.trans qs9_1 qs6_1))))), (Eq.trans qs415_2 (Eq.trans qt41_2 (Eq.trans qs15_2 (Eq.trans (congrFun (sw_at es13 (by decide)) 7) (Eq.trans qs9_2 qs6_2))))), (Eq.trans qs415_3 (Eq.trans qt41_3 (Eq.trans qs15_3 (Eq.trans (congrFun (sw_at es13 (by decide)) 20) (Eq.trans qs9_3 qs6_3))))), (Eq.trans qs415_4 (Eq.trans qt41_4 (Eq.trans qs15_4 (Eq.trans (congrFun (sw_at es13 (by decide)) 21) (Eq.trans qs9_4 qs6_4))))), (Eq.trans qs415_5 (Eq.trans qt41_5 (Eq.trans qs15_5 (Eq.trans (congrFun (sw_at es13 (by decide)) 22) (Eq.trans qs9_5 qs6_5))))), (Eq.trans qs415_6 (Eq.trans qt41_6 (Eq.trans qs15_6 (Eq.trans (congrFun (sw_at es13 (by decide)) 26) (Eq.trans qs9_6 qs6_6))))), (Eq.trans qs415_7 (Eq.trans qt41_7 (Eq.trans qs15_7 (Eq.trans (congrFun (sw_at es13 (by decide)) 27) (Eq.trans qs9_7 qs6_7))))), (Eq.trans qs415_8 (Eq.trans qt41_8 (Eq.trans qs15_8 (Eq.trans (congrFun (sw_at es13 (by decide)) 29) (Eq.trans qs9_8 qs6_8))))), (Eq.trans qs415_9 (Eq.trans qt41_9 (Eq.trans qs15_9 (Eq.trans (congrFun (sw_at es13 (by decide)) 31) (Eq.trans qs9_9 qs6_9))))), (Eq.trans qs415_10 (Eq.trans qt41_10 (Eq.trans qs15_10 (Eq.trans (congrFun (sw_at es13 (by decide)) 33) (Eq.trans qs9_10 qs6_10))))), ⟨(fun z9 => absurd z9 k438), (Int.le_trans rel41_0 k417.2.1)⟩⟩, by rw [ht]; exact hP, va_K.moved hW.alike (hK.sub (tys' := []) [] rfl), by rw [hAe]; exact hD⟩, by rw [hAe]; exact hS.F ht⟩) hS.2.2 dX10_readCart_140
          · skip
            have n440 : (t41 0 11).toInt < (st 6 3).toInt := (i_nle c409)
            have h441 : Iv 0 7 (t41 0 11) := lt_l h407 n440 h408 (by decide)
            have h442 : Iv 1 8 (st 6 3) := lt_r h407 n440 h408 (by decide)
            refine lv_iconst (v := 1) hx hb dX10_readCart_69 (by decide) ?_
            refine lv_goto (tgt := 74) hx hb dX10_readCart_70 (by decide) ?_
            refine lv_istore (lv' := [(4, .int 1), (3, .int r18), (2, .int v2_41), (1, .int z3), (0, .ref (a 0))]) hx hb dX10_readCart_74 hl (by decide) rfl (fun ls hl => ?_)
            refine lv_iload hx hb dX10_readCart_76 (lv_at hl 0 rfl) ?_
            refine lv_if_eq (tgt := 94) hx hb dX10_readCart_78 (by decide) (fun c443 => ?_) (fun c443 => ?_)
            · first | exact absurd c443 (by decide) | exact absurd (by decide) c443
            refine lv_iload_n hx hb dX10_readCart_81 rfl (lv_at hl 2 rfl) ?_
            refine ro_S (As := [.int v2_41]) (rest := []) S (m_X10_bits l D k a t41 sl  v2_41 _  hBt41  ) lkX10_190 ok_X10_bits ⟨rfl, rfl, Nat.le_of_ble_eq_true rfl, Nat.le_of_ble_eq_true rfl⟩ (pw_S hK hN hP (hD.weaken (fun _ _ _ _ => trivial))) rfl hl.1 rfl (Nat.le_of_ble_eq_true rfl) ⟨Nat.zero_le _, Nat.zero_le _⟩ dX10_readCart_82 (fun r444 er444 => ?_)
            have k445 := er444
            refine lv_iconst (v := 4) hx hb dX10_readCart_85 (by decide) ?_
            refine lv_icmp_ne (tgt := 94) hx hb dX10_readCart_86 (by decide) (fun c446 => ?_) (fun c446 => ?_)
            · skip
              refine lv_iload hx hb dX10_readCart_94 (lv_at hl 0 rfl) ?_
              refine lv_if_eq (tgt := 118) hx hb dX10_readCart_96 (by decide) (fun c447 => ?_) (fun c447 => ?_)
              · first | exact absurd c447 (by decide) | exact absurd (by decide) c447
              refine lv_iload_n hx hb dX10_readCart_99 rfl (lv_at hl 2 rfl) ?_
              refine lv_iload_n hx hb dX10_readCart_100 rfl (lv_at hl 1 rfl) ?_
              refine lv_ior hx hb dX10_readCart_101 ?_
              refine lv_topi (fun z448 ez448 => ?_)
              refine lv_aload_n hx hb dX10_readCart_102 rfl (lv_at hl 4 rfl) ?_
              refine va_get (D := D) (ci := 10) (v := .int (t41 0 11)) (C := RX10) (T := TX10) (N := 38) hx hb hT in_X10 hown hK hP 0 mw_0 rfl 11 (by decide) (hT _ t1273) (fun _ h9 => h9) rfl dX10_readCart_103 ?_
              refine ro_S (As := [.int z448, .int (t41 0 11)]) (rest := []) S (m_X10_bit l D k a t41 sl  z448 (t41 0 11) _  hBt41  ) lkX10_193 ok_X10_bit ⟨rfl, rfl, Nat.le_of_ble_eq_true rfl, Nat.le_of_ble_eq_true rfl⟩ (pw_S hK hN hP (hD.weaken (fun _ _ _ _ => trivial))) rfl hl.1 rfl (Nat.le_of_ble_eq_true rfl) ⟨Nat.zero_le _, Nat.zero_le _⟩ dX10_readCart_106 (fun r449 er449 => ?_)
              have h450 : Iv 0 1 r449 := er449.1
              have k451 := er449.2
              refine lv_iconst (v := 1) hx hb dX10_readCart_109 (by decide) ?_
              refine lv_icmp_ne (tgt := 118) hx hb dX10_readCart_110 (by decide) (fun c452 => ?_) (fun c452 => ?_)
              · skip
                have h453 : Iv 0 0 r449 := ne_hi h450 (show ¬ r449 = 1 from c452) (by decide) (by decide)
                refine lv_aload_n hx hb dX10_readCart_118 rfl (lv_at hl 4 rfl) ?_
                refine lv_iconst (v := 0) hx hb dX10_readCart_119 (by decide) ?_
                refine lv_aload_n hx hb dX10_readCart_120 rfl (lv_at hl 4 rfl) ?_
                refine va_get (D := D) (ci := 10) (v := .ref (a 6)) (C := RX10) (T := TX10) (N := 38) hx hb hT in_X10 hown hK hP 0 mw_0 rfl 14 (by decide) (hT _ t1276) (fun _ h9 => h9) rfl dX10_readCart_121 ?_
                refine lv_iconst (v := 3) hx hb dX10_readCart_124 (by decide) ?_
                refine va_iald hx hb hK hP 6 0 mw_6 rfl (by unfold vp_in; decide) dX10_readCart_125 ?_
                refine k_top (y := (t41 6 3)) rfl ?_
                refine k_top (y := (st 6 3)) (Eq.trans (congrFun (gt41 6 (nm_1 (by decide) nm_0)) 3) (Eq.trans (congrFun (gs15 6 (nm_1 (by decide) nm_0)) 3) (Eq.trans (Eq.trans (congrFun (sw_it es13) 3) (upd_no (cl_ne h4 (by decide) (by decide)))) (Eq.trans (congrFun (gs9 6 (nm_1 (by decide) nm_0)) 3) (congrFun (gs6 6 (nm_1 (by decide) nm_0)) 3))))) ?_
                refine lv_iconst (v := 1) hx hb dX10_readCart_126 (by decide) ?_
                refine lv_isub hx hb dX10_readCart_127 ?_
                refine lv_topi (fun z454 ez454 => ?_)
                have h455 : Iv 0 7 z454 := iv_sub ez454 h442 (iv_c (by decide) : Iv 1 1 1) (by decide) (by decide) (by decide) (by decide)
                refine ca_i hP hD hS hA (fun hDc => run_V (mc := 0) (ms := 0) (As := [.int 0, .int z454]) (rest := []) S (m_X10_number l D k a t41 sl  0 z454 _  hBt41  ) lkX10_168 ok_X10_number ⟨rfl, rfl, Nat.le_of_ble_eq_true rfl, Nat.le_of_ble_eq_true rfl⟩ (pw_V (ci := 10) (q0 := 0) hK hN rfl mw_0 hP hDc) rfl hl.1 rfl (Nat.le_of_ble_eq_true rfl) ⟨Nat.zero_le _, Nat.zero_le _⟩ dX10_readCart_128) (fun r457 s456 H9 locs9 hs456 hP9 hD9 hS9 => ?_)
                clear hP hD hS
                have hS := hS9
                have hP := hP9
                have hD := hD9
                clear hP9 hD9 hS9
                obtain ⟨hBs456, gs456, qs456_0, qs456_1, qs456_2, qs456_3, qs456_4, qs456_5, qs456_6, qs456_7, qs456_8, qs456_9, qs456_10, fs456⟩ := hs456
                have hFs456 : FR [0, 6] st s456 := fr_ca hFt41 gs456 (sub_1 (List.mem_of_getElem? (i := 0) rfl) sub_0)
                have k458 := fs456
                have k459 : Iv 0 7 r457 := (by rcases k458.2.2 with q9 | q9; (rw [q9]; exact ⟨by decide, by decide⟩); (obtain ⟨y1, y2⟩ := id ((iv_c (by decide) : Iv 0 0 0)); obtain ⟨y3, y4⟩ := id (h455); exact ⟨by omega, by omega⟩))
                refine lv_istore (lv' := [(5, .int r457), (4, .int 1), (3, .int r18), (2, .int v2_41), (1, .int z3), (0, .ref (a 0))]) hx hb dX10_readCart_131 hl (by decide) rfl (fun ls hl => ?_)
                refine lv_aload_n hx hb dX10_readCart_133 rfl (lv_at hl 5 rfl) ?_
                refine ro_V (As := []) (rest := []) S (m_X10_good l D k a s456 sl   _  hBs456  ) lkX10_136 ok_X10_good ⟨rfl, rfl, Nat.le_of_ble_eq_true rfl, Nat.le_of_ble_eq_true rfl⟩ (pw_V (ci := 10) (q0 := 0) hK hN rfl mw_0 hP (hD.weaken (fun _ _ _ _ => trivial))) rfl hl.1 rfl (Nat.le_of_ble_eq_true rfl) ⟨Nat.zero_le _, Nat.zero_le _⟩ dX10_readCart_134 (fun r460 er460 => ?_)
                rcases er460 with ⟨rfl, g9⟩ | ⟨rfl, g9⟩
                · skip
                  have g461 := g9
                  have k462 := g461
                  have k463 := k458.1 k462
                  have k464 : t41 0 12 = 0 := k463.1
                  refine lv_if_ne (tgt := 141) hx hb dX10_readCart_137 (by decide) (fun c465 => ?_) (fun c465 => ?_)
                  rotate_left
                  · first | exact absurd c465 (by decide) | exact absurd (by decide) c465
                  refine lv_iload_n hx hb dX10_readCart_141 rfl (lv_at hl 3 rfl) ?_
                  refine lv_iconst (v := 1) hx hb dX10_readCart_142 (by decide) ?_
                  refine lv_iload hx hb dX10_readCart_143 (lv_at hl 0 rfl) ?_
                  refine lv_ishl hx hb dX10_readCart_145 ?_
                  refine lv_topi (fun z466 ez466 => ?_)
                  have h467 : Iv 1 128 z466 := iv_shl 7 ez466 k459 (by decide) (by decide) (by decide)
                  refine lv_ior hx hb dX10_readCart_146 ?_
                  refine lv_topi (fun z468 ez468 => ?_)
                  have h469 : Iv 0 255 z468 := iv_or 8 ez468 iv2_41 (iv_mono (c := 0) (d := 128) h467 (by decide) (by decide)) (by decide) (by decide) (by decide) (by decide)
                  refine lv_istore_n (lv' := [(2, .int z468), (5, .int r457), (4, .int 1), (3, .int r18), (1, .int z3), (0, .ref (a 0))]) hx hb dX10_readCart_147 rfl hl (by decide) rfl (fun ls hl => ?_)
                  refine lv_aload_n hx hb dX10_readCart_148 rfl (lv_at hl 5 rfl) ?_
                  refine va_get (D := D) (ci := 10) (v := .int (s456 0 10)) (C := RX10) (T := TX10) (N := 38) hx hb hT in_X10 hown hK hP 0 mw_0 rfl 10 (by decide) (hT _ t1272) (fun _ h9 => h9) rfl dX10_readCart_149 ?_
                  refine lv_iconst (v := 3) hx hb dX10_readCart_152 (by decide) ?_
                  refine lv_icmp_ne (tgt := 41) hx hb dX10_readCart_153 (by decide) (fun c470 => ?_) (fun c470 => ?_)
                  · skip
                    exact ih41 z468 s456 _ _ _ h469 (Int.le_trans rel41_0 k458.2.1) (fun _ => rel41_1 k464) hBs456 (fr_ca gt41 gs456 (sub_1 (List.mem_of_getElem? (i := 0) rfl) sub_0)) (Eq.trans (Eq.trans qs456_0 (Eq.trans qt41_0 (Eq.trans qs15_0 (Eq.trans (congrFun (sw_at es13 (by decide)) 0) (Eq.trans qs9_0 qs6_0))))) (Eq.symm (Eq.trans qs15_0 (Eq.trans (congrFun (sw_at es13 (by decide)) 0) (Eq.trans qs9_0 qs6_0))))) (Eq.trans (Eq.trans qs456_1 (Eq.trans qt41_1 (Eq.trans qs15_1 (Eq.trans (congrFun (sw_at es13 (by decide)) 5) (Eq.trans qs9_1 qs6_1))))) (Eq.symm (Eq.trans qs15_1 (Eq.trans (congrFun (sw_at es13 (by decide)) 5) (Eq.trans qs9_1 qs6_1))))) (Eq.trans (Eq.trans qs456_2 (Eq.trans qt41_2 (Eq.trans qs15_2 (Eq.trans (congrFun (sw_at es13 (by decide)) 7) (Eq.trans qs9_2 qs6_2))))) (Eq.symm (Eq.trans qs15_2 (Eq.trans (congrFun (sw_at es13 (by decide)) 7) (Eq.trans qs9_2 qs6_2))))) (Eq.trans (Eq.trans qs456_3 (Eq.trans qt41_3 (Eq.trans qs15_3 (Eq.trans (congrFun (sw_at es13 (by decide)) 20) (Eq.trans qs9_3 qs6_3))))) (Eq.symm (Eq.trans qs15_3 (Eq.trans (congrFun (sw_at es13 (by decide)) 20) (Eq.trans qs9_3 qs6_3))))) (Eq.trans (Eq.trans qs456_4 (Eq.trans qt41_4 (Eq.trans qs15_4 (Eq.trans (congrFun (sw_at es13 (by decide)) 21) (Eq.trans qs9_4 qs6_4))))) (Eq.symm (Eq.trans qs15_4 (Eq.trans (congrFun (sw_at es13 (by decide)) 21) (Eq.trans qs9_4 qs6_4))))) (Eq.trans (Eq.trans qs456_5 (Eq.trans qt41_5 (Eq.trans qs15_5 (Eq.trans (congrFun (sw_at es13 (by decide)) 22) (Eq.trans qs9_5 qs6_5))))) (Eq.symm (Eq.trans qs15_5 (Eq.trans (congrFun (sw_at es13 (by decide)) 22) (Eq.trans qs9_5 qs6_5))))) (Eq.trans (Eq.trans qs456_6 (Eq.trans qt41_6 (Eq.trans qs15_6 (Eq.trans (congrFun (sw_at es13 (by decide)) 26) (Eq.trans qs9_6 qs6_6))))) (Eq.symm (Eq.trans qs15_6 (Eq.trans (congrFun (sw_at es13 (by decide)) 26) (Eq.trans qs9_6 qs6_6))))) (Eq.trans (Eq.trans qs456_7 (Eq.trans qt41_7 (Eq.trans qs15_7 (Eq.trans (congrFun (sw_at es13 (by decide)) 27) (Eq.trans qs9_7 qs6_7))))) (Eq.symm (Eq.trans qs15_7 (Eq.trans (congrFun (sw_at es13 (by decide)) 27) (Eq.trans qs9_7 qs6_7))))) (Eq.trans (Eq.trans qs456_8 (Eq.trans qt41_8 (Eq.trans qs15_8 (Eq.trans (congrFun (sw_at es13 (by decide)) 29) (Eq.trans qs9_8 qs6_8))))) (Eq.symm (Eq.trans qs15_8 (Eq.trans (congrFun (sw_at es13 (by decide)) 29) (Eq.trans qs9_8 qs6_8))))) (Eq.trans (Eq.trans qs456_9 (Eq.trans qt41_9 (Eq.trans qs15_9 (Eq.trans (congrFun (sw_at es13 (by decide)) 31) (Eq.trans qs9_9 qs6_9))))) (Eq.symm (Eq.trans qs15_9 (Eq.trans (congrFun (sw_at es13 (by decide)) 31) (Eq.trans qs9_9 qs6_9))))) (Eq.trans (Eq.trans qs456_10 (Eq.trans qt41_10 (Eq.trans qs15_10 (Eq.trans (congrFun (sw_at es13 (by decide)) 33) (Eq.trans qs9_10 qs6_10))))) (Eq.symm (Eq.trans qs15_10 (Eq.trans (congrFun (sw_at es13 (by decide)) 33) (Eq.trans qs9_10 qs6_10))))) hP hD hS (lv_sub hl [3, 0, 4, 5] rfl) (by have y1 := k463.2.2.2; have y2 := k463.2.1; rw [show t41 0 10 = t41 0 10 from rfl] at y2; have y3 : (t41 0 8).toInt = (t41 0 8).toInt := congrArg Int32.toInt (rfl); rw [if_neg (by rw [y2]; decide)] at hm41; have y5 := ((rm_0_8 hBs456)).2; by_cases q9 : s456 0 10 = 0; (rw [if_pos q9]; have y4 := y1.1; omega); (rw [if_neg q9]; have y4 := y1.2 q9; omega))
                  · skip
                    have h471 : Iv 3 3 (s456 0 10) := eq_l c470 (iv_c (by decide) : Iv 3 3 3)
                    refine lv_aload_n hx hb dX10_readCart_156 rfl (lv_at hl 5 rfl) ?_
                    refine va_get (D := D) (ci := 10) (v := .ref (a 6)) (C := RX10) (T := TX10) (N := 38) hx hb hT in_X10 hown hK hP 0 mw_0 rfl 14 (by decide) (hT _ t1276) (fun _ h9 => h9) rfl dX10_readCart_157 ?_
                    refine lv_iload_n hx hb dX10_readCart_160 rfl (lv_at hl 4 rfl) ?_
                    refine lv_iconst (v := 1) hx hb dX10_readCart_161 (by decide) ?_
                    refine lv_iadd hx hb dX10_readCart_162 ?_
                    refine lv_topi (fun z472 ez472 => ?_)
                    have h473 : Iv 105 109 z472 := iv_add ez472 h4 (iv_c (by decide) : Iv 1 1 1) (by decide) (by decide) (by decide) (by decide)
                    refine lv_iload_n hx hb dX10_readCart_163 rfl (lv_at hl 0 rfl) ?_
                    refine c_ist hx hb hK hP hD hS mw_6 ms_6 (iv_in h473 (by decide) (by decide)) dX10_readCart_164 (fun s474 H9 locs9 es474 hP9 hD9 hS9 => ?_)
                    clear hP hD hS
                    have hS := hS9
                    have hP := hP9
                    have hD := hD9
                    clear hP9 hD9 hS9
                    have hBs474 : MB s474 := by rw [es474]; exact mb_sw hBs456 (fok_bd (hBs456 6) (bd_f h473 (by decide) (by decide)) (iv_full z468))
                    have hFs474 : FR [0, 6] st s474 := fr_sw hFs456 (List.mem_of_getElem? (i := 1) rfl) es474
                    refine lv_aload_n hx hb dX10_readCart_165 rfl (lv_at hl 5 rfl) ?_
                    refine va_get (D := D) (ci := 10) (v := .ref (a 6)) (C := RX10) (T := TX10) (N := 38) hx hb hT in_X10 hown hK hP 0 mw_0 rfl 14 (by decide) (hT _ t1276) (fun _ h9 => h9) rfl dX10_readCart_166 ?_
                    refine lv_iconst (v := 4) hx hb dX10_readCart_169 (by decide) ?_
                    refine lv_dup2_11 hx hb dX10_readCart_170 rfl rfl ?_
                    refine va_iald hx hb hK hP 6 0 mw_6 rfl (by unfold vp_in; decide) dX10_readCart_171 ?_
                    refine k_top (y := (s474 6 4)) rfl ?_
                    refine k_top (y := (st 6 4)) (Eq.trans (Eq.trans (congrFun (sw_it es474) 4) (upd_no (cl_ne h473 (by decide) (by decide)))) (Eq.trans (congrFun (gs456 6 (nm_1 (by decide) nm_0)) 4) (Eq.trans (congrFun (gt41 6 (nm_1 (by decide) nm_0)) 4) (Eq.trans (congrFun (gs15 6 (nm_1 (by decide) nm_0)) 4) (Eq.trans (Eq.trans (congrFun (sw_it es13) 4) (upd_no (cl_ne h4 (by decide) (by decide)))) (Eq.trans (congrFun (gs9 6 (nm_1 (by decide) nm_0)) 4) (congrFun (gs6 6 (nm_1 (by decide) nm_0)) 4))))))) ?_
                    refine lv_iconst (v := 1) hx hb dX10_readCart_172 (by decide) ?_
                    refine lv_iadd hx hb dX10_readCart_173 ?_
                    refine lv_topi (fun z475 ez475 => ?_)
                    have h476 : Iv 1 3 z475 := iv_add ez475 hj (iv_c (by decide) : Iv 1 1 1) (by decide) (by decide) (by decide) (by decide)
                    refine c_ist hx hb hK hP hD hS mw_6 ms_6 (by unfold vp_in; decide) dX10_readCart_174 (fun s477 H9 locs9 es477 hP9 hD9 hS9 => ?_)
                    clear hP hD hS
                    have hS := hS9
                    have hP := hP9
                    have hD := hD9
                    clear hP9 hD9 hS9
                    have hBs477 : MB s477 := by rw [es477]; exact mb_sw hBs474 (fok_bd (i := 4) (hBs474 6) ⟨by decide, by decide, by decide, by decide⟩ (iv_mono (c := 0) (d := 3) h476 (by decide) (by decide)))
                    have hFs477 : FR [0, 6] st s477 := fr_sw hFs474 (List.mem_of_getElem? (i := 1) rfl) es477
                    rw [hQ]
                    exact W.vret hx hb hr (fun t ht hW => ⟨⟨s477, rfl, ⟨hBs477, hFs477, (Eq.trans (congrFun (sw_at es477 (by decide)) 0) (Eq.trans (congrFun (sw_at es474 (by decide)) 0) (Eq.trans qs456_0 (Eq.trans qt41_0 (Eq.trans qs15_0 (Eq.trans (congrFun (sw_at es13 (by decide)) 0) (Eq.trans qs9_0 qs6_0))))))), (Eq.trans (congrFun (sw_at es477 (by decide)) 5) (Eq.trans (congrFun (sw_at es474 (by decide)) 5) (Eq.trans qs456_1 (Eq.trans qt41_1 (Eq.trans qs15_1 (Eq.trans (congrFun (sw_at es13 (by decide)) 5) (Eq.trans qs9_1 qs6_1))))))), (Eq.trans (congrFun (sw_at es477 (by decide)) 7) (Eq.trans (congrFun (sw_at es474 (by decide)) 7) (Eq.trans qs456_2 (Eq.trans qt41_2 (Eq.trans qs15_2 (Eq.trans (congrFun (sw_at es13 (by decide)) 7) (Eq.trans qs9_2 qs6_2))))))), (Eq.trans (congrFun (sw_at es477 (by decide)) 20) (Eq.trans (congrFun (sw_at es474 (by decide)) 20) (Eq.trans qs456_3 (Eq.trans qt41_3 (Eq.trans qs15_3 (Eq.trans (congrFun (sw_at es13 (by decide)) 20) (Eq.trans qs9_3 qs6_3))))))), (Eq.trans (congrFun (sw_at es477 (by decide)) 21) (Eq.trans (congrFun (sw_at es474 (by decide)) 21) (Eq.trans qs456_4 (Eq.trans qt41_4 (Eq.trans qs15_4 (Eq.trans (congrFun (sw_at es13 (by decide)) 21) (Eq.trans qs9_4 qs6_4))))))), (Eq.trans (congrFun (sw_at es477 (by decide)) 22) (Eq.trans (congrFun (sw_at es474 (by decide)) 22) (Eq.trans qs456_5 (Eq.trans qt41_5 (Eq.trans qs15_5 (Eq.trans (congrFun (sw_at es13 (by decide)) 22) (Eq.trans qs9_5 qs6_5))))))), (Eq.trans (congrFun (sw_at es477 (by decide)) 26) (Eq.trans (congrFun (sw_at es474 (by decide)) 26) (Eq.trans qs456_6 (Eq.trans qt41_6 (Eq.trans qs15_6 (Eq.trans (congrFun (sw_at es13 (by decide)) 26) (Eq.trans qs9_6 qs6_6))))))), (Eq.trans (congrFun (sw_at es477 (by decide)) 27) (Eq.trans (congrFun (sw_at es474 (by decide)) 27) (Eq.trans qs456_7 (Eq.trans qt41_7 (Eq.trans qs15_7 (Eq.trans (congrFun (sw_at es13 (by decide)) 27) (Eq.trans qs9_7 qs6_7))))))), (Eq.trans (congrFun (sw_at es477 (by decide)) 29) (Eq.trans (congrFun (sw_at es474 (by decide)) 29) (Eq.trans qs456_8 (Eq.trans qt41_8 (Eq.trans qs15_8 (Eq.trans (congrFun (sw_at es13 (by decide)) 29) (Eq.trans qs9_8 qs6_8))))))), (Eq.trans (congrFun (sw_at es477 (by decide)) 31) (Eq.trans (congrFun (sw_at es474 (by decide)) 31) (Eq.trans qs456_9 (Eq.trans qt41_9 (Eq.trans qs15_9 (Eq.trans (congrFun (sw_at es13 (by decide)) 31) (Eq.trans qs9_9 qs6_9))))))), (Eq.trans (congrFun (sw_at es477 (by decide)) 33) (Eq.trans (congrFun (sw_at es474 (by decide)) 33) (Eq.trans qs456_10 (Eq.trans qt41_10 (Eq.trans qs15_10 (Eq.trans (congrFun (sw_at es13 (by decide)) 33) (Eq.trans qs9_10 qs6_10))))))), ⟨(fun _ => k373), (Int.le_trans rel41_0 (Int.le_trans k458.2.1 (Int.le_trans (show (s456 0 8).toInt ≤ (s474 0 8).toInt from by rw [(congrFun (sw_at es474 (by decide)) 8)]; exact Int.le_refl _) (show (s474 0 8).toInt ≤ (s477 0 8).toInt from by rw [(congrFun (sw_at es477 (by decide)) 8)]; exact Int.le_refl _))))⟩⟩, by rw [ht]; exact hP, va_K.moved hW.alike (hK.sub (tys' := []) [] rfl), by rw [hAe]; exact hD⟩, by rw [hAe]; exact hS.F ht⟩) hS.2.2 dX10_readCart_175
                · skip
                  have g478 := g9
                  have k479 := g478
                  refine lv_if_ne (tgt := 141) hx hb dX10_readCart_137 (by decide) (fun c480 => ?_) (fun c480 => ?_)
                  · first | exact absurd c480 (by decide) | exact absurd (by decide) c480
                  rw [hQ]
                  exact W.vret hx hb hr (fun t ht hW => ⟨⟨s456, rfl, ⟨hBs456, hFs456, (Eq.trans qs456_0 (Eq.trans qt41_0 (Eq.trans qs15_0 (Eq.trans (congrFun (sw_at es13 (by decide)) 0) (Eq.trans qs9_0 qs6_0))))), (Eq.trans qs456_1 (Eq.trans qt41_1 (Eq.trans qs15_1 (Eq.trans (congrFun (sw_at es13 (by decide)) 5) (Eq.trans qs9_1 qs6_1))))), (Eq.trans qs456_2 (Eq.trans qt41_2 (Eq.trans qs15_2 (Eq.trans (congrFun (sw_at es13 (by decide)) 7) (Eq.trans qs9_2 qs6_2))))), (Eq.trans qs456_3 (Eq.trans qt41_3 (Eq.trans qs15_3 (Eq.trans (congrFun (sw_at es13 (by decide)) 20) (Eq.trans qs9_3 qs6_3))))), (Eq.trans qs456_4 (Eq.trans qt41_4 (Eq.trans qs15_4 (Eq.trans (congrFun (sw_at es13 (by decide)) 21) (Eq.trans qs9_4 qs6_4))))), (Eq.trans qs456_5 (Eq.trans qt41_5 (Eq.trans qs15_5 (Eq.trans (congrFun (sw_at es13 (by decide)) 22) (Eq.trans qs9_5 qs6_5))))), (Eq.trans qs456_6 (Eq.trans qt41_6 (Eq.trans qs15_6 (Eq.trans (congrFun (sw_at es13 (by decide)) 26) (Eq.trans qs9_6 qs6_6))))), (Eq.trans qs456_7 (Eq.trans qt41_7 (Eq.trans qs15_7 (Eq.trans (congrFun (sw_at es13 (by decide)) 27) (Eq.trans qs9_7 qs6_7))))), (Eq.trans qs456_8 (Eq.trans qt41_8 (Eq.trans qs15_8 (Eq.trans (congrFun (sw_at es13 (by decide)) 29) (Eq.trans qs9_8 qs6_8))))), (Eq.trans qs456_9 (Eq.trans qt41_9 (Eq.trans qs15_9 (Eq.trans (congrFun (sw_at es13 (by decide)) 31) (Eq.trans qs9_9 qs6_9))))), (Eq.trans qs456_10 (Eq.trans qt41_10 (Eq.trans qs15_10 (Eq.trans (congrFun (sw_at es13 (by decide)) 33) (Eq.trans qs9_10 qs6_10))))), ⟨(fun z9 => absurd z9 k479), (Int.le_trans rel41_0 k458.2.1)⟩⟩, by rw [ht]; exact hP, va_K.moved hW.alike (hK.sub (tys' := []) [] rfl), by rw [hAe]; exact hD⟩, by rw [hAe]; exact hS.F ht⟩) hS.2.2 dX10_readCart_140
              · skip
                have h481 : Iv 1 1 r449 := eq_l c452 (iv_c (by decide) : Iv 1 1 1)
                refine lv_aload_n hx hb dX10_readCart_113 rfl (lv_at hl 4 rfl) ?_
                refine lv_iconst (v := 2) hx hb dX10_readCart_114 (by decide) ?_
                refine ca_v hP hD hS hA (fun hDc => run_V (mc := 0) (ms := 0) (As := [.int 2]) (rest := []) S (m_X10_errs l D k a t41 sl  2 _  hBt41 (iv_mono (c := 1) (d := 3) (iv_c (by decide) : Iv 2 2 2) (by decide) (by decide)) ) lkX10_160 ok_X10_errs ⟨rfl, rfl, Nat.le_of_ble_eq_true rfl, Nat.le_of_ble_eq_true rfl⟩ (pw_V (ci := 10) (q0 := 0) hK hN rfl mw_0 hP hDc) rfl hl.1 rfl (Nat.le_of_ble_eq_true rfl) ⟨Nat.zero_le _, Nat.zero_le _⟩ dX10_readCart_115) (fun s482 H9 locs9 hs482 hP9 hD9 hS9 => ?_)
                clear hP hD hS
                have hS := hS9
                have hP := hP9
                have hD := hD9
                clear hP9 hD9 hS9
                obtain ⟨hBs482, gs482, qs482_0, qs482_1, qs482_2, qs482_3, qs482_4, qs482_5, qs482_6, qs482_7, qs482_8, qs482_9, qs482_10, qs482_11, qs482_12, qs482_13, qs482_14, fs482⟩ := hs482
                have hFs482 : FR [0, 6] st s482 := fr_ca hFt41 gs482 (sub_1 (List.mem_of_getElem? (i := 0) rfl) sub_0)
                have k484 := fs482
                refine lv_aload_n hx hb dX10_readCart_118 rfl (lv_at hl 4 rfl) ?_
                refine lv_iconst (v := 0) hx hb dX10_readCart_119 (by decide) ?_
                refine lv_aload_n hx hb dX10_readCart_120 rfl (lv_at hl 4 rfl) ?_
                refine va_get (D := D) (ci := 10) (v := .ref (a 6)) (C := RX10) (T := TX10) (N := 38) hx hb hT in_X10 hown hK hP 0 mw_0 rfl 14 (by decide) (hT _ t1276) (fun _ h9 => h9) rfl dX10_readCart_121 ?_
                refine lv_iconst (v := 3) hx hb dX10_readCart_124 (by decide) ?_
                refine va_iald hx hb hK hP 6 0 mw_6 rfl (by unfold vp_in; decide) dX10_readCart_125 ?_
                refine k_top (y := (s482 6 3)) rfl ?_
                refine k_top (y := (st 6 3)) (Eq.trans (congrFun (gs482 6 (nm_1 (by decide) nm_0)) 3) (Eq.trans (congrFun (gt41 6 (nm_1 (by decide) nm_0)) 3) (Eq.trans (congrFun (gs15 6 (nm_1 (by decide) nm_0)) 3) (Eq.trans (Eq.trans (congrFun (sw_it es13) 3) (upd_no (cl_ne h4 (by decide) (by decide)))) (Eq.trans (congrFun (gs9 6 (nm_1 (by decide) nm_0)) 3) (congrFun (gs6 6 (nm_1 (by decide) nm_0)) 3)))))) ?_
                refine lv_iconst (v := 1) hx hb dX10_readCart_126 (by decide) ?_
                refine lv_isub hx hb dX10_readCart_127 ?_
                refine lv_topi (fun z485 ez485 => ?_)
                have h486 : Iv 0 7 z485 := iv_sub ez485 h442 (iv_c (by decide) : Iv 1 1 1) (by decide) (by decide) (by decide) (by decide)
                refine ca_i hP hD hS hA (fun hDc => run_V (mc := 0) (ms := 0) (As := [.int 0, .int z485]) (rest := []) S (m_X10_number l D k a s482 sl  0 z485 _  hBs482  ) lkX10_168 ok_X10_number ⟨rfl, rfl, Nat.le_of_ble_eq_true rfl, Nat.le_of_ble_eq_true rfl⟩ (pw_V (ci := 10) (q0 := 0) hK hN rfl mw_0 hP hDc) rfl hl.1 rfl (Nat.le_of_ble_eq_true rfl) ⟨Nat.zero_le _, Nat.zero_le _⟩ dX10_readCart_128) (fun r488 s487 H9 locs9 hs487 hP9 hD9 hS9 => ?_)
                clear hP hD hS
                have hS := hS9
                have hP := hP9
                have hD := hD9
                clear hP9 hD9 hS9
                obtain ⟨hBs487, gs487, qs487_0, qs487_1, qs487_2, qs487_3, qs487_4, qs487_5, qs487_6, qs487_7, qs487_8, qs487_9, qs487_10, fs487⟩ := hs487
                have hFs487 : FR [0, 6] st s487 := fr_ca hFs482 gs487 (sub_1 (List.mem_of_getElem? (i := 0) rfl) sub_0)
                have k489 := fs487
                have k490 : Iv 0 7 r488 := (by rcases k489.2.2 with q9 | q9; (rw [q9]; exact ⟨by decide, by decide⟩); (obtain ⟨y1, y2⟩ := id ((iv_c (by decide) : Iv 0 0 0)); obtain ⟨y3, y4⟩ := id (h486); exact ⟨by omega, by omega⟩))
                refine lv_istore (lv' := [(5, .int r488), (4, .int 1), (3, .int r18), (2, .int v2_41), (1, .int z3), (0, .ref (a 0))]) hx hb dX10_readCart_131 hl (by decide) rfl (fun ls hl => ?_)
                refine lv_aload_n hx hb dX10_readCart_133 rfl (lv_at hl 5 rfl) ?_
                refine ro_V (As := []) (rest := []) S (m_X10_good l D k a s487 sl   _  hBs487  ) lkX10_136 ok_X10_good ⟨rfl, rfl, Nat.le_of_ble_eq_true rfl, Nat.le_of_ble_eq_true rfl⟩ (pw_V (ci := 10) (q0 := 0) hK hN rfl mw_0 hP (hD.weaken (fun _ _ _ _ => trivial))) rfl hl.1 rfl (Nat.le_of_ble_eq_true rfl) ⟨Nat.zero_le _, Nat.zero_le _⟩ dX10_readCart_134 (fun r491 er491 => ?_)
                rcases er491 with ⟨rfl, g9⟩ | ⟨rfl, g9⟩
                · skip
                  have g492 := g9
                  have k493 := g492
                  have k494 := k489.1 k493
                  have k495 : s482 0 12 = 0 := k494.1
                  exact absurd k495 k484
                · skip
                  have g496 := g9
                  have k497 := g496
                  refine lv_if_ne (tgt := 141) hx hb dX10_readCart_137 (by decide) (fun c498 => ?_) (fun c498 => ?_)
                  · first | exact absurd c498 (by decide) | exact absurd (by decide) c498
                  rw [hQ]
                  exact W.vret hx hb hr (fun t ht hW => ⟨⟨s487, rfl, ⟨hBs487, hFs487, (Eq.trans qs487_0 (Eq.trans qs482_0 (Eq.trans qt41_0 (Eq.trans qs15_0 (Eq.trans (congrFun (sw_at es13 (by decide)) 0) (Eq.trans qs9_0 qs6_0)))))), (Eq.trans qs487_1 (Eq.trans qs482_1 (Eq.trans qt41_1 (Eq.trans qs15_1 (Eq.trans (congrFun (sw_at es13 (by decide)) 5) (Eq.trans qs9_1 qs6_1)))))), (Eq.trans qs487_2 (Eq.trans qs482_2 (Eq.trans qt41_2 (Eq.trans qs15_2 (Eq.trans (congrFun (sw_at es13 (by decide)) 7) (Eq.trans qs9_2 qs6_2)))))), (Eq.trans qs487_3 (Eq.trans qs482_7 (Eq.trans qt41_3 (Eq.trans qs15_3 (Eq.trans (congrFun (sw_at es13 (by decide)) 20) (Eq.trans qs9_3 qs6_3)))))), (Eq.trans qs487_4 (Eq.trans qs482_8 (Eq.trans qt41_4 (Eq.trans qs15_4 (Eq.trans (congrFun (sw_at es13 (by decide)) 21) (Eq.trans qs9_4 qs6_4)))))), (Eq.trans qs487_5 (Eq.trans qs482_9 (Eq.trans qt41_5 (Eq.trans qs15_5 (Eq.trans (congrFun (sw_at es13 (by decide)) 22) (Eq.trans qs9_5 qs6_5)))))), (Eq.trans qs487_6 (Eq.trans qs482_10 (Eq.trans qt41_6 (Eq.trans qs15_6 (Eq.trans (congrFun (sw_at es13 (by decide)) 26) (Eq.trans qs9_6 qs6_6)))))), (Eq.trans qs487_7 (Eq.trans qs482_11 (Eq.trans qt41_7 (Eq.trans qs15_7 (Eq.trans (congrFun (sw_at es13 (by decide)) 27) (Eq.trans qs9_7 qs6_7)))))), (Eq.trans qs487_8 (Eq.trans qs482_12 (Eq.trans qt41_8 (Eq.trans qs15_8 (Eq.trans (congrFun (sw_at es13 (by decide)) 29) (Eq.trans qs9_8 qs6_8)))))), (Eq.trans qs487_9 (Eq.trans qs482_13 (Eq.trans qt41_9 (Eq.trans qs15_9 (Eq.trans (congrFun (sw_at es13 (by decide)) 31) (Eq.trans qs9_9 qs6_9)))))), (Eq.trans qs487_10 (Eq.trans qs482_14 (Eq.trans qt41_10 (Eq.trans qs15_10 (Eq.trans (congrFun (sw_at es13 (by decide)) 33) (Eq.trans qs9_10 qs6_10)))))), ⟨(fun z9 => absurd z9 k497), (Int.le_trans rel41_0 (Int.le_trans (show (t41 0 8).toInt ≤ (s482 0 8).toInt from by rw [qs482_3]; exact Int.le_refl _) k489.2.1))⟩⟩, by rw [ht]; exact hP, va_K.moved hW.alike (hK.sub (tys' := []) [] rfl), by rw [hAe]; exact hD⟩, by rw [hAe]; exact hS.F ht⟩) hS.2.2 dX10_readCart_140
            · skip
              have h499 : Iv 4 4 r444 := eq_l c446 (iv_c (by decide) : Iv 4 4 4)
              refine lv_aload_n hx hb dX10_readCart_89 rfl (lv_at hl 4 rfl) ?_
              refine lv_iconst (v := 3) hx hb dX10_readCart_90 (by decide) ?_
              refine ca_v hP hD hS hA (fun hDc => run_V (mc := 0) (ms := 0) (As := [.int 3]) (rest := []) S (m_X10_errs l D k a t41 sl  3 _  hBt41 (iv_mono (c := 1) (d := 3) (iv_c (by decide) : Iv 3 3 3) (by decide) (by decide)) ) lkX10_160 ok_X10_errs ⟨rfl, rfl, Nat.le_of_ble_eq_true rfl, Nat.le_of_ble_eq_true rfl⟩ (pw_V (ci := 10) (q0 := 0) hK hN rfl mw_0 hP hDc) rfl hl.1 rfl (Nat.le_of_ble_eq_true rfl) ⟨Nat.zero_le _, Nat.zero_le _⟩ dX10_readCart_91) (fun s500 H9 locs9 hs500 hP9 hD9 hS9 => ?_)
              clear hP hD hS
              have hS := hS9
              have hP := hP9
              have hD := hD9
              clear hP9 hD9 hS9
              obtain ⟨hBs500, gs500, qs500_0, qs500_1, qs500_2, qs500_3, qs500_4, qs500_5, qs500_6, qs500_7, qs500_8, qs500_9, qs500_10, qs500_11, qs500_12, qs500_13, qs500_14, fs500⟩ := hs500
              have hFs500 : FR [0, 6] st s500 := fr_ca hFt41 gs500 (sub_1 (List.mem_of_getElem? (i := 0) rfl) sub_0)
              have k502 := fs500
              refine lv_iload hx hb dX10_readCart_94 (lv_at hl 0 rfl) ?_
              refine lv_if_eq (tgt := 118) hx hb dX10_readCart_96 (by decide) (fun c503 => ?_) (fun c503 => ?_)
              · first | exact absurd c503 (by decide) | exact absurd (by decide) c503
              refine lv_iload_n hx hb dX10_readCart_99 rfl (lv_at hl 2 rfl) ?_
              refine lv_iload_n hx hb dX10_readCart_100 rfl (lv_at hl 1 rfl) ?_
              refine lv_ior hx hb dX10_readCart_101 ?_
              refine lv_topi (fun z504 ez504 => ?_)
              refine lv_aload_n hx hb dX10_readCart_102 rfl (lv_at hl 4 rfl) ?_
              refine va_get (D := D) (ci := 10) (v := .int (s500 0 11)) (C := RX10) (T := TX10) (N := 38) hx hb hT in_X10 hown hK hP 0 mw_0 rfl 11 (by decide) (hT _ t1273) (fun _ h9 => h9) rfl dX10_readCart_103 ?_
              refine k_top (y := (t41 0 11)) qs500_6 ?_
              refine ro_S (As := [.int z504, .int (t41 0 11)]) (rest := []) S (m_X10_bit l D k a s500 sl  z504 (t41 0 11) _  hBs500  ) lkX10_193 ok_X10_bit ⟨rfl, rfl, Nat.le_of_ble_eq_true rfl, Nat.le_of_ble_eq_true rfl⟩ (pw_S hK hN hP (hD.weaken (fun _ _ _ _ => trivial))) rfl hl.1 rfl (Nat.le_of_ble_eq_true rfl) ⟨Nat.zero_le _, Nat.zero_le _⟩ dX10_readCart_106 (fun r505 er505 => ?_)
              have h506 : Iv 0 1 r505 := er505.1
              have k507 := er505.2
              refine lv_iconst (v := 1) hx hb dX10_readCart_109 (by decide) ?_
              refine lv_icmp_ne (tgt := 118) hx hb dX10_readCart_110 (by decide) (fun c508 => ?_) (fun c508 => ?_)
              · skip
                have h509 : Iv 0 0 r505 := ne_hi h506 (show ¬ r505 = 1 from c508) (by decide) (by decide)
                refine lv_aload_n hx hb dX10_readCart_118 rfl (lv_at hl 4 rfl) ?_
                refine lv_iconst (v := 0) hx hb dX10_readCart_119 (by decide) ?_
                refine lv_aload_n hx hb dX10_readCart_120 rfl (lv_at hl 4 rfl) ?_
                refine va_get (D := D) (ci := 10) (v := .ref (a 6)) (C := RX10) (T := TX10) (N := 38) hx hb hT in_X10 hown hK hP 0 mw_0 rfl 14 (by decide) (hT _ t1276) (fun _ h9 => h9) rfl dX10_readCart_121 ?_
                refine lv_iconst (v := 3) hx hb dX10_readCart_124 (by decide) ?_
                refine va_iald hx hb hK hP 6 0 mw_6 rfl (by unfold vp_in; decide) dX10_readCart_125 ?_
                refine k_top (y := (s500 6 3)) rfl ?_
                refine k_top (y := (st 6 3)) (Eq.trans (congrFun (gs500 6 (nm_1 (by decide) nm_0)) 3) (Eq.trans (congrFun (gt41 6 (nm_1 (by decide) nm_0)) 3) (Eq.trans (congrFun (gs15 6 (nm_1 (by decide) nm_0)) 3) (Eq.trans (Eq.trans (congrFun (sw_it es13) 3) (upd_no (cl_ne h4 (by decide) (by decide)))) (Eq.trans (congrFun (gs9 6 (nm_1 (by decide) nm_0)) 3) (congrFun (gs6 6 (nm_1 (by decide) nm_0)) 3)))))) ?_
                refine lv_iconst (v := 1) hx hb dX10_readCart_126 (by decide) ?_
                refine lv_isub hx hb dX10_readCart_127 ?_
                refine lv_topi (fun z510 ez510 => ?_)
                have h511 : Iv 0 7 z510 := iv_sub ez510 h442 (iv_c (by decide) : Iv 1 1 1) (by decide) (by decide) (by decide) (by decide)
                refine ca_i hP hD hS hA (fun hDc => run_V (mc := 0) (ms := 0) (As := [.int 0, .int z510]) (rest := []) S (m_X10_number l D k a s500 sl  0 z510 _  hBs500  ) lkX10_168 ok_X10_number ⟨rfl, rfl, Nat.le_of_ble_eq_true rfl, Nat.le_of_ble_eq_true rfl⟩ (pw_V (ci := 10) (q0 := 0) hK hN rfl mw_0 hP hDc) rfl hl.1 rfl (Nat.le_of_ble_eq_true rfl) ⟨Nat.zero_le _, Nat.zero_le _⟩ dX10_readCart_128) (fun r513 s512 H9 locs9 hs512 hP9 hD9 hS9 => ?_)
                clear hP hD hS
                have hS := hS9
                have hP := hP9
                have hD := hD9
                clear hP9 hD9 hS9
                obtain ⟨hBs512, gs512, qs512_0, qs512_1, qs512_2, qs512_3, qs512_4, qs512_5, qs512_6, qs512_7, qs512_8, qs512_9, qs512_10, fs512⟩ := hs512
                have hFs512 : FR [0, 6] st s512 := fr_ca hFs500 gs512 (sub_1 (List.mem_of_getElem? (i := 0) rfl) sub_0)
                have k514 := fs512
                have k515 : Iv 0 7 r513 := (by rcases k514.2.2 with q9 | q9; (rw [q9]; exact ⟨by decide, by decide⟩); (obtain ⟨y1, y2⟩ := id ((iv_c (by decide) : Iv 0 0 0)); obtain ⟨y3, y4⟩ := id (h511); exact ⟨by omega, by omega⟩))
                refine lv_istore (lv' := [(5, .int r513), (4, .int 1), (3, .int r18), (2, .int v2_41), (1, .int z3), (0, .ref (a 0))]) hx hb dX10_readCart_131 hl (by decide) rfl (fun ls hl => ?_)
                refine lv_aload_n hx hb dX10_readCart_133 rfl (lv_at hl 5 rfl) ?_
                refine ro_V (As := []) (rest := []) S (m_X10_good l D k a s512 sl   _  hBs512  ) lkX10_136 ok_X10_good ⟨rfl, rfl, Nat.le_of_ble_eq_true rfl, Nat.le_of_ble_eq_true rfl⟩ (pw_V (ci := 10) (q0 := 0) hK hN rfl mw_0 hP (hD.weaken (fun _ _ _ _ => trivial))) rfl hl.1 rfl (Nat.le_of_ble_eq_true rfl) ⟨Nat.zero_le _, Nat.zero_le _⟩ dX10_readCart_134 (fun r516 er516 => ?_)
                rcases er516 with ⟨rfl, g9⟩ | ⟨rfl, g9⟩
                · skip
                  have g517 := g9
                  have k518 := g517
                  have k519 := k514.1 k518
                  have k520 : s500 0 12 = 0 := k519.1
                  exact absurd k520 k502
                · skip
                  have g521 := g9
                  have k522 := g521
                  refine lv_if_ne (tgt := 141) hx hb dX10_readCart_137 (by decide) (fun c523 => ?_) (fun c523 => ?_)
                  · first | exact absurd c523 (by decide) | exact absurd (by decide) c523
                  rw [hQ]
                  exact W.vret hx hb hr (fun t ht hW => ⟨⟨s512, rfl, ⟨hBs512, hFs512, (Eq.trans qs512_0 (Eq.trans qs500_0 (Eq.trans qt41_0 (Eq.trans qs15_0 (Eq.trans (congrFun (sw_at es13 (by decide)) 0) (Eq.trans qs9_0 qs6_0)))))), (Eq.trans qs512_1 (Eq.trans qs500_1 (Eq.trans qt41_1 (Eq.trans qs15_1 (Eq.trans (congrFun (sw_at es13 (by decide)) 5) (Eq.trans qs9_1 qs6_1)))))), (Eq.trans qs512_2 (Eq.trans qs500_2 (Eq.trans qt41_2 (Eq.trans qs15_2 (Eq.trans (congrFun (sw_at es13 (by decide)) 7) (Eq.trans qs9_2 qs6_2)))))), (Eq.trans qs512_3 (Eq.trans qs500_7 (Eq.trans qt41_3 (Eq.trans qs15_3 (Eq.trans (congrFun (sw_at es13 (by decide)) 20) (Eq.trans qs9_3 qs6_3)))))), (Eq.trans qs512_4 (Eq.trans qs500_8 (Eq.trans qt41_4 (Eq.trans qs15_4 (Eq.trans (congrFun (sw_at es13 (by decide)) 21) (Eq.trans qs9_4 qs6_4)))))), (Eq.trans qs512_5 (Eq.trans qs500_9 (Eq.trans qt41_5 (Eq.trans qs15_5 (Eq.trans (congrFun (sw_at es13 (by decide)) 22) (Eq.trans qs9_5 qs6_5)))))), (Eq.trans qs512_6 (Eq.trans qs500_10 (Eq.trans qt41_6 (Eq.trans qs15_6 (Eq.trans (congrFun (sw_at es13 (by decide)) 26) (Eq.trans qs9_6 qs6_6)))))), (Eq.trans qs512_7 (Eq.trans qs500_11 (Eq.trans qt41_7 (Eq.trans qs15_7 (Eq.trans (congrFun (sw_at es13 (by decide)) 27) (Eq.trans qs9_7 qs6_7)))))), (Eq.trans qs512_8 (Eq.trans qs500_12 (Eq.trans qt41_8 (Eq.trans qs15_8 (Eq.trans (congrFun (sw_at es13 (by decide)) 29) (Eq.trans qs9_8 qs6_8)))))), (Eq.trans qs512_9 (Eq.trans qs500_13 (Eq.trans qt41_9 (Eq.trans qs15_9 (Eq.trans (congrFun (sw_at es13 (by decide)) 31) (Eq.trans qs9_9 qs6_9)))))), (Eq.trans qs512_10 (Eq.trans qs500_14 (Eq.trans qt41_10 (Eq.trans qs15_10 (Eq.trans (congrFun (sw_at es13 (by decide)) 33) (Eq.trans qs9_10 qs6_10)))))), ⟨(fun z9 => absurd z9 k522), (Int.le_trans rel41_0 (Int.le_trans (show (t41 0 8).toInt ≤ (s500 0 8).toInt from by rw [qs500_3]; exact Int.le_refl _) k514.2.1))⟩⟩, by rw [ht]; exact hP, va_K.moved hW.alike (hK.sub (tys' := []) [] rfl), by rw [hAe]; exact hD⟩, by rw [hAe]; exact hS.F ht⟩) hS.2.2 dX10_readCart_140
              · skip
                have h524 : Iv 1 1 r505 := eq_l c508 (iv_c (by decide) : Iv 1 1 1)
                refine lv_aload_n hx hb dX10_readCart_113 rfl (lv_at hl 4 rfl) ?_
                refine lv_iconst (v := 2) hx hb dX10_readCart_114 (by decide) ?_
                refine ca_v hP hD hS hA (fun hDc => run_V (mc := 0) (ms := 0) (As := [.int 2]) (rest := []) S (m_X10_errs l D k a s500 sl  2 _  hBs500 (iv_mono (c := 1) (d := 3) (iv_c (by decide) : Iv 2 2 2) (by decide) (by decide)) ) lkX10_160 ok_X10_errs ⟨rfl, rfl, Nat.le_of_ble_eq_true rfl, Nat.le_of_ble_eq_true rfl⟩ (pw_V (ci := 10) (q0 := 0) hK hN rfl mw_0 hP hDc) rfl hl.1 rfl (Nat.le_of_ble_eq_true rfl) ⟨Nat.zero_le _, Nat.zero_le _⟩ dX10_readCart_115) (fun s525 H9 locs9 hs525 hP9 hD9 hS9 => ?_)
                clear hP hD hS
                have hS := hS9
                have hP := hP9
                have hD := hD9
                clear hP9 hD9 hS9
                obtain ⟨hBs525, gs525, qs525_0, qs525_1, qs525_2, qs525_3, qs525_4, qs525_5, qs525_6, qs525_7, qs525_8, qs525_9, qs525_10, qs525_11, qs525_12, qs525_13, qs525_14, fs525⟩ := hs525
                have hFs525 : FR [0, 6] st s525 := fr_ca hFs500 gs525 (sub_1 (List.mem_of_getElem? (i := 0) rfl) sub_0)
                have k527 := fs525
                refine lv_aload_n hx hb dX10_readCart_118 rfl (lv_at hl 4 rfl) ?_
                refine lv_iconst (v := 0) hx hb dX10_readCart_119 (by decide) ?_
                refine lv_aload_n hx hb dX10_readCart_120 rfl (lv_at hl 4 rfl) ?_
                refine va_get (D := D) (ci := 10) (v := .ref (a 6)) (C := RX10) (T := TX10) (N := 38) hx hb hT in_X10 hown hK hP 0 mw_0 rfl 14 (by decide) (hT _ t1276) (fun _ h9 => h9) rfl dX10_readCart_121 ?_
                refine lv_iconst (v := 3) hx hb dX10_readCart_124 (by decide) ?_
                refine va_iald hx hb hK hP 6 0 mw_6 rfl (by unfold vp_in; decide) dX10_readCart_125 ?_
                refine k_top (y := (s525 6 3)) rfl ?_
                refine k_top (y := (st 6 3)) (Eq.trans (congrFun (gs525 6 (nm_1 (by decide) nm_0)) 3) (Eq.trans (congrFun (gs500 6 (nm_1 (by decide) nm_0)) 3) (Eq.trans (congrFun (gt41 6 (nm_1 (by decide) nm_0)) 3) (Eq.trans (congrFun (gs15 6 (nm_1 (by decide) nm_0)) 3) (Eq.trans (Eq.trans (congrFun (sw_it es13) 3) (upd_no (cl_ne h4 (by decide) (by decide)))) (Eq.trans (congrFun (gs9 6 (nm_1 (by decide) nm_0)) 3) (congrFun (gs6 6 (nm_1 (by decide) nm_0)) 3))))))) ?_
                refine lv_iconst (v := 1) hx hb dX10_readCart_126 (by decide) ?_
                refine lv_isub hx hb dX10_readCart_127 ?_
                refine lv_topi (fun z528 ez528 => ?_)
                have h529 : Iv 0 7 z528 := iv_sub ez528 h442 (iv_c (by decide) : Iv 1 1 1) (by decide) (by decide) (by decide) (by decide)
                refine ca_i hP hD hS hA (fun hDc => run_V (mc := 0) (ms := 0) (As := [.int 0, .int z528]) (rest := []) S (m_X10_number l D k a s525 sl  0 z528 _  hBs525  ) lkX10_168 ok_X10_number ⟨rfl, rfl, Nat.le_of_ble_eq_true rfl, Nat.le_of_ble_eq_true rfl⟩ (pw_V (ci := 10) (q0 := 0) hK hN rfl mw_0 hP hDc) rfl hl.1 rfl (Nat.le_of_ble_eq_true rfl) ⟨Nat.zero_le _, Nat.zero_le _⟩ dX10_readCart_128) (fun r531 s530 H9 locs9 hs530 hP9 hD9 hS9 => ?_)
                clear hP hD hS
                have hS := hS9
                have hP := hP9
                have hD := hD9
                clear hP9 hD9 hS9
                obtain ⟨hBs530, gs530, qs530_0, qs530_1, qs530_2, qs530_3, qs530_4, qs530_5, qs530_6, qs530_7, qs530_8, qs530_9, qs530_10, fs530⟩ := hs530
                have hFs530 : FR [0, 6] st s530 := fr_ca hFs525 gs530 (sub_1 (List.mem_of_getElem? (i := 0) rfl) sub_0)
                have k532 := fs530
                have k533 : Iv 0 7 r531 := (by rcases k532.2.2 with q9 | q9; (rw [q9]; exact ⟨by decide, by decide⟩); (obtain ⟨y1, y2⟩ := id ((iv_c (by decide) : Iv 0 0 0)); obtain ⟨y3, y4⟩ := id (h529); exact ⟨by omega, by omega⟩))
                refine lv_istore (lv' := [(5, .int r531), (4, .int 1), (3, .int r18), (2, .int v2_41), (1, .int z3), (0, .ref (a 0))]) hx hb dX10_readCart_131 hl (by decide) rfl (fun ls hl => ?_)
                refine lv_aload_n hx hb dX10_readCart_133 rfl (lv_at hl 5 rfl) ?_
                refine ro_V (As := []) (rest := []) S (m_X10_good l D k a s530 sl   _  hBs530  ) lkX10_136 ok_X10_good ⟨rfl, rfl, Nat.le_of_ble_eq_true rfl, Nat.le_of_ble_eq_true rfl⟩ (pw_V (ci := 10) (q0 := 0) hK hN rfl mw_0 hP (hD.weaken (fun _ _ _ _ => trivial))) rfl hl.1 rfl (Nat.le_of_ble_eq_true rfl) ⟨Nat.zero_le _, Nat.zero_le _⟩ dX10_readCart_134 (fun r534 er534 => ?_)
                rcases er534 with ⟨rfl, g9⟩ | ⟨rfl, g9⟩
                · skip
                  have g535 := g9
                  have k536 := g535
                  have k537 := k532.1 k536
                  have k538 : s525 0 12 = 0 := k537.1
                  exact absurd k538 k527
                · skip
                  have g539 := g9
                  have k540 := g539
                  refine lv_if_ne (tgt := 141) hx hb dX10_readCart_137 (by decide) (fun c541 => ?_) (fun c541 => ?_)
                  · first | exact absurd c541 (by decide) | exact absurd (by decide) c541
                  rw [hQ]
                  exact W.vret hx hb hr (fun t ht hW => ⟨⟨s530, rfl, ⟨hBs530, hFs530, (Eq.trans qs530_0 (Eq.trans qs525_0 (Eq.trans qs500_0 (Eq.trans qt41_0 (Eq.trans qs15_0 (Eq.trans (congrFun (sw_at es13 (by decide)) 0) (Eq.trans qs9_0 qs6_0))))))), (Eq.trans qs530_1 (Eq.trans qs525_1 (Eq.trans qs500_1 (Eq.trans qt41_1 (Eq.trans qs15_1 (Eq.trans (congrFun (sw_at es13 (by decide)) 5) (Eq.trans qs9_1 qs6_1))))))), (Eq.trans qs530_2 (Eq.trans qs525_2 (Eq.trans qs500_2 (Eq.trans qt41_2 (Eq.trans qs15_2 (Eq.trans (congrFun (sw_at es13 (by decide)) 7) (Eq.trans qs9_2 qs6_2))))))), (Eq.trans qs530_3 (Eq.trans qs525_7 (Eq.trans qs500_7 (Eq.trans qt41_3 (Eq.trans qs15_3 (Eq.trans (congrFun (sw_at es13 (by decide)) 20) (Eq.trans qs9_3 qs6_3))))))), (Eq.trans qs530_4 (Eq.trans qs525_8 (Eq.trans qs500_8 (Eq.trans qt41_4 (Eq.trans qs15_4 (Eq.trans (congrFun (sw_at es13 (by decide)) 21) (Eq.trans qs9_4 qs6_4))))))), (Eq.trans qs530_5 (Eq.trans qs525_9 (Eq.trans qs500_9 (Eq.trans qt41_5 (Eq.trans qs15_5 (Eq.trans (congrFun (sw_at es13 (by decide)) 22) (Eq.trans qs9_5 qs6_5))))))), (Eq.trans qs530_6 (Eq.trans qs525_10 (Eq.trans qs500_10 (Eq.trans qt41_6 (Eq.trans qs15_6 (Eq.trans (congrFun (sw_at es13 (by decide)) 26) (Eq.trans qs9_6 qs6_6))))))), (Eq.trans qs530_7 (Eq.trans qs525_11 (Eq.trans qs500_11 (Eq.trans qt41_7 (Eq.trans qs15_7 (Eq.trans (congrFun (sw_at es13 (by decide)) 27) (Eq.trans qs9_7 qs6_7))))))), (Eq.trans qs530_8 (Eq.trans qs525_12 (Eq.trans qs500_12 (Eq.trans qt41_8 (Eq.trans qs15_8 (Eq.trans (congrFun (sw_at es13 (by decide)) 29) (Eq.trans qs9_8 qs6_8))))))), (Eq.trans qs530_9 (Eq.trans qs525_13 (Eq.trans qs500_13 (Eq.trans qt41_9 (Eq.trans qs15_9 (Eq.trans (congrFun (sw_at es13 (by decide)) 31) (Eq.trans qs9_9 qs6_9))))))), (Eq.trans qs530_10 (Eq.trans qs525_14 (Eq.trans qs500_14 (Eq.trans qt41_10 (Eq.trans qs15_10 (Eq.trans (congrFun (sw_at es13 (by decide)) 33) (Eq.trans qs9_10 qs6_10))))))), ⟨(fun z9 => absurd z9 k540), (Int.le_trans rel41_0 (Int.le_trans (show (t41 0 8).toInt ≤ (s500 0 8).toInt from by rw [qs500_3]; exact Int.le_refl _) (Int.le_trans (show (s500 0 8).toInt ≤ (s525 0 8).toInt from by rw [qs525_3]; exact Int.le_refl _) k532.2.1)))⟩⟩, by rw [ht]; exact hP, va_K.moved hW.alike (hK.sub (tys' := []) [] rfl), by rw [hAe]; exact hD⟩, by rw [hAe]; exact hS.F ht⟩) hS.2.2 dX10_readCart_140
      · skip
        have g542 := g9
        have k543 := g542
        refine lv_if_eq (tgt := 73) hx hb dX10_readCart_45 (by decide) (fun c544 => ?_) (fun c544 => ?_)
        rotate_left
        · first | exact absurd c544 (by decide) | exact absurd (by decide) c544
        refine lv_iconst (v := 0) hx hb dX10_readCart_73 (by decide) ?_
        refine lv_istore (lv' := [(4, .int 0), (3, .int r18), (2, .int v2_41), (1, .int z3), (0, .ref (a 0))]) hx hb dX10_readCart_74 hl (by decide) rfl (fun ls hl => ?_)
        refine lv_iload hx hb dX10_readCart_76 (lv_at hl 0 rfl) ?_
        refine lv_if_eq (tgt := 94) hx hb dX10_readCart_78 (by decide) (fun c545 => ?_) (fun c545 => ?_)
        rotate_left
        · first | exact absurd c545 (by decide) | exact absurd (by decide) c545
        refine lv_iload hx hb dX10_readCart_94 (lv_at hl 0 rfl) ?_
        refine lv_if_eq (tgt := 118) hx hb dX10_readCart_96 (by decide) (fun c546 => ?_) (fun c546 => ?_)
        rotate_left
        · first | exact absurd c546 (by decide) | exact absurd (by decide) c546
        refine lv_aload_n hx hb dX10_readCart_118 rfl (lv_at hl 4 rfl) ?_
        refine lv_iconst (v := 0) hx hb dX10_readCart_119 (by decide) ?_
        refine lv_aload_n hx hb dX10_readCart_120 rfl (lv_at hl 4 rfl) ?_
        refine va_get (D := D) (ci := 10) (v := .ref (a 6)) (C := RX10) (T := TX10) (N := 38) hx hb hT in_X10 hown hK hP 0 mw_0 rfl 14 (by decide) (hT _ t1276) (fun _ h9 => h9) rfl dX10_readCart_121 ?_
        refine lv_iconst (v := 3) hx hb dX10_readCart_124 (by decide) ?_
        refine va_iald hx hb hK hP 6 0 mw_6 rfl (by unfold vp_in; decide) dX10_readCart_125 ?_
        refine k_top (y := (t41 6 3)) rfl ?_
        refine k_top (y := (st 6 3)) (Eq.trans (congrFun (gt41 6 (nm_1 (by decide) nm_0)) 3) (Eq.trans (congrFun (gs15 6 (nm_1 (by decide) nm_0)) 3) (Eq.trans (Eq.trans (congrFun (sw_it es13) 3) (upd_no (cl_ne h4 (by decide) (by decide)))) (Eq.trans (congrFun (gs9 6 (nm_1 (by decide) nm_0)) 3) (congrFun (gs6 6 (nm_1 (by decide) nm_0)) 3))))) ?_
        have h547 : Iv 0 8 (st 6 3) := (tok_at (rm_6 hB).1 3 0 8 (by decide) (by decide) (by decide))
        refine lv_iconst (v := 1) hx hb dX10_readCart_126 (by decide) ?_
        refine lv_isub hx hb dX10_readCart_127 ?_
        refine lv_topi (fun z548 ez548 => ?_)
        have h549 : Iv (-1) 7 z548 := iv_sub ez548 h547 (iv_c (by decide) : Iv 1 1 1) (by decide) (by decide) (by decide) (by decide)
        refine ca_i hP hD hS hA (fun hDc => run_V (mc := 0) (ms := 0) (As := [.int 0, .int z548]) (rest := []) S (m_X10_number l D k a t41 sl  0 z548 _  hBt41  ) lkX10_168 ok_X10_number ⟨rfl, rfl, Nat.le_of_ble_eq_true rfl, Nat.le_of_ble_eq_true rfl⟩ (pw_V (ci := 10) (q0 := 0) hK hN rfl mw_0 hP hDc) rfl hl.1 rfl (Nat.le_of_ble_eq_true rfl) ⟨Nat.zero_le _, Nat.zero_le _⟩ dX10_readCart_128) (fun r551 s550 H9 locs9 hs550 hP9 hD9 hS9 => ?_)
        clear hP hD hS
        have hS := hS9
        have hP := hP9
        have hD := hD9
        clear hP9 hD9 hS9
        obtain ⟨hBs550, gs550, qs550_0, qs550_1, qs550_2, qs550_3, qs550_4, qs550_5, qs550_6, qs550_7, qs550_8, qs550_9, qs550_10, fs550⟩ := hs550
        have hFs550 : FR [0, 6] st s550 := fr_ca hFt41 gs550 (sub_1 (List.mem_of_getElem? (i := 0) rfl) sub_0)
        have k552 := fs550
        have k553 : Iv 0 7 r551 := (by rcases k552.2.2 with q9 | q9; (rw [q9]; exact ⟨by decide, by decide⟩); (obtain ⟨y1, y2⟩ := id ((iv_c (by decide) : Iv 0 0 0)); obtain ⟨y3, y4⟩ := id (h549); exact ⟨by omega, by omega⟩))
        refine lv_istore (lv' := [(5, .int r551), (4, .int 0), (3, .int r18), (2, .int v2_41), (1, .int z3), (0, .ref (a 0))]) hx hb dX10_readCart_131 hl (by decide) rfl (fun ls hl => ?_)
        refine lv_aload_n hx hb dX10_readCart_133 rfl (lv_at hl 5 rfl) ?_
        refine ro_V (As := []) (rest := []) S (m_X10_good l D k a s550 sl   _  hBs550  ) lkX10_136 ok_X10_good ⟨rfl, rfl, Nat.le_of_ble_eq_true rfl, Nat.le_of_ble_eq_true rfl⟩ (pw_V (ci := 10) (q0 := 0) hK hN rfl mw_0 hP (hD.weaken (fun _ _ _ _ => trivial))) rfl hl.1 rfl (Nat.le_of_ble_eq_true rfl) ⟨Nat.zero_le _, Nat.zero_le _⟩ dX10_readCart_134 (fun r554 er554 => ?_)
        rcases er554 with ⟨rfl, g9⟩ | ⟨rfl, g9⟩
        · skip
          have g555 := g9
          have k556 := g555
          have k557 := k552.1 k556
          have k558 : t41 0 12 = 0 := k557.1
          exact absurd k558 k543
        · skip
          have g559 := g9
          have k560 := g559
          refine lv_if_ne (tgt := 141) hx hb dX10_readCart_137 (by decide) (fun c561 => ?_) (fun c561 => ?_)
          · first | exact absurd c561 (by decide) | exact absurd (by decide) c561
          rw [hQ]
          exact W.vret hx hb hr (fun t ht hW => ⟨⟨s550, rfl, ⟨hBs550, hFs550, (Eq.trans qs550_0 (Eq.trans qt41_0 (Eq.trans qs15_0 (Eq.trans (congrFun (sw_at es13 (by decide)) 0) (Eq.trans qs9_0 qs6_0))))), (Eq.trans qs550_1 (Eq.trans qt41_1 (Eq.trans qs15_1 (Eq.trans (congrFun (sw_at es13 (by decide)) 5) (Eq.trans qs9_1 qs6_1))))), (Eq.trans qs550_2 (Eq.trans qt41_2 (Eq.trans qs15_2 (Eq.trans (congrFun (sw_at es13 (by decide)) 7) (Eq.trans qs9_2 qs6_2))))), (Eq.trans qs550_3 (Eq.trans qt41_3 (Eq.trans qs15_3 (Eq.trans (congrFun (sw_at es13 (by decide)) 20) (Eq.trans qs9_3 qs6_3))))), (Eq.trans qs550_4 (Eq.trans qt41_4 (Eq.trans qs15_4 (Eq.trans (congrFun (sw_at es13 (by decide)) 21) (Eq.trans qs9_4 qs6_4))))), (Eq.trans qs550_5 (Eq.trans qt41_5 (Eq.trans qs15_5 (Eq.trans (congrFun (sw_at es13 (by decide)) 22) (Eq.trans qs9_5 qs6_5))))), (Eq.trans qs550_6 (Eq.trans qt41_6 (Eq.trans qs15_6 (Eq.trans (congrFun (sw_at es13 (by decide)) 26) (Eq.trans qs9_6 qs6_6))))), (Eq.trans qs550_7 (Eq.trans qt41_7 (Eq.trans qs15_7 (Eq.trans (congrFun (sw_at es13 (by decide)) 27) (Eq.trans qs9_7 qs6_7))))), (Eq.trans qs550_8 (Eq.trans qt41_8 (Eq.trans qs15_8 (Eq.trans (congrFun (sw_at es13 (by decide)) 29) (Eq.trans qs9_8 qs6_8))))), (Eq.trans qs550_9 (Eq.trans qt41_9 (Eq.trans qs15_9 (Eq.trans (congrFun (sw_at es13 (by decide)) 31) (Eq.trans qs9_9 qs6_9))))), (Eq.trans qs550_10 (Eq.trans qt41_10 (Eq.trans qs15_10 (Eq.trans (congrFun (sw_at es13 (by decide)) 33) (Eq.trans qs9_10 qs6_10))))), ⟨(fun z9 => absurd z9 k560), (Int.le_trans rel41_0 k552.2.1)⟩⟩, by rw [ht]; exact hP, va_K.moved hW.alike (hK.sub (tys' := []) [] rfl), by rw [hAe]; exact hD⟩, by rw [hAe]; exact hS.F ht⟩) hS.2.2 dX10_readCart_140
  exact lp41 2003 0 s15 _ _ _ (iv_mono (c := 0) (d := 255) (iv_c (by decide) : Iv 0 0 0) (by decide) (by decide)) (Int.le_trans k8.2 (Int.le_trans k12.2 (Int.le_trans (show (s9 0 8).toInt ≤ (s13 0 8).toInt from by rw [(congrFun (sw_at es13 (by decide)) 8)]; exact Int.le_refl _) k17.2))) (fun z9 => by have y0 : (s15 0 12) = 0 := z9; have k562 := k17.1 y0; have k563 : s13 0 12 = 0 := k562; rw [(congrFun (sw_at es13 (by decide)) 12)] at k563; have k564 := k12.1 k563; have k565 : s6 0 12 = 0 := k564; have k566 := k8.1 k565; have k567 : st 0 12 = 0 := k566; exact k567) hBs15 fr_rf rfl rfl rfl rfl rfl rfl rfl rfl rfl rfl rfl hP hD hS (lv_sub hl [0, 1, 2, 3] rfl) (by have y9 := ((rm_0_8 hBs15)).1; split <;> omega)
