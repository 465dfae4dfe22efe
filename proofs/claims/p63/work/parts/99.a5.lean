set_option maxHeartbeats 4000000 in
set_option maxRecDepth 100000 in
theorem m_X10_readWheel (l : Launch) (D : va_G) (k : Nat → ClassId) (a : Nat → Nat) (st : CT) (sl : CL) (sz : Nat) (hB : MB st)  (hj : Iv 0 7 (st 6 3)) : Met l yX10_readWheel (.code yX10_readWheel cX10_readWheel 4 none :: TB) (rmw 9 0 0) (va_Pc [.ref (a 0)] (PX D k sz (MWS k a st sl) NS)) (QV D (S := CT) (fun u => MB u ∧ FR [0, 6] st u ∧ u 0 0 = st 0 0 ∧ u 0 5 = st 0 5 ∧ u 0 7 = st 0 7 ∧ u 0 20 = st 0 20 ∧ u 0 21 = st 0 21 ∧ u 0 22 = st 0 22 ∧ u 0 26 = st 0 26 ∧ u 0 27 = st 0 27 ∧ u 0 29 = st 0 29 ∧ u 0 31 = st 0 31 ∧ u 0 33 = st 0 33 ∧ ((u 0 12 = 0 → st 0 12 = 0) ∧ (st 0 8).toInt ≤ (u 0 8).toInt)) (fun u => MWS k a u sl) (fun _ => []) (MWS k a st sl) sz) 0 0 (va_A (MWS k a st sl) sz) := by
  refine Met.ofW (cc := cX10_readWheel) (maxL := 4) (ret := none) (by decide) rfl ?_
  intro p e s m args below meth c s₁ B hml hv
  obtain ⟨rfl, hsz, hP, hK, hD0, hN, hX⟩ := hv
  have hx := B.exec
  have hb := B.bytes
  have hr := B.returns
  have hT : ∀ w9 ∈ TB, w9.before ([.ref (a 0)] : List Value).toArray s = true := fun w9 h => atoms_spec (ws := .code yX10_readWheel cX10_readWheel 4 none :: TB) B.pre w9 (List.mem_cons_of_mem _ h)
  have hown : s.vm.findClass RX10 = some m.cls := findClass_of_methodNamed B.named
  have S : CallFix p m c cX10_readWheel 4 s _ TB RX10 := ⟨hx, hb, hml, hown, hT⟩
  subst hsz
  have hD := hD0.self (sz := s.heap.size)
  generalize hAe : va_A (MWS k a st sl) s.heap.size = A at hD hX ⊢
  have hA : ∀ q : Nat, s.heap.size ≤ q → A q := fun q h => by rw [← hAe]; exact Or.inr h
  have hS : va_S A s.heap s.heap [] := va_S.rf
  have hl := lv_entry ([.ref (a 0)]) (n := 4) (Nat.le_of_ble_eq_true rfl)
  rw [lg_entry_eq]
  generalize (lg_sl ([.ref (a 0)]) ++ List.replicate (4 - (lg_sl ([.ref (a 0)])).length) Slot.unset).toArray = ls at hl ⊢
  have hl : lv_has ls 4 [(0, .ref (a 0))] := hl
  refine nameQ (fun Q hQ => ?_)
  refine lv_bipush (v := 32) hx hb dX10_readWheel_0 (by decide) ?_
  refine lv_bipush (v := 9) hx hb dX10_readWheel_2 (by decide) ?_
  refine lv_aload_n hx hb dX10_readWheel_4 rfl (lv_at hl 0 rfl) ?_
  refine va_get (D := D) (ci := 10) (v := .ref (a 6)) (C := RX10) (T := TX10) (N := 38) hx hb hT in_X10 hown hK hP 0 mw_0 rfl 14 (by decide) (hT _ t1276) (fun _ h9 => h9) rfl dX10_readWheel_5 ?_
  refine lv_iconst (v := 3) hx hb dX10_readWheel_8 (by decide) ?_
  refine va_iald hx hb hK hP 6 0 mw_6 rfl (by unfold vp_in; decide) dX10_readWheel_9 ?_
  refine k_top (y := (st 6 3)) rfl ?_
  refine lv_imul hx hb dX10_readWheel_10 ?_
  refine lv_topi (fun z1 ez1 => ?_)
  have h2 : Iv 0 63 z1 := iv_mull ez1 hj (k := 9) (by decide) (by decide) (by decide) (by decide) (by decide) (by decide)
  refine lv_iadd hx hb dX10_readWheel_11 ?_
  refine lv_topi (fun z3 ez3 => ?_)
  have h4 : Iv 32 95 z3 := iv_add ez3 (iv_c (by decide) : Iv 32 32 32) h2 (by decide) (by decide) (by decide) (by decide)
  refine lv_istore_n (lv' := [(1, .int z3), (0, .ref (a 0))]) hx hb dX10_readWheel_12 rfl hl (by decide) rfl (fun ls hl => ?_)
  refine lv_aload_n hx hb dX10_readWheel_13 rfl (lv_at hl 1 rfl) ?_
  refine va_get (D := D) (ci := 10) (v := .ref (a 6)) (C := RX10) (T := TX10) (N := 38) hx hb hT in_X10 hown hK hP 0 mw_0 rfl 14 (by decide) (hT _ t1276) (fun _ h9 => h9) rfl dX10_readWheel_14 ?_
  refine lv_iload_n hx hb dX10_readWheel_17 rfl (lv_at hl 0 rfl) ?_
  refine lv_aload_n hx hb dX10_readWheel_18 rfl (lv_at hl 1 rfl) ?_
  obtain ⟨w5, vw5, tw5⟩ := hX.2 _ (List.mem_of_getElem? (l := LIT) (i := 23) rfl)
  have vw5 : vk_R RX10 181 "rim" w5 s := vw5
  have tw5 : STA A w5 3 (fun j9 => ([114, 105, 109] : List Int32).getD j9 0) s s.heap := tw5
  refine va_ldcS hx hb hown vw5 dX10_readWheel_19 ?_
  refine lv_iconst (v := 0) hx hb dX10_readWheel_21 (by decide) ?_
  refine lv_sipush (v := 999) hx hb dX10_readWheel_22 (by decide) ?_
  refine ca_i hP hD hS hA (fun hDc => run_V (mc := 0) (ms := 0) (As := [.ref w5, .int 0, .int 999]) (rest := [.int z3, .ref (a 6)]) S (m_X10_told l D k a st sl  0 999 w5 3 (fun j9 => ([114, 105, 109] : List Int32).getD j9 0) _  hB (by decide) ) lkX10_177 ok_X10_told ⟨rfl, rfl, Nat.le_of_ble_eq_true rfl, Nat.le_of_ble_eq_true rfl⟩ (px_V (ci := 10) (q0 := 0) nice_NSW hK hN rfl mw_0 hP hDc (show NSW w5 3 (fun j9 => ([114, 105, 109] : List Int32).getD j9 0) A s s.heap from ⟨hX, tw5⟩) hS (px_free hD hS hA)) rfl hl.1 rfl (Nat.le_of_ble_eq_true rfl) ⟨Nat.zero_le _, Nat.zero_le _⟩ dX10_readWheel_25) (fun r7 s6 H9 locs9 hs6 hP9 hD9 hS9 => ?_)
  clear hP hD hS
  have hS := hS9
  have hP := hP9
  have hD := hD9
  clear hP9 hD9 hS9
  obtain ⟨hBs6, gs6, qs6_0, qs6_1, qs6_2, qs6_3, qs6_4, qs6_5, qs6_6, qs6_7, qs6_8, qs6_9, qs6_10, fs6⟩ := hs6
  have hFs6 : FR [0, 6] st s6 := fr_ca fr_rf gs6 (sub_1 (List.mem_of_getElem? (i := 0) rfl) sub_0)
  have k8 := fs6
  have k9 : Iv 0 999 r7 := (by rcases k8.2.2 with q9 | q9; (rw [q9]; exact ⟨by decide, by decide⟩); (obtain ⟨y1, y2⟩ := id ((iv_c (by decide) : Iv 0 0 0)); obtain ⟨y3, y4⟩ := id ((iv_c (by decide) : Iv 999 999 999)); exact ⟨by omega, by omega⟩))
  refine c_ist hx hb hK hP hD hS mw_6 ms_6 (iv_in h4 (by decide) (by decide)) dX10_readWheel_28 (fun s10 H9 locs9 es10 hP9 hD9 hS9 => ?_)
  clear hP hD hS
  have hS := hS9
  have hP := hP9
  have hD := hD9
  clear hP9 hD9 hS9
  have hBs10 : MB s10 := by rw [es10]; exact mb_sw hBs6 (fok_bd (hBs6 6) (bd_f h4 (by decide) (by decide)) (iv_full r7))
  have hFs10 : FR [0, 6] st s10 := fr_sw hFs6 (List.mem_of_getElem? (i := 1) rfl) es10
  refine lv_iconst (v := 0) hx hb dX10_readWheel_29 (by decide) ?_
  refine lv_istore_n (lv' := [(2, .int 0), (1, .int z3), (0, .ref (a 0))]) hx hb dX10_readWheel_30 rfl hl (by decide) rfl (fun ls hl => ?_)
  have lp31 : ∀ (n9_31 : Nat) (v2_31 : Int32) (t31 : CT) (H9 : Heap) (locs9 : List Loc) (ls : Array Slot), Iv 0 8 v2_31 → MB t31 → FR [6] s10 t31 → t31 6 3 = s10 6 3 → t31 6 2 = s10 6 2 → va_P D vwCl (MWS k a t31 sl) H9 → va_D A (MWS k a t31 sl) → va_S A s.heap H9 locs9 → lv_has ls 4 [(2, .int v2_31), (1, .int z3), (0, .ref (a 0))] → (8 : Int) - v2_31.toInt < (n9_31 : Int) → W p l e (rmw 9 0 0) s m ([.ref (a 0)] : List Value).toArray below meth c H9 locs9 0 0 Q (F0 m 31 ls []) := by
    clear hl hP hD hS
    intro n9_31
    induction n9_31 with
    | zero =>
      intro v2_31 t31 H9 locs9 ls iv2_31 hBt31 gt31 qt31_0 qt31_1 hP hD hS hl hm31
      exact (fu_0 iv2_31 hm31).elim
    | succ n9_31 ih31 =>
      intro v2_31 t31 H9 locs9 ls iv2_31 hBt31 gt31 qt31_0 qt31_1 hP hD hS hl hm31
      have hFt31 : FR [0, 6] st t31 := fr_ca hFs10 gt31 (sub_1 (List.mem_of_getElem? (i := 1) rfl) sub_0)
      refine lv_iload_n hx hb dX10_readWheel_31 rfl (lv_at hl 0 rfl) ?_
      refine lv_bipush (v := 8) hx hb dX10_readWheel_32 (by decide) ?_
      refine lv_icmp_ge (tgt := 54) hx hb dX10_readWheel_34 (by decide) (fun c103 => ?_) (fun c103 => ?_)
      · skip
        have n104 : (8 : Int32).toInt ≤ v2_31.toInt := (i_le c103)
        have h105 : Iv 8 8 v2_31 := le_r (iv_c (by decide) : Iv 8 8 8) n104 iv2_31 (by decide)
        have lp54 : ∀ (n9_54 : Nat) (v2_54 : Int32) (t54 : CT) (H9 : Heap) (locs9 : List Loc) (ls : Array Slot), Iv 0 8 v2_54 → ((st 0 8).toInt ≤ (t54 0 8).toInt) → (t54 0 12 = 0 → st 0 12 = 0) → MB t54 → FR [0, 6] t31 t54 → t54 6 3 = t31 6 3 → t54 6 2 = t31 6 2 → t54 0 0 = t31 0 0 → t54 0 5 = t31 0 5 → t54 0 7 = t31 0 7 → t54 0 20 = t31 0 20 → t54 0 21 = t31 0 21 → t54 0 22 = t31 0 22 → t54 0 26 = t31 0 26 → t54 0 27 = t31 0 27 → t54 0 29 = t31 0 29 → t54 0 31 = t31 0 31 → t54 0 33 = t31 0 33 → va_P D vwCl (MWS k a t54 sl) H9 → va_D A (MWS k a t54 sl) → va_S A s.heap H9 locs9 → lv_has ls 4 [(2, .int v2_54), (1, .int z3), (0, .ref (a 0))] → ((1000 : Int) - (t54 0 8).toInt).toNat < n9_54 → W p l e (rmw 9 0 0) s m ([.ref (a 0)] : List Value).toArray below meth c H9 locs9 0 0 Q (F0 m 54 ls []) := by
          clear hl hP hD hS
          intro n9_54
          induction n9_54 with
          | zero =>
            intro v2_54 t54 H9 locs9 ls iv2_54 rel54_0 rel54_1 hBt54 gt54 qt54_0 qt54_1 qt54_2 qt54_3 qt54_4 qt54_5 qt54_6 qt54_7 qt54_8 qt54_9 qt54_10 qt54_11 qt54_12 hP hD hS hl hm54
            exact absurd hm54 (Nat.not_lt_zero _)
          | succ n9_54 ih54 =>
            intro v2_54 t54 H9 locs9 ls iv2_54 rel54_0 rel54_1 hBt54 gt54 qt54_0 qt54_1 qt54_2 qt54_3 qt54_4 qt54_5 qt54_6 qt54_7 qt54_8 qt54_9 qt54_10 qt54_11 qt54_12 hP hD hS hl hm54
            have hFt54 : FR [0, 6] st t54 := fr_ca hFt31 gt54 (sub_1 (List.mem_of_getElem? (i := 0) rfl) (sub_1 (List.mem_of_getElem? (i := 1) rfl) sub_0))
            refine lv_aload_n hx hb dX10_readWheel_54 rfl (lv_at hl 2 rfl) ?_
            obtain ⟨w182, vw182, tw182⟩ := hX.2 _ (List.mem_of_getElem? (l := LIT) (i := 24) rfl)
            have vw182 : vk_R RX10 182 "likes" w182 s := vw182
            have tw182 : STA A w182 5 (fun j9 => ([108, 105, 107, 101, 115] : List Int32).getD j9 0) s s.heap := tw182
            refine va_ldcS hx hb hown vw182 dX10_readWheel_55 ?_
            refine ca_i hP hD hS hA (fun hDc => run_V (mc := 0) (ms := 0) (As := [.ref w182]) (rest := []) S (m_X10_takes l D k a t54 sl   w182 5 (fun j9 => ([108, 105, 107, 101, 115] : List Int32).getD j9 0) _  hBt54 (by decide) ) lkX10_157 ok_X10_takes ⟨rfl, rfl, Nat.le_of_ble_eq_true rfl, Nat.le_of_ble_eq_true rfl⟩ (px_V (ci := 10) (q0 := 0) nice_NSW hK hN rfl mw_0 hP hDc (show NSW w182 5 (fun j9 => ([108, 105, 107, 101, 115] : List Int32).getD j9 0) A s s.heap from ⟨hX, tw182⟩) hS (px_free hD hS hA)) rfl hl.1 rfl (Nat.le_of_ble_eq_true rfl) ⟨Nat.zero_le _, Nat.zero_le _⟩ dX10_readWheel_57) (fun r184 s183 H9 locs9 hs183 hP9 hD9 hS9 => ?_)
            clear hP hD hS
            have hS := hS9
            have hP := hP9
            have hD := hD9
            clear hP9 hD9 hS9
            obtain ⟨hBs183, gs183, qs183_0, qs183_1, qs183_2, qs183_3, qs183_4, qs183_5, qs183_6, qs183_7, qs183_8, qs183_9, qs183_10, qs183_11, qs183_12, fs183⟩ := hs183
            have hFs183 : FR [0, 6] st s183 := fr_ca hFt54 gs183 (sub_1 (List.mem_of_getElem? (i := 0) rfl) sub_0)
            rcases fs183 with ⟨rfl, g9⟩ | ⟨rfl, g9⟩
            · skip
              have g185 := g9
              have k186 := g185
              refine lv_if_eq (tgt := 107) hx hb dX10_readWheel_60 (by decide) (fun c187 => ?_) (fun c187 => ?_)
              · first | exact absurd c187 (by decide) | exact absurd (by decide) c187
              refine lv_aload_n hx hb dX10_readWheel_63 rfl (lv_at hl 2 rfl) ?_
              refine lv_iconst (v := 0) hx hb dX10_readWheel_64 (by decide) ?_
              refine lv_aload_n hx hb dX10_readWheel_65 rfl (lv_at hl 2 rfl) ?_
              refine va_get (D := D) (ci := 10) (v := .ref (a 6)) (C := RX10) (T := TX10) (N := 38) hx hb hT in_X10 hown hK hP 0 mw_0 rfl 14 (by decide) (hT _ t1276) (fun _ h9 => h9) rfl dX10_readWheel_66 ?_
              refine lv_iconst (v := 2) hx hb dX10_readWheel_69 (by decide) ?_
              refine va_iald hx hb hK hP 6 0 mw_6 rfl (by unfold vp_in; decide) dX10_readWheel_70 ?_
              refine k_top (y := (s183 6 2)) rfl ?_
              refine k_top (y := (st 6 2)) (Eq.trans (congrFun (gs183 6 (nm_1 (by decide) nm_0)) 2) (Eq.trans qt54_1 (Eq.trans qt31_1 (Eq.trans (Eq.trans (congrFun (sw_it es10) 2) (upd_no (cl_ne h4 (by decide) (by decide)))) (congrFun (gs6 6 (nm_1 (by decide) nm_0)) 2))))) ?_
              have h188 : Iv 0 8 (st 6 2) := (tok_at (rm_6 hB).1 2 0 8 (by decide) (by decide) (by decide))
              refine lv_iconst (v := 1) hx hb dX10_readWheel_71 (by decide) ?_
              refine lv_isub hx hb dX10_readWheel_72 ?_
              refine lv_topi (fun z189 ez189 => ?_)
              have h190 : Iv (-1) 7 z189 := iv_sub ez189 h188 (iv_c (by decide) : Iv 1 1 1) (by decide) (by decide) (by decide) (by decide)
              refine ca_i hP hD hS hA (fun hDc => run_V (mc := 0) (ms := 0) (As := [.int 0, .int z189]) (rest := []) S (m_X10_number l D k a s183 sl  0 z189 _  hBs183  ) lkX10_168 ok_X10_number ⟨rfl, rfl, Nat.le_of_ble_eq_true rfl, Nat.le_of_ble_eq_true rfl⟩ (pw_V (ci := 10) (q0 := 0) hK hN rfl mw_0 hP hDc) rfl hl.1 rfl (Nat.le_of_ble_eq_true rfl) ⟨Nat.zero_le _, Nat.zero_le _⟩ dX10_readWheel_73) (fun r192 s191 H9 locs9 hs191 hP9 hD9 hS9 => ?_)
              clear hP hD hS
              have hS := hS9
              have hP := hP9
              have hD := hD9
              clear hP9 hD9 hS9
              obtain ⟨hBs191, gs191, qs191_0, qs191_1, qs191_2, qs191_3, qs191_4, qs191_5, qs191_6, qs191_7, qs191_8, qs191_9, qs191_10, fs191⟩ := hs191
              have hFs191 : FR [0, 6] st s191 := fr_ca hFs183 gs191 (sub_1 (List.mem_of_getElem? (i := 0) rfl) sub_0)
              have k193 := fs191
              have k194 : Iv 0 7 r192 := (by rcases k193.2.2 with q9 | q9; (rw [q9]; exact ⟨by decide, by decide⟩); (obtain ⟨y1, y2⟩ := id ((iv_c (by decide) : Iv 0 0 0)); obtain ⟨y3, y4⟩ := id (h190); exact ⟨by omega, by omega⟩))
              refine lv_istore_n (lv' := [(2, .int r192), (1, .int z3), (0, .ref (a 0))]) hx hb dX10_readWheel_76 rfl hl (by decide) rfl (fun ls hl => ?_)
              refine lv_aload_n hx hb dX10_readWheel_77 rfl (lv_at hl 2 rfl) ?_
              refine lv_iconst (v := 0) hx hb dX10_readWheel_78 (by decide) ?_
              refine lv_bipush (v := 9) hx hb dX10_readWheel_79 (by decide) ?_
              refine ca_i hP hD hS hA (fun hDc => run_V (mc := 0) (ms := 0) (As := [.int 0, .int 9]) (rest := []) S (m_X10_number l D k a s191 sl  0 9 _  hBs191  ) lkX10_168 ok_X10_number ⟨rfl, rfl, Nat.le_of_ble_eq_true rfl, Nat.le_of_ble_eq_true rfl⟩ (pw_V (ci := 10) (q0 := 0) hK hN rfl mw_0 hP hDc) rfl hl.1 rfl (Nat.le_of_ble_eq_true rfl) ⟨Nat.zero_le _, Nat.zero_le _⟩ dX10_readWheel_81) (fun r196 s195 H9 locs9 hs195 hP9 hD9 hS9 => ?_)
              clear hP hD hS
              have hS := hS9
              have hP := hP9
              have hD := hD9
              clear hP9 hD9 hS9
              obtain ⟨hBs195, gs195, qs195_0, qs195_1, qs195_2, qs195_3, qs195_4, qs195_5, qs195_6, qs195_7, qs195_8, qs195_9, qs195_10, fs195⟩ := hs195
              have hFs195 : FR [0, 6] st s195 := fr_ca hFs191 gs195 (sub_1 (List.mem_of_getElem? (i := 0) rfl) sub_0)
              have k197 := fs195
              have k198 : Iv 0 9 r196 := (by rcases k197.2.2 with q9 | q9; (rw [q9]; exact ⟨by decide, by decide⟩); (obtain ⟨y1, y2⟩ := id ((iv_c (by decide) : Iv 0 0 0)); obtain ⟨y3, y4⟩ := id ((iv_c (by decide) : Iv 9 9 9)); exact ⟨by omega, by omega⟩))
              refine lv_istore_n (lv' := [(3, .int r196), (2, .int r192), (1, .int z3), (0, .ref (a 0))]) hx hb dX10_readWheel_84 rfl hl (by decide) rfl (fun ls hl => ?_)
              refine lv_aload_n hx hb dX10_readWheel_85 rfl (lv_at hl 3 rfl) ?_
              refine ro_V (As := []) (rest := []) S (m_X10_good l D k a s195 sl   _  hBs195  ) lkX10_136 ok_X10_good ⟨rfl, rfl, Nat.le_of_ble_eq_true rfl, Nat.le_of_ble_eq_true rfl⟩ (pw_V (ci := 10) (q0 := 0) hK hN rfl mw_0 hP (hD.weaken (fun _ _ _ _ => trivial))) rfl hl.1 rfl (Nat.le_of_ble_eq_true rfl) ⟨Nat.zero_le _, Nat.zero_le _⟩ dX10_readWheel_86 (fun r199 er199 => ?_)
              rcases er199 with ⟨rfl, g9⟩ | ⟨rfl, g9⟩
              · skip
                have g200 := g9
                have k201 := g200
                have k202 := k197.1 k201
                have k203 : s191 0 12 = 0 := k202.1
                have k204 := k193.1 k203
                have k205 : s183 0 12 = 0 := k204.1
                rw [qs183_3] at k205
                have k206 := rel54_1 k205
                have k207 : st 0 12 = 0 := k206
                refine lv_if_ne (tgt := 93) hx hb dX10_readWheel_89 (by decide) (fun c208 => ?_) (fun c208 => ?_)
                rotate_left
                · first | exact absurd c208 (by decide) | exact absurd (by decide) c208
                refine lv_aload_n hx hb dX10_readWheel_93 rfl (lv_at hl 3 rfl) ?_
                refine va_get (D := D) (ci := 10) (v := .ref (a 6)) (C := RX10) (T := TX10) (N := 38) hx hb hT in_X10 hown hK hP 0 mw_0 rfl 14 (by decide) (hT _ t1276) (fun _ h9 => h9) rfl dX10_readWheel_94 ?_
                refine lv_iload_n hx hb dX10_readWheel_97 rfl (lv_at hl 2 rfl) ?_
                refine lv_iconst (v := 1) hx hb dX10_readWheel_98 (by decide) ?_
                refine lv_iadd hx hb dX10_readWheel_99 ?_
                refine lv_topi (fun z209 ez209 => ?_)
                have h210 : Iv 33 96 z209 := iv_add ez209 h4 (iv_c (by decide) : Iv 1 1 1) (by decide) (by decide) (by decide) (by decide)
                refine lv_iload_n hx hb dX10_readWheel_100 rfl (lv_at hl 1 rfl) ?_
                refine lv_iadd hx hb dX10_readWheel_101 ?_
                refine lv_topi (fun z211 ez211 => ?_)
                have h212 : Iv 33 103 z211 := iv_add ez211 h210 k194 (by decide) (by decide) (by decide) (by decide)
                refine lv_iload_n hx hb dX10_readWheel_102 rfl (lv_at hl 0 rfl) ?_
                refine c_ist hx hb hK hP hD hS mw_6 ms_6 (iv_in h212 (by decide) (by decide)) dX10_readWheel_103 (fun s213 H9 locs9 es213 hP9 hD9 hS9 => ?_)
                clear hP hD hS
                have hS := hS9
                have hP := hP9
                have hD := hD9
                clear hP9 hD9 hS9
                have hBs213 : MB s213 := by rw [es213]; exact mb_sw hBs195 (fok_bd (hBs195 6) (bd_f h212 (by decide) (by decide)) (iv_full r196))
                have hFs213 : FR [0, 6] st s213 := fr_sw hFs195 (List.mem_of_getElem? (i := 1) rfl) es213
                refine lv_goto (tgt := 54) hx hb dX10_readWheel_104 (by decide) ?_
                exact ih54 r192 s213 _ _ _ (iv_mono (c := 0) (d := 8) k194 (by decide) (by decide)) (Int.le_trans rel54_0 (Int.le_trans k186.2.1 (Int.le_trans k193.2.1 (Int.le_trans k197.2.1 (show (s195 0 8).toInt ≤ (s213 0 8).toInt from by rw [(congrFun (sw_at es213 (by decide)) 8)]; exact Int.le_refl _))))) (fun _ => rel54_1 k205) hBs213 (fr_sw (fr_ca (fr_ca (fr_ca gt54 gs183 (sub_1 (List.mem_of_getElem? (i := 0) rfl) sub_0)) gs191 (sub_1 (List.mem_of_getElem? (i := 0) rfl) sub_0)) gs195 (sub_1 (List.mem_of_getElem? (i := 0) rfl) sub_0)) (List.mem_of_getElem? (i := 1) rfl) es213) (Eq.trans (Eq.trans (Eq.trans (congrFun (sw_it es213) 3) (upd_no (cl_ne h212 (by decide) (by decide)))) (Eq.trans (congrFun (gs195 6 (nm_1 (by decide) nm_0)) 3) (Eq.trans (congrFun (gs191 6 (nm_1 (by decide) nm_0)) 3) (Eq.trans (congrFun (gs183 6 (nm_1 (by decide) nm_0)) 3) (Eq.trans qt54_0 (Eq.trans qt31_0 (Eq.trans (Eq.trans (congrFun (sw_it es10) 3) (upd_no (cl_ne h4 (by decide) (by decide)))) (congrFun (gs6 6 (nm_1 (by decide) nm_0)) 3)))))))) (Eq.symm (Eq.trans qt31_0 (Eq.trans (Eq.trans (congrFun (sw_it es10) 3) (upd_no (cl_ne h4 (by decide) (by decide)))) (congrFun (gs6 6 (nm_1 (by decide) nm_0)) 3))))) (Eq.trans (Eq.trans (Eq.trans (congrFun (sw_it es213) 2) (upd_no (cl_ne h212 (by decide) (by decide)))) (Eq.trans (congrFun (gs195 6 (nm_1 (by decide) nm_0)) 2) (Eq.trans (congrFun (gs191 6 (nm_1 (by decide) nm_0)) 2) (Eq.trans (congrFun (gs183 6 (nm_1 (by decide) nm_0)) 2) (Eq.trans qt54_1 (Eq.trans qt31_1 (Eq.trans (Eq.trans (congrFun (sw_it es10) 2) (upd_no (cl_ne h4 (by decide) (by decide)))) (congrFun (gs6 6 (nm_1 (by decide) nm_0)) 2)))))))) (Eq.symm (Eq.trans qt31_1 (Eq.trans (Eq.trans (congrFun (sw_it es10) 2) (upd_no (cl_ne h4 (by decide) (by decide)))) (congrFun (gs6 6 (nm_1 (by decide) nm_0)) 2))))) (Eq.trans (Eq.trans (congrFun (sw_at es213 (by decide)) 0) (Eq.trans qs195_0 (Eq.trans qs191_0 (Eq.trans qs183_0 (Eq.trans qt54_2 (Eq.trans (congrFun (gt31 0 (nm_1 (by decide) nm_0)) 0) (Eq.trans (congrFun (sw_at es10 (by decide)) 0) qs6_0))))))) (Eq.symm (Eq.trans (congrFun (gt31 0 (nm_1 (by decide) nm_0)) 0) (Eq.trans (congrFun (sw_at es10 (by decide)) 0) qs6_0)))) (Eq.trans (Eq.trans (congrFun (sw_at es213 (by decide)) 5) (Eq.trans qs195_1 (Eq.trans qs191_1 (Eq.trans qs183_1 (Eq.trans qt54_3 (Eq.trans (congrFun (gt31 0 (nm_1 (by decide) nm_0)) 5) (Eq.trans (congrFun (sw_at es10 (by decide)) 5) qs6_1))))))) (Eq.symm (Eq.trans (congrFun (gt31 0 (nm_1 (by decide) nm_0)) 5) (Eq.trans (congrFun (sw_at es10 (by decide)) 5) qs6_1)))) (Eq.trans (Eq.trans (congrFun (sw_at es213 (by decide)) 7) (Eq.trans qs195_2 (Eq.trans qs191_2 (Eq.trans qs183_2 (Eq.trans qt54_4 (Eq.trans (congrFun (gt31 0 (nm_1 (by decide) nm_0)) 7) (Eq.trans (congrFun (sw_at es10 (by decide)) 7) qs6_2))))))) (Eq.symm (Eq.trans (congrFun (gt31 0 (nm_1 (by decide) nm_0)) 7) (Eq.trans (congrFun (sw_at es10 (by decide)) 7) qs6_2)))) (Eq.trans (Eq.trans (congrFun (sw_at es213 (by decide)) 20) (Eq.trans qs195_3 (Eq.trans qs191_3 (Eq.trans qs183_5 (Eq.trans qt54_5 (Eq.trans (congrFun (gt31 0 (nm_1 (by decide) nm_0)) 20) (Eq.trans (congrFun (sw_at es10 (by decide)) 20) qs6_3))))))) (Eq.symm (Eq.trans (congrFun (gt31 0 (nm_1 (by decide) nm_0)) 20) (Eq.trans (congrFun (sw_at es10 (by decide)) 20) qs6_3)))) (Eq.trans (Eq.trans (congrFun (sw_at es213 (by decide)) 21) (Eq.trans qs195_4 (Eq.trans qs191_4 (Eq.trans qs183_6 (Eq.trans qt54_6 (Eq.trans (congrFun (gt31 0 (nm_1 (by decide) nm_0)) 21) (Eq.trans (congrFun (sw_at es10 (by decide)) 21) qs6_4))))))) (Eq.symm (Eq.trans (congrFun (gt31 0 (nm_1 (by decide) nm_0)) 21) (Eq.trans (congrFun (sw_at es10 (by decide)) 21) qs6_4)))) (Eq.trans (Eq.trans (congrFun (sw_at es213 (by decide)) 22) (Eq.trans qs195_5 (Eq.trans qs191_5 (Eq.trans qs183_7 (Eq.trans qt54_7 (Eq.trans (congrFun (gt31 0 (nm_1 (by decide) nm_0)) 22) (Eq.trans (congrFun (sw_at es10 (by decide)) 22) qs6_5))))))) (Eq.symm (Eq.trans (congrFun (gt31 0 (nm_1 (by decide) nm_0)) 22) (Eq.trans (congrFun (sw_at es10 (by decide)) 22) qs6_5)))) (Eq.trans (Eq.trans (congrFun (sw_at es213 (by decide)) 26) (Eq.trans qs195_6 (Eq.trans qs191_6 (Eq.trans qs183_8 (Eq.trans qt54_8 (Eq.trans (congrFun (gt31 0 (nm_1 (by decide) nm_0)) 26) (Eq.trans (congrFun (sw_at es10 (by decide)) 26) qs6_6))))))) (Eq.symm (Eq.trans (congrFun (gt31 0 (nm_1 (by decide) nm_0)) 26) (Eq.trans (congrFun (sw_at es10 (by decide)) 26) qs6_6)))) (Eq.trans (Eq.trans (congrFun (sw_at es213 (by decide)) 27) (Eq.trans qs195_7 (Eq.trans qs191_7 (Eq.trans qs183_9 (Eq.trans qt54_9 (Eq.trans (congrFun (gt31 0 (nm_1 (by decide) nm_0)) 27) (Eq.trans (congrFun (sw_at es10 (by decide)) 27) qs6_7))))))) (Eq.symm (Eq.trans (congrFun (gt31 0 (nm_1 (by decide) nm_0)) 27) (Eq.trans (congrFun (sw_at es10 (by decide)) 27) qs6_7)))) (Eq.trans (Eq.trans (congrFun (sw_at es213 (by decide)) 29) (Eq.trans qs195_8 (Eq.trans qs191_8 (Eq.trans qs183_10 (Eq.trans qt54_10 (Eq.trans (congrFun (gt31 0 (nm_1 (by decide) nm_0)) 29) (Eq.trans (congrFun (sw_at es10 (by decide)) 29) qs6_8))))))) (Eq.symm (Eq.trans (congrFun (gt31 0 (nm_1 (by decide) nm_0)) 29) (Eq.trans (congrFun (sw_at es10 (by decide)) 29) qs6_8)))) (Eq.trans (Eq.trans (congrFun (sw_at es213 (by decide)) 31) (Eq.trans qs195_9 (Eq.trans qs191_9 (Eq.trans qs183_11 (Eq.trans qt54_11 (Eq.trans (congrFun (gt31 0 (nm_1 (by decide) nm_0)) 31) (Eq.trans (congrFun (sw_at es10 (by decide)) 31) qs6_9))))))) (Eq.symm (Eq.trans (congrFun (gt31 0 (nm_1 (by decide) nm_0)) 31) (Eq.trans (congrFun (sw_at es10 (by decide)) 31) qs6_9)))) (Eq.trans (Eq.trans (congrFun (sw_at es213 (by decide)) 33) (Eq.trans qs195_10 (Eq.trans qs191_10 (Eq.trans qs183_12 (Eq.trans qt54_12 (Eq.trans (congrFun (gt31 0 (nm_1 (by decide) nm_0)) 33) (Eq.trans (congrFun (sw_at es10 (by decide)) 33) qs6_10))))))) (Eq.symm (Eq.trans (congrFun (gt31 0 (nm_1 (by decide) nm_0)) 33) (Eq.trans (congrFun (sw_at es10 (by decide)) 33) qs6_10)))) hP hD hS (lv_sub hl [1, 2, 3] rfl) (by have y1 := k186.2.2 (by rw [k204.2.1]; decide); have y2 := (Int.le_trans k193.2.1 (Int.le_trans k197.2.1 (show (s195 0 8).toInt ≤ (s213 0 8).toInt from by rw [(congrFun (sw_at es213 (by decide)) 8)]; exact Int.le_refl _))); have y3 := ((eq_l (congrFun (sw_at es213 (by decide)) 8) (rm_0_8 hBs195))).2; omega)
              · skip
                have g214 := g9
                have k215 := g214
                refine lv_if_ne (tgt := 93) hx hb dX10_readWheel_89 (by decide) (fun c216 => ?_) (fun c216 => ?_)
                · first | exact absurd c216 (by decide) | exact absurd (by decide) c216
                rw [hQ]
                exact W.vret hx hb hr (fun t ht hW => ⟨⟨s195, rfl, ⟨hBs195, hFs195, (Eq.trans qs195_0 (Eq.trans qs191_0 (Eq.trans qs183_0 (Eq.trans qt54_2 (Eq.trans (congrFun (gt31 0 (nm_1 (by decide) nm_0)) 0) (Eq.trans (congrFun (sw_at es10 (by decide)) 0) qs6_0)))))), (Eq.trans qs195_1 (Eq.trans qs191_1 (Eq.trans qs183_1 (Eq.trans qt54_3 (Eq.trans (congrFun (gt31 0 (nm_1 (by decide) nm_0)) 5) (Eq.trans (congrFun (sw_at es10 (by decide)) 5) qs6_1)))))), (Eq.trans qs195_2 (Eq.trans qs191_2 (Eq.trans qs183_2 (Eq.trans qt54_4 (Eq.trans (congrFun (gt31 0 (nm_1 (by decide) nm_0)) 7) (Eq.trans (congrFun (sw_at es10 (by decide)) 7) qs6_2)))))), (Eq.trans qs195_3 (Eq.trans qs191_3 (Eq.trans qs183_5 (Eq.trans qt54_5 (Eq.trans (congrFun (gt31 0 (nm_1 (by decide) nm_0)) 20) (Eq.trans (congrFun (sw_at es10 (by decide)) 20) qs6_3)))))), (Eq.trans qs195_4 (Eq.trans qs191_4 (Eq.trans qs183_6 (Eq.trans qt54_6 (Eq.trans (congrFun (gt31 0 (nm_1 (by decide) nm_0)) 21) (Eq.trans (congrFun (sw_at es10 (by decide)) 21) qs6_4)))))), (Eq.trans qs195_5 (Eq.trans qs191_5 (Eq.trans qs183_7 (Eq.trans qt54_7 (Eq.trans (congrFun (gt31 0 (nm_1 (by decide) nm_0)) 22) (Eq.trans (congrFun (sw_at es10 (by decide)) 22) qs6_5)))))), (Eq.trans qs195_6 (Eq.trans qs191_6 (Eq.trans qs183_8 (Eq.trans qt54_8 (Eq.trans (congrFun (gt31 0 (nm_1 (by decide) nm_0)) 26) (Eq.trans (congrFun (sw_at es10 (by decide)) 26) qs6_6)))))), (Eq.trans qs195_7 (Eq.trans qs191_7 (Eq.trans qs183_9 (Eq.trans qt54_9 (Eq.trans (congrFun (gt31 0 (nm_1 (by decide) nm_0)) 27) (Eq.trans (congrFun (sw_at es10 (by decide)) 27) qs6_7)))))), (Eq.trans qs195_8 (Eq.trans qs191_8 (Eq.trans qs183_10 (Eq.trans qt54_10 (Eq.trans (congrFun (gt31 0 (nm_1 (by decide) nm_0)) 29) (Eq.trans (congrFun (sw_at es10 (by decide)) 29) qs6_8)))))), (Eq.trans qs195_9 (Eq.trans qs191_9 (Eq.trans qs183_11 (Eq.trans qt54_11 (Eq.trans (congrFun (gt31 0 (nm_1 (by decide) nm_0)) 31) (Eq.trans (congrFun (sw_at es10 (by decide)) 31) qs6_9)))))), (Eq.trans qs195_10 (Eq.trans qs191_10 (Eq.trans qs183_12 (Eq.trans qt54_12 (Eq.trans (congrFun (gt31 0 (nm_1 (by decide) nm_0)) 33) (Eq.trans (congrFun (sw_at es10 (by decide)) 33) qs6_10)))))), ⟨(fun z9 => absurd z9 k215), (Int.le_trans rel54_0 (Int.le_trans k186.2.1 (Int.le_trans k193.2.1 k197.2.1)))⟩⟩, by rw [ht]; exact hP, va_K.moved hW.alike (hK.sub (tys' := []) [] rfl), by rw [hAe]; exact hD⟩, by rw [hAe]; exact hS.F ht⟩) hS.2.2 dX10_readWheel_92
            · skip
              have g217 := g9
              have k218 := g217
              refine lv_if_eq (tgt := 107) hx hb dX10_readWheel_60 (by decide) (fun c219 => ?_) (fun c219 => ?_)
              rotate_left
              · first | exact absurd c219 (by decide) | exact absurd (by decide) c219
              refine lv_aload_n hx hb dX10_readWheel_107 rfl (lv_at hl 2 rfl) ?_
              refine va_get (D := D) (ci := 10) (v := .ref (a 6)) (C := RX10) (T := TX10) (N := 38) hx hb hT in_X10 hown hK hP 0 mw_0 rfl 14 (by decide) (hT _ t1276) (fun _ h9 => h9) rfl dX10_readWheel_108 ?_
              refine lv_iconst (v := 3) hx hb dX10_readWheel_111 (by decide) ?_
              refine lv_dup2_11 hx hb dX10_readWheel_112 rfl rfl ?_
              refine va_iald hx hb hK hP 6 0 mw_6 rfl (by unfold vp_in; decide) dX10_readWheel_113 ?_
              refine k_top (y := (s183 6 3)) rfl ?_
              refine k_top (y := (st 6 3)) (Eq.trans (congrFun (gs183 6 (nm_1 (by decide) nm_0)) 3) (Eq.trans qt54_0 (Eq.trans qt31_0 (Eq.trans (Eq.trans (congrFun (sw_it es10) 3) (upd_no (cl_ne h4 (by decide) (by decide)))) (congrFun (gs6 6 (nm_1 (by decide) nm_0)) 3))))) ?_
              refine lv_iconst (v := 1) hx hb dX10_readWheel_114 (by decide) ?_
              refine lv_iadd hx hb dX10_readWheel_115 ?_
              refine lv_topi (fun z220 ez220 => ?_)
              have h221 : Iv 1 8 z220 := iv_add ez220 hj (iv_c (by decide) : Iv 1 1 1) (by decide) (by decide) (by decide) (by decide)
              refine c_ist hx hb hK hP hD hS mw_6 ms_6 (by unfold vp_in; decide) dX10_readWheel_116 (fun s222 H9 locs9 es222 hP9 hD9 hS9 => ?_)
              clear hP hD hS
              have hS := hS9
              have hP := hP9
              have hD := hD9
              clear hP9 hD9 hS9
              have hBs222 : MB s222 := by rw [es222]; exact mb_sw hBs183 (fok_bd (i := 3) (hBs183 6) ⟨by decide, by decide, by decide, by decide⟩ (iv_mono (c := 0) (d := 8) h221 (by decide) (by decide)))
              have hFs222 : FR [0, 6] st s222 := fr_sw hFs183 (List.mem_of_getElem? (i := 1) rfl) es222
              rw [hQ]
              exact W.vret hx hb hr (fun t ht hW => ⟨⟨s222, rfl, ⟨hBs222, hFs222, (Eq.trans (congrFun (sw_at es222 (by decide)) 0) (Eq.trans qs183_0 (Eq.trans qt54_2 (Eq.trans (congrFun (gt31 0 (nm_1 (by decide) nm_0)) 0) (Eq.trans (congrFun (sw_at es10 (by decide)) 0) qs6_0))))), (Eq.trans (congrFun (sw_at es222 (by decide)) 5) (Eq.trans qs183_1 (Eq.trans qt54_3 (Eq.trans (congrFun (gt31 0 (nm_1 (by decide) nm_0)) 5) (Eq.trans (congrFun (sw_at es10 (by decide)) 5) qs6_1))))), (Eq.trans (congrFun (sw_at es222 (by decide)) 7) (Eq.trans qs183_2 (Eq.trans qt54_4 (Eq.trans (congrFun (gt31 0 (nm_1 (by decide) nm_0)) 7) (Eq.trans (congrFun (sw_at es10 (by decide)) 7) qs6_2))))), (Eq.trans (congrFun (sw_at es222 (by decide)) 20) (Eq.trans qs183_5 (Eq.trans qt54_5 (Eq.trans (congrFun (gt31 0 (nm_1 (by decide) nm_0)) 20) (Eq.trans (congrFun (sw_at es10 (by decide)) 20) qs6_3))))), (Eq.trans (congrFun (sw_at es222 (by decide)) 21) (Eq.trans qs183_6 (Eq.trans qt54_6 (Eq.trans (congrFun (gt31 0 (nm_1 (by decide) nm_0)) 21) (Eq.trans (congrFun (sw_at es10 (by decide)) 21) qs6_4))))), (Eq.trans (congrFun (sw_at es222 (by decide)) 22) (Eq.trans qs183_7 (Eq.trans qt54_7 (Eq.trans (congrFun (gt31 0 (nm_1 (by decide) nm_0)) 22) (Eq.trans (congrFun (sw_at es10 (by decide)) 22) qs6_5))))), (Eq.trans (congrFun (sw_at es222 (by decide)) 26) (Eq.trans qs183_8 (Eq.trans qt54_8 (Eq.trans (congrFun (gt31 0 (nm_1 (by decide) nm_0)) 26) (Eq.trans (congrFun (sw_at es10 (by decide)) 26) qs6_6))))), (Eq.trans (congrFun (sw_at es222 (by decide)) 27) (Eq.trans qs183_9 (Eq.trans qt54_9 (Eq.trans (congrFun (gt31 0 (nm_1 (by decide) nm_0)) 27) (Eq.trans (congrFun (sw_at es10 (by decide)) 27) qs6_7))))), (Eq.trans (congrFun (sw_at es222 (by decide)) 29) (Eq.trans qs183_10 (Eq.trans qt54_10 (Eq.trans (congrFun (gt31 0 (nm_1 (by decide) nm_0)) 29) (Eq.trans (congrFun (sw_at es10 (by decide)) 29) qs6_8))))), (Eq.trans (congrFun (sw_at es222 (by decide)) 31) (Eq.trans qs183_11 (Eq.trans qt54_11 (Eq.trans (congrFun (gt31 0 (nm_1 (by decide) nm_0)) 31) (Eq.trans (congrFun (sw_at es10 (by decide)) 31) qs6_9))))), (Eq.trans (congrFun (sw_at es222 (by decide)) 33) (Eq.trans qs183_12 (Eq.trans qt54_12 (Eq.trans (congrFun (gt31 0 (nm_1 (by decide) nm_0)) 33) (Eq.trans (congrFun (sw_at es10 (by decide)) 33) qs6_10))))), ⟨(fun z9 => by have y0 : (t54 0 12) = 0 := (Eq.trans (Eq.symm (Eq.trans (congrFun (sw_at es222 (by decide)) 12) qs183_3)) z9); have k223 := rel54_1 y0; have k224 : st 0 12 = 0 := k223; exact k224), (Int.le_trans rel54_0 (Int.le_trans (show (t54 0 8).toInt ≤ (s183 0 8).toInt from by rw [k218.2]; exact Int.le_refl _) (show (s183 0 8).toInt ≤ (s222 0 8).toInt from by rw [(congrFun (sw_at es222 (by decide)) 8)]; exact Int.le_refl _)))⟩⟩, by rw [ht]; exact hP, va_K.moved hW.alike (hK.sub (tys' := []) [] rfl), by rw [hAe]; exact hD⟩, by rw [hAe]; exact hS.F ht⟩) hS.2.2 dX10_readWheel_117
        exact lp54 1002 v2_31 t31 _ _ _ (iv_mono (c := 0) (d := 8) h105 (by decide) (by decide)) (Int.le_trans k8.2.1 (Int.le_trans (show (s6 0 8).toInt ≤ (s10 0 8).toInt from by rw [(congrFun (sw_at es10 (by decide)) 8)]; exact Int.le_refl _) (show (s10 0 8).toInt ≤ (t31 0 8).toInt from by rw [(congrFun (gt31 0 (nm_1 (by decide) nm_0)) 8)]; exact Int.le_refl _))) (fun z9 => by have y0 : (s6 0 12) = 0 := (Eq.trans (Eq.symm (Eq.trans (congrFun (gt31 0 (nm_1 (by decide) nm_0)) 12) (congrFun (sw_at es10 (by decide)) 12))) z9); have k225 := k8.1 y0; have k226 : st 0 12 = 0 := k225; exact k226) hBt31 fr_rf rfl rfl rfl rfl rfl rfl rfl rfl rfl rfl rfl rfl rfl hP hD hS (lv_sub hl [0, 1, 2] rfl) (by have y9 := ((eq_l (Eq.trans (congrFun (gt31 0 (nm_1 (by decide) nm_0)) 8) (congrFun (sw_at es10 (by decide)) 8)) (rm_0_8 hBs6))).1; omega)
      · skip
        have n227 : v2_31.toInt < (8 : Int32).toInt := (i_nle c103)
        have h228 : Iv 0 7 v2_31 := lt_l iv2_31 n227 (iv_c (by decide) : Iv 8 8 8) (by decide)
        refine lv_aload_n hx hb dX10_readWheel_37 rfl (lv_at hl 2 rfl) ?_
        refine va_get (D := D) (ci := 10) (v := .ref (a 6)) (C := RX10) (T := TX10) (N := 38) hx hb hT in_X10 hown hK hP 0 mw_0 rfl 14 (by decide) (hT _ t1276) (fun _ h9 => h9) rfl dX10_readWheel_38 ?_
        refine lv_iload_n hx hb dX10_readWheel_41 rfl (lv_at hl 1 rfl) ?_
        refine lv_iconst (v := 1) hx hb dX10_readWheel_42 (by decide) ?_
        refine lv_iadd hx hb dX10_readWheel_43 ?_
        refine lv_topi (fun z229 ez229 => ?_)
        have h230 : Iv 33 96 z229 := iv_add ez229 h4 (iv_c (by decide) : Iv 1 1 1) (by decide) (by decide) (by decide) (by decide)
        refine lv_iload_n hx hb dX10_readWheel_44 rfl (lv_at hl 0 rfl) ?_
        refine lv_iadd hx hb dX10_readWheel_45 ?_
        refine lv_topi (fun z231 ez231 => ?_)
        have h232 : Iv 33 103 z231 := iv_add ez231 h230 h228 (by decide) (by decide) (by decide) (by decide)
        refine lv_iconst (v := 0) hx hb dX10_readWheel_46 (by decide) ?_
        refine c_ist hx hb hK hP hD hS mw_6 ms_6 (iv_in h232 (by decide) (by decide)) dX10_readWheel_47 (fun s233 H9 locs9 es233 hP9 hD9 hS9 => ?_)
        clear hP hD hS
        have hS := hS9
        have hP := hP9
        have hD := hD9
        clear hP9 hD9 hS9
        have hBs233 : MB s233 := by rw [es233]; exact mb_sw hBt31 (fok_zero (hBt31 6) h232 (by decide) (by decide))
        have hFs233 : FR [0, 6] st s233 := fr_sw hFt31 (List.mem_of_getElem? (i := 1) rfl) es233
        obtain ⟨z234, ez234⟩ : ∃ z9 : Int32, z9 = v2_31 + Int32.ofInt 1 := ⟨_, rfl⟩
        have h235 : Iv 1 8 z234 := iv_inc ez234 h228 (by decide) (by decide) (by decide) (by decide) (by decide) (by decide)
        refine lv_iinc (v := z234) (lv' := [(2, .int z234), (1, .int z3), (0, .ref (a 0))]) hx hb dX10_readWheel_48 hl (k := 0) rfl ez234.symm (by decide) rfl (fun ls hl => ?_)
        refine lv_goto (tgt := 31) hx hb dX10_readWheel_51 (by decide) ?_
        exact ih31 z234 s233 _ _ _ (iv_mono (c := 0) (d := 8) h235 (by decide) (by decide)) hBs233 (fr_sw gt31 (List.mem_of_getElem? (i := 0) rfl) es233) (Eq.trans (Eq.trans (Eq.trans (congrFun (sw_it es233) 3) (upd_no (cl_ne h232 (by decide) (by decide)))) (Eq.trans qt31_0 (Eq.trans (Eq.trans (congrFun (sw_it es10) 3) (upd_no (cl_ne h4 (by decide) (by decide)))) (congrFun (gs6 6 (nm_1 (by decide) nm_0)) 3)))) (Eq.symm (Eq.trans (Eq.trans (congrFun (sw_it es10) 3) (upd_no (cl_ne h4 (by decide) (by decide)))) (congrFun (gs6 6 (nm_1 (by decide) nm_0)) 3)))) (Eq.trans (Eq.trans (Eq.trans (congrFun (sw_it es233) 2) (upd_no (cl_ne h232 (by decide) (by decide)))) (Eq.trans qt31_1 (Eq.trans (Eq.trans (congrFun (sw_it es10) 2) (upd_no (cl_ne h4 (by decide) (by decide)))) (congrFun (gs6 6 (nm_1 (by decide) nm_0)) 2)))) (Eq.symm (Eq.trans (Eq.trans (congrFun (sw_it es10) 2) (upd_no (cl_ne h4 (by decide) (by decide)))) (congrFun (gs6 6 (nm_1 (by decide) nm_0)) 2)))) hP hD hS (lv_sub hl [0, 1, 2] rfl) (fu_s (lo := 0) (ti_inc ez234 h228 (by decide) (by decide) (by decide) (by decide)) (by decide) hm31)
  exact lp31 9 0 s10 _ _ _ (iv_mono (c := 0) (d := 8) (iv_c (by decide) : Iv 0 0 0) (by decide) (by decide)) hBs10 fr_rf rfl rfl hP hD hS (lv_sub hl [0, 1, 2] rfl) (fu_i (iv_mono (c := 0) (d := 8) (iv_c (by decide) : Iv 0 0 0) (by decide) (by decide)) (by decide))
