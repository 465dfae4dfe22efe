set_option maxHeartbeats 4000000 in
set_option maxRecDepth 100000 in
theorem s_X9_votersOf (l : Launch) (D : va_G) (k : Nat → ClassId) (a : Nat → Nat) (st : CT) (sl : CL) (p0 : Int32) (p1 : Int32) (sz : Nat) (hB : CB st)  : Met l yX9_votersOf (.code yX9_votersOf cX9_votersOf 5 (some .int) :: TB) (rmk 4) (va_Pc [.ref (a 0), .int p0, .int p1] (PW D k sz (CWS k a st sl))) (vp_Si (fun r => Iv 0 255 r ∧ (True))) 0 0 (fun _ => False) := by
  refine Met.ofW (cc := cX9_votersOf) (maxL := 5) (ret := (some .int)) (by decide) rfl ?_
  intro p e s m args below meth c s₁ B hml hv
  obtain ⟨rfl, hsz, hP, hK, hD0, hN⟩ := hv
  have hx := B.exec
  have hb := B.bytes
  have hr := B.returns
  have hT : ∀ w9 ∈ TB, w9.before ([.ref (a 0), .int p0, .int p1] : List Value).toArray s = true := fun w9 h => atoms_spec (ws := .code yX9_votersOf cX9_votersOf 5 (some .int) :: TB) B.pre w9 (List.mem_cons_of_mem _ h)
  have hown : s.vm.findClass RX9 = some m.cls := findClass_of_methodNamed B.named
  have S : CallFix p m c cX9_votersOf 5 s _ TB RX9 := ⟨hx, hb, hml, hown, hT⟩
  subst hsz
  have hl := lv_entry ([.ref (a 0), .int p0, .int p1]) (n := 5) (Nat.le_of_ble_eq_true rfl)
  rw [lg_entry_eq]
  generalize (lg_sl ([.ref (a 0), .int p0, .int p1]) ++ List.replicate (5 - (lg_sl ([.ref (a 0), .int p0, .int p1])).length) Slot.unset).toArray = ls at hl ⊢
  have hl : lv_has ls 5 [(0, .ref (a 0)), (1, .int p0), (2, .int p1)] := hl
  refine nameQ (fun Q hQ => ?_)
  refine lv_iconst (v := 0) hx hb dX9_votersOf_0 (by decide) ?_
  refine lv_istore_n (lv' := [(3, .int 0), (0, .ref (a 0)), (1, .int p0), (2, .int p1)]) hx hb dX9_votersOf_1 rfl hl (by decide) rfl (fun ls hl => ?_)
  refine lv_iconst (v := 0) hx hb dX9_votersOf_2 (by decide) ?_
  refine lv_istore (lv' := [(4, .int 0), (3, .int 0), (0, .ref (a 0)), (1, .int p0), (2, .int p1)]) hx hb dX9_votersOf_3 hl (by decide) rfl (fun ls hl => ?_)
  have lp5 : ∀ (n9_5 : Nat) (v4_5 : Int32) (v3_5 : Int32) (ls : Array Slot), Iv 0 8 v4_5 → Iv 0 255 v3_5 → lv_has ls 5 [(4, .int v4_5), (3, .int v3_5), (0, .ref (a 0)), (1, .int p0), (2, .int p1)] → (8 : Int) - v4_5.toInt < (n9_5 : Int) → W p l e (rmk 4) s m ([.ref (a 0), .int p0, .int p1] : List Value).toArray below meth c s.heap [] 0 0 Q (F0 m 5 ls []) := by
    clear hl
    intro n9_5
    induction n9_5 with
    | zero =>
      intro v4_5 v3_5 ls iv4_5 iv3_5 hl hm5
      exact (fu_0 iv4_5 hm5).elim
    | succ n9_5 ih5 =>
      intro v4_5 v3_5 ls iv4_5 iv3_5 hl hm5
      refine lv_iload hx hb dX9_votersOf_5 (lv_at hl 0 rfl) ?_
      refine lv_aload_n hx hb dX9_votersOf_7 rfl (lv_at hl 2 rfl) ?_
      refine va_get (D := D) (ci := 9) (v := .ref (a 17)) (C := RX9) (T := TX9) (N := 11) hx hb hT in_X9 hown hK hP 0 cw_0 rfl 2 (by decide) (hT _ t453) (fun _ h9 => h9) rfl dX9_votersOf_8 ?_
      refine va_get (D := D) (ci := 8) (v := .ref (a 18)) (C := RX8) (T := TX8) (N := 6) hx hb hT in_X8 hown hK hP 17 cw_17 rfl 0 (by decide) (hT _ t312) (fun _ h9 => h9) rfl dX9_votersOf_11 ?_
      refine va_get (D := D) (ci := 1) (v := .int (st 18 4)) (C := RX1) (T := TX1) (N := 14) hx hb hT in_X1 hown hK hP 18 cw_18 rfl 4 (by decide) (hT _ t215) (fun _ h9 => h9) rfl dX9_votersOf_14 ?_
      have h163 : Iv 0 8 (st 18 4) := (rb_18_4 hB)
      refine lv_icmp_ge (tgt := 57) hx hb dX9_votersOf_17 (by decide) (fun c164 => ?_) (fun c164 => ?_)
      · skip
        have n165 : (st 18 4).toInt ≤ v4_5.toInt := (i_le c164)
        refine lv_iload_n hx hb dX9_votersOf_57 rfl (lv_at hl 1 rfl) ?_
        rw [hQ]
        exact W.iret (v := v3_5) hx hb hr (fun t ht hW => ⟨v3_5, rfl, ⟨iv3_5, trivial⟩, ht⟩) (fun _ h9 => by cases h9) dX9_votersOf_58
      · skip
        have n166 : v4_5.toInt < (st 18 4).toInt := (i_nle c164)
        have h167 : Iv 0 7 v4_5 := lt_l iv4_5 n166 h163 (by decide)
        have h168 : Iv 1 8 (st 18 4) := lt_r iv4_5 n166 h163 (by decide)
        refine lv_aload_n hx hb dX9_votersOf_20 rfl (lv_at hl 2 rfl) ?_
        refine va_get (D := D) (ci := 9) (v := .ref (a 17)) (C := RX9) (T := TX9) (N := 11) hx hb hT in_X9 hown hK hP 0 cw_0 rfl 2 (by decide) (hT _ t453) (fun _ h9 => h9) rfl dX9_votersOf_21 ?_
        refine va_get (D := D) (ci := 8) (v := .ref (a 31)) (C := RX8) (T := TX8) (N := 6) hx hb hT in_X8 hown hK hP 17 cw_17 rfl 1 (by decide) (hT _ t314) (fun _ h9 => h9) rfl dX9_votersOf_24 ?_
        refine lv_aload_n hx hb dX9_votersOf_27 rfl (lv_at hl 2 rfl) ?_
        refine va_get (D := D) (ci := 9) (v := .ref (a 17)) (C := RX9) (T := TX9) (N := 11) hx hb hT in_X9 hown hK hP 0 cw_0 rfl 2 (by decide) (hT _ t453) (fun _ h9 => h9) rfl dX9_votersOf_28 ?_
        refine va_get (D := D) (ci := 8) (v := .ref (a 18)) (C := RX8) (T := TX8) (N := 6) hx hb hT in_X8 hown hK hP 17 cw_17 rfl 0 (by decide) (hT _ t312) (fun _ h9 => h9) rfl dX9_votersOf_31 ?_
        refine lv_iload hx hb dX9_votersOf_34 (lv_at hl 0 rfl) ?_
        refine lv_iload_n hx hb dX9_votersOf_36 rfl (lv_at hl 3 rfl) ?_
        refine ro_V (As := [.ref (a 18), .int v4_5, .int p0]) (rest := []) S (s_X5_alone l D k a st sl 31 v4_5 p0 _ (by decide) hB  ) lkX9_344 ok_X5_alone ⟨rfl, rfl, Nat.le_of_ble_eq_true rfl, Nat.le_of_ble_eq_true rfl⟩ (pw_V (ci := 5) (q0 := 31) hK hN rfl cw_31 hP hD0) rfl hl.1 rfl (Nat.le_of_ble_eq_true rfl) ⟨Nat.zero_le _, Nat.zero_le _⟩ dX9_votersOf_37 (fun r169 er169 => ?_)
        have h170 : Iv (-1) 7 r169 := er169.1
        refine lv_iload_n hx hb dX9_votersOf_40 rfl (lv_at hl 4 rfl) ?_
        refine lv_icmp_ne (tgt := 51) hx hb dX9_votersOf_41 (by decide) (fun c171 => ?_) (fun c171 => ?_)
        · skip
          obtain ⟨z172, ez172⟩ : ∃ z9 : Int32, z9 = v4_5 + Int32.ofInt 1 := ⟨_, rfl⟩
          have h173 : Iv 1 8 z172 := iv_inc ez172 h167 (by decide) (by decide) (by decide) (by decide) (by decide) (by decide)
          refine lv_iinc (v := z172) (lv' := [(4, .int z172), (3, .int v3_5), (0, .ref (a 0)), (1, .int p0), (2, .int p1)]) hx hb dX9_votersOf_51 hl (k := 0) rfl ez172.symm (by decide) rfl (fun ls hl => ?_)
          refine lv_goto (tgt := 5) hx hb dX9_votersOf_54 (by decide) ?_
          exact ih5 z172 v3_5 _ (iv_mono (c := 0) (d := 8) h173 (by decide) (by decide)) iv3_5 (lv_sub hl [0, 1, 2, 3, 4] rfl) (fu_s (lo := 0) (ti_inc ez172 h167 (by decide) (by decide) (by decide) (by decide)) (by decide) hm5)
        · skip
          have h174 : Iv (-1) 7 p1 := eq_l c171.symm h170
          refine lv_iload_n hx hb dX9_votersOf_44 rfl (lv_at hl 1 rfl) ?_
          refine lv_iconst (v := 1) hx hb dX9_votersOf_45 (by decide) ?_
          refine lv_iload hx hb dX9_votersOf_46 (lv_at hl 0 rfl) ?_
          refine lv_ishl hx hb dX9_votersOf_48 ?_
          refine lv_topi (fun z175 ez175 => ?_)
          have h176 : Iv 1 128 z175 := iv_shl 7 ez175 h167 (by decide) (by decide) (by decide)
          refine lv_ior hx hb dX9_votersOf_49 ?_
          refine lv_topi (fun z177 ez177 => ?_)
          have h178 : Iv 0 255 z177 := iv_or 8 ez177 iv3_5 (iv_mono (c := 0) (d := 128) h176 (by decide) (by decide)) (by decide) (by decide) (by decide) (by decide)
          refine lv_istore_n (lv' := [(3, .int z177), (4, .int v4_5), (0, .ref (a 0)), (1, .int p0), (2, .int p1)]) hx hb dX9_votersOf_50 rfl hl (by decide) rfl (fun ls hl => ?_)
          obtain ⟨z179, ez179⟩ : ∃ z9 : Int32, z9 = v4_5 + Int32.ofInt 1 := ⟨_, rfl⟩
          have h180 : Iv 1 8 z179 := iv_inc ez179 h167 (by decide) (by decide) (by decide) (by decide) (by decide) (by decide)
          refine lv_iinc (v := z179) (lv' := [(4, .int z179), (3, .int z177), (0, .ref (a 0)), (1, .int p0), (2, .int p1)]) hx hb dX9_votersOf_51 hl (k := 1) rfl ez179.symm (by decide) rfl (fun ls hl => ?_)
          refine lv_goto (tgt := 5) hx hb dX9_votersOf_54 (by decide) ?_
          exact ih5 z179 z177 _ (iv_mono (c := 0) (d := 8) h180 (by decide) (by decide)) h178 (lv_sub hl [0, 1, 2, 3, 4] rfl) (fu_s (lo := 0) (ti_inc ez179 h167 (by decide) (by decide) (by decide) (by decide)) (by decide) hm5)
  exact lp5 9 0 0 _ (iv_mono (c := 0) (d := 8) (iv_c (by decide) : Iv 0 0 0) (by decide) (by decide)) (iv_mono (c := 0) (d := 255) (iv_c (by decide) : Iv 0 0 0) (by decide) (by decide)) (lv_sub hl [0, 1, 2, 3, 4] rfl) (fu_i (iv_mono (c := 0) (d := 8) (iv_c (by decide) : Iv 0 0 0) (by decide) (by decide)) (by decide))
set_option maxHeartbeats 4000000 in
set_option maxRecDepth 100000 in
theorem s_X9_worstAt (l : Launch) (D : va_G) (k : Nat → ClassId) (a : Nat → Nat) (st : CT) (sl : CL) (p0 : Int32) (p1 : Int32) (sz : Nat) (hB : CB st)  : Met l yX9_worstAt (.code yX9_worstAt cX9_worstAt 6 (some .int) :: TB) (rmw 4 0 0) (va_Pc [.ref (a 0), .int p0, .int p1] (PW D k sz (CWS k a st sl))) (QI D (S := CT) (fun r u => CB u ∧ FR [166] st u ∧ (Iv 0 2147483647 r ∧ (True))) (fun u => CWS k a u sl) (fun _ => []) (CWS k a st sl) sz) 0 0 (va_A (CWS k a st sl) sz) := by
  refine Met.ofW (cc := cX9_worstAt) (maxL := 6) (ret := (some .int)) (by decide) rfl ?_
  intro p e s m args below meth c s₁ B hml hv
  obtain ⟨rfl, hsz, hP, hK, hD0, hN⟩ := hv
  have hx := B.exec
  have hb := B.bytes
  have hr := B.returns
  have hT : ∀ w9 ∈ TB, w9.before ([.ref (a 0), .int p0, .int p1] : List Value).toArray s = true := fun w9 h => atoms_spec (ws := .code yX9_worstAt cX9_worstAt 6 (some .int) :: TB) B.pre w9 (List.mem_cons_of_mem _ h)
  have hown : s.vm.findClass RX9 = some m.cls := findClass_of_methodNamed B.named
  have S : CallFix p m c cX9_worstAt 6 s _ TB RX9 := ⟨hx, hb, hml, hown, hT⟩
  subst hsz
  have hD := hD0.self (sz := s.heap.size)
  generalize hAe : va_A (CWS k a st sl) s.heap.size = A at hD ⊢
  have hA : ∀ q : Nat, s.heap.size ≤ q → A q := fun q h => by rw [← hAe]; exact Or.inr h
  have hS : va_S A s.heap s.heap [] := va_S.rf
  have hl := lv_entry ([.ref (a 0), .int p0, .int p1]) (n := 6) (Nat.le_of_ble_eq_true rfl)
  rw [lg_entry_eq]
  generalize (lg_sl ([.ref (a 0), .int p0, .int p1]) ++ List.replicate (6 - (lg_sl ([.ref (a 0), .int p0, .int p1])).length) Slot.unset).toArray = ls at hl ⊢
  have hl : lv_has ls 6 [(0, .ref (a 0)), (1, .int p0), (2, .int p1)] := hl
  refine nameQ (fun Q hQ => ?_)
  refine lv_aload_n hx hb dX9_worstAt_0 rfl (lv_at hl 0 rfl) ?_
  refine va_get (D := D) (ci := 9) (v := .ref (a 17)) (C := RX9) (T := TX9) (N := 11) hx hb hT in_X9 hown hK hP 0 cw_0 rfl 2 (by decide) (hT _ t453) (fun _ h9 => h9) rfl dX9_worstAt_1 ?_
  refine va_get (D := D) (ci := 8) (v := .ref (a 18)) (C := RX8) (T := TX8) (N := 6) hx hb hT in_X8 hown hK hP 17 cw_17 rfl 0 (by decide) (hT _ t312) (fun _ h9 => h9) rfl dX9_worstAt_4 ?_
  refine lv_iload_n hx hb dX9_worstAt_7 rfl (lv_at hl 1 rfl) ?_
  refine ro_V (As := [.int p0]) (rest := []) S (s_X1_roadsAt l D k a st sl  p0 _  hB  ) lkX9_174 ok_X1_roadsAt ⟨rfl, rfl, Nat.le_of_ble_eq_true rfl, Nat.le_of_ble_eq_true rfl⟩ (pw_V (ci := 1) (q0 := 18) hK hN rfl cw_18 hP (hD.weaken (fun _ _ _ _ => trivial))) rfl hl.1 rfl (Nat.le_of_ble_eq_true rfl) ⟨Nat.zero_le _, Nat.zero_le _⟩ dX9_worstAt_8 (fun r1 er1 => ?_)
  have h2 : Iv 0 255 r1 := er1.1
  refine lv_if_ne (tgt := 19) hx hb dX9_worstAt_11 (by decide) (fun c3 => ?_) (fun c3 => ?_)
  · skip
    have h4 : Iv 1 255 r1 := ne_lo h2 (show ¬ r1 = 0 from c3) (by decide) (by decide)
    refine lv_aload_n hx hb dX9_worstAt_19 rfl (lv_at hl 0 rfl) ?_
    refine va_get (D := D) (ci := 9) (v := .ref (a 166)) (C := RX9) (T := TX9) (N := 11) hx hb hT in_X9 hown hK hP 0 cw_0 rfl 10 (by decide) (hT _ t461) (fun _ h9 => h9) rfl dX9_worstAt_20 ?_
    refine lv_iconst (v := 0) hx hb dX9_worstAt_23 (by decide) ?_
    refine c_fil hP hD hS hA cw_166 cs_166 (fun hPc hDc => run_S (mc := 0) (ms := 0) (C := RJ7) (As := [.ref (a 166), .int 0]) (rest := []) S (c_fillI l D k (a 166) 8 _ 0 (by decide) _) (gdC t166) t1024 t165 t109 ok_J7_fill_53178 ⟨rfl, rfl, Nat.le_of_ble_eq_true rfl, Nat.le_of_ble_eq_true rfl⟩ (pw_S hK hN hPc hDc) rfl hl.1 rfl (Nat.le_of_ble_eq_true rfl) ⟨Nat.zero_le _, Nat.zero_le _⟩ dX9_worstAt_24) (fun s5 H9 locs9 fs5 es5 gs5 hP9 hD9 hS9 => ?_)
    clear hP hD hS
    have hS := hS9
    have hP := hP9
    have hD := hD9
    clear hP9 hD9 hS9
    have hBs5 : CB s5 := by rw [es5]; exact cb_sw hB trivial
    have hFs5 : FR [166] st s5 := fr_sw fr_rf (List.mem_of_getElem? (i := 0) rfl) es5
    refine lv_iconst (v := 0) hx hb dX9_worstAt_27 (by decide) ?_
    refine lv_istore_n (lv' := [(3, .int 0), (0, .ref (a 0)), (1, .int p0), (2, .int p1)]) hx hb dX9_worstAt_28 rfl hl (by decide) rfl (fun ls hl => ?_)
    refine lv_iconst (v := 0) hx hb dX9_worstAt_29 (by decide) ?_
    refine lv_istore (lv' := [(4, .int 0), (3, .int 0), (0, .ref (a 0)), (1, .int p0), (2, .int p1)]) hx hb dX9_worstAt_30 hl (by decide) rfl (fun ls hl => ?_)
    have lp32 : ∀ (n9_32 : Nat) (v4_32 : Int32) (v3_32 : Int32) (t32 : CT) (H9 : Heap) (locs9 : List Loc) (ls : Array Slot), Iv 0 8 v4_32 → Iv 0 2147483647 v3_32 → CB t32 → FR [166] s5 t32 → va_P D vwCl (CWS k a t32 sl) H9 → va_D A (CWS k a t32 sl) → va_S A s.heap H9 locs9 → lv_has ls 6 [(4, .int v4_32), (3, .int v3_32), (0, .ref (a 0)), (1, .int p0), (2, .int p1)] → (8 : Int) - v4_32.toInt < (n9_32 : Int) → W p l e (rmw 4 0 0) s m ([.ref (a 0), .int p0, .int p1] : List Value).toArray below meth c H9 locs9 0 0 Q (F0 m 32 ls []) := by
      clear hl hP hD hS
      intro n9_32
      induction n9_32 with
      | zero =>
        intro v4_32 v3_32 t32 H9 locs9 ls iv4_32 iv3_32 hBt32 gt32 hP hD hS hl hm32
        exact (fu_0 iv4_32 hm32).elim
      | succ n9_32 ih32 =>
        intro v4_32 v3_32 t32 H9 locs9 ls iv4_32 iv3_32 hBt32 gt32 hP hD hS hl hm32
        have hFt32 : FR [166] st t32 := fr_ca hFs5 gt32 (sub_1 (List.mem_of_getElem? (i := 0) rfl) sub_0)
        refine lv_iload hx hb dX9_worstAt_32 (lv_at hl 0 rfl) ?_
        refine lv_aload_n hx hb dX9_worstAt_34 rfl (lv_at hl 2 rfl) ?_
        refine va_get (D := D) (ci := 9) (v := .ref (a 17)) (C := RX9) (T := TX9) (N := 11) hx hb hT in_X9 hown hK hP 0 cw_0 rfl 2 (by decide) (hT _ t453) (fun _ h9 => h9) rfl dX9_worstAt_35 ?_
        refine va_get (D := D) (ci := 8) (v := .ref (a 18)) (C := RX8) (T := TX8) (N := 6) hx hb hT in_X8 hown hK hP 17 cw_17 rfl 0 (by decide) (hT _ t312) (fun _ h9 => h9) rfl dX9_worstAt_38 ?_
        refine va_get (D := D) (ci := 1) (v := .int (t32 18 4)) (C := RX1) (T := TX1) (N := 14) hx hb hT in_X1 hown hK hP 18 cw_18 rfl 4 (by decide) (hT _ t215) (fun _ h9 => h9) rfl dX9_worstAt_41 ?_
        refine k_top (y := (st 18 4)) (congrFun (hFt32 18 (nm_1 (by decide) nm_0)) 4) ?_
        have h267 : Iv 0 8 (st 18 4) := (rb_18_4 hB)
        refine lv_icmp_ge (tgt := 113) hx hb dX9_worstAt_44 (by decide) (fun c268 => ?_) (fun c268 => ?_)
        · skip
          have n269 : (st 18 4).toInt ≤ v4_32.toInt := (i_le c268)
          refine lv_iload_n hx hb dX9_worstAt_113 rfl (lv_at hl 1 rfl) ?_
          rw [hQ]
          exact W.iret (v := v3_32) hx hb hr (fun t ht hW => ⟨⟨v3_32, t32, rfl, ⟨hBt32, hFt32, ⟨iv3_32, trivial⟩⟩, by rw [ht]; exact hP, va_K.moved hW.alike (hK.sub (tys' := []) [] rfl), by rw [hAe]; exact hD⟩, by rw [hAe]; exact hS.F ht⟩) hS.2.2 dX9_worstAt_114
        · skip
          have n270 : v4_32.toInt < (st 18 4).toInt := (i_nle c268)
          have h271 : Iv 0 7 v4_32 := lt_l iv4_32 n270 h267 (by decide)
          have h272 : Iv 1 8 (st 18 4) := lt_r iv4_32 n270 h267 (by decide)
          refine lv_aload_n hx hb dX9_worstAt_47 rfl (lv_at hl 2 rfl) ?_
          refine va_get (D := D) (ci := 9) (v := .ref (a 17)) (C := RX9) (T := TX9) (N := 11) hx hb hT in_X9 hown hK hP 0 cw_0 rfl 2 (by decide) (hT _ t453) (fun _ h9 => h9) rfl dX9_worstAt_48 ?_
          refine va_get (D := D) (ci := 8) (v := .ref (a 31)) (C := RX8) (T := TX8) (N := 6) hx hb hT in_X8 hown hK hP 17 cw_17 rfl 1 (by decide) (hT _ t314) (fun _ h9 => h9) rfl dX9_worstAt_51 ?_
          refine lv_aload_n hx hb dX9_worstAt_54 rfl (lv_at hl 2 rfl) ?_
          refine va_get (D := D) (ci := 9) (v := .ref (a 17)) (C := RX9) (T := TX9) (N := 11) hx hb hT in_X9 hown hK hP 0 cw_0 rfl 2 (by decide) (hT _ t453) (fun _ h9 => h9) rfl dX9_worstAt_55 ?_
          refine va_get (D := D) (ci := 8) (v := .ref (a 18)) (C := RX8) (T := TX8) (N := 6) hx hb hT in_X8 hown hK hP 17 cw_17 rfl 0 (by decide) (hT _ t312) (fun _ h9 => h9) rfl dX9_worstAt_58 ?_
          refine lv_iload hx hb dX9_worstAt_61 (lv_at hl 0 rfl) ?_
          refine lv_iload_n hx hb dX9_worstAt_63 rfl (lv_at hl 3 rfl) ?_
          refine ro_V (As := [.ref (a 18), .int v4_32, .int p0]) (rest := []) S (s_X5_alone l D k a t32 sl 31 v4_32 p0 _ (by decide) hBt32  ) lkX9_344 ok_X5_alone ⟨rfl, rfl, Nat.le_of_ble_eq_true rfl, Nat.le_of_ble_eq_true rfl⟩ (pw_V (ci := 5) (q0 := 31) hK hN rfl cw_31 hP (hD.weaken (fun _ _ _ _ => trivial))) rfl hl.1 rfl (Nat.le_of_ble_eq_true rfl) ⟨Nat.zero_le _, Nat.zero_le _⟩ dX9_worstAt_64 (fun r273 er273 => ?_)
          have h274 : Iv (-1) 7 r273 := er273.1
          refine lv_istore (lv' := [(5, .int r273), (4, .int v4_32), (3, .int v3_32), (0, .ref (a 0)), (1, .int p0), (2, .int p1)]) hx hb dX9_worstAt_67 hl (by decide) rfl (fun ls hl => ?_)
          refine lv_iload_n hx hb dX9_worstAt_69 rfl (lv_at hl 5 rfl) ?_
          refine lv_iload hx hb dX9_worstAt_70 (lv_at hl 1 rfl) ?_
          refine lv_ishr hx hb dX9_worstAt_72 ?_
          refine lv_topi (fun z275 ez275 => ?_)
          refine lv_iconst (v := 1) hx hb dX9_worstAt_73 (by decide) ?_
          refine lv_iand hx hb dX9_worstAt_74 ?_
          refine lv_topi (fun z276 ez276 => ?_)
          have h277 : Iv 0 1 z276 := iv_andr ez276 (iv_mono (c := 0) (d := 1) (iv_c (by decide) : Iv 1 1 1) (by decide) (by decide))
          refine lv_if_eq (tgt := 107) hx hb dX9_worstAt_75 (by decide) (fun c278 => ?_) (fun c278 => ?_)
          · skip
            have h279 : Iv 0 0 z276 := eq_l c278 (iv_c (by decide) : Iv 0 0 0)
            obtain ⟨z280, ez280⟩ : ∃ z9 : Int32, z9 = v4_32 + Int32.ofInt 1 := ⟨_, rfl⟩
            have h281 : Iv 1 8 z280 := iv_inc ez280 h271 (by decide) (by decide) (by decide) (by decide) (by decide) (by decide)
            refine lv_iinc (v := z280) (lv' := [(4, .int z280), (5, .int r273), (3, .int v3_32), (0, .ref (a 0)), (1, .int p0), (2, .int p1)]) hx hb dX9_worstAt_107 hl (k := 1) rfl ez280.symm (by decide) rfl (fun ls hl => ?_)
            refine lv_goto (tgt := 32) hx hb dX9_worstAt_110 (by decide) ?_
            exact ih32 z280 v3_32 t32 _ _ _ (iv_mono (c := 0) (d := 8) h281 (by decide) (by decide)) iv3_32 hBt32 gt32 hP hD hS (lv_sub hl [0, 2, 3, 4, 5] rfl) (fu_s (lo := 0) (ti_inc ez280 h271 (by decide) (by decide) (by decide) (by decide)) (by decide) hm32)
          · skip
            have h282 : Iv 1 1 z276 := ne_lo h277 c278 (by decide) (by decide)
            refine lv_iload hx hb dX9_worstAt_78 (lv_at hl 0 rfl) ?_
            refine lv_iconst (v := (-1)) hx hb dX9_worstAt_80 (by decide) ?_
            refine lv_icmp_eq (tgt := 107) hx hb dX9_worstAt_81 (by decide) (fun c283 => ?_) (fun c283 => ?_)
            · skip
              have h284 : Iv (-1) (-1) r273 := eq_l c283 (iv_c (by decide) : Iv (-1) (-1) (-1))
              obtain ⟨z285, ez285⟩ : ∃ z9 : Int32, z9 = v4_32 + Int32.ofInt 1 := ⟨_, rfl⟩
              have h286 : Iv 1 8 z285 := iv_inc ez285 h271 (by decide) (by decide) (by decide) (by decide) (by decide) (by decide)
              refine lv_iinc (v := z285) (lv' := [(4, .int z285), (5, .int r273), (3, .int v3_32), (0, .ref (a 0)), (1, .int p0), (2, .int p1)]) hx hb dX9_worstAt_107 hl (k := 1) rfl ez285.symm (by decide) rfl (fun ls hl => ?_)
              refine lv_goto (tgt := 32) hx hb dX9_worstAt_110 (by decide) ?_
              exact ih32 z285 v3_32 t32 _ _ _ (iv_mono (c := 0) (d := 8) h286 (by decide) (by decide)) iv3_32 hBt32 gt32 hP hD hS (lv_sub hl [0, 2, 3, 4, 5] rfl) (fu_s (lo := 0) (ti_inc ez285 h271 (by decide) (by decide) (by decide) (by decide)) (by decide) hm32)
            · skip
              have h287 : Iv 0 7 r273 := ne_lo h274 c283 (by decide) (by decide)
              refine lv_aload_n hx hb dX9_worstAt_84 rfl (lv_at hl 3 rfl) ?_
              refine va_get (D := D) (ci := 9) (v := .ref (a 166)) (C := RX9) (T := TX9) (N := 11) hx hb hT in_X9 hown hK hP 0 cw_0 rfl 10 (by decide) (hT _ t461) (fun _ h9 => h9) rfl dX9_worstAt_85 ?_
              refine lv_iload hx hb dX9_worstAt_88 (lv_at hl 0 rfl) ?_
              refine lv_dup2_11 hx hb dX9_worstAt_90 rfl rfl ?_
              refine va_iald hx hb hK hP 166 0 cw_166 rfl (iv_in h287 (by decide) (by decide)) dX9_worstAt_91 ?_
              refine lv_topi (fun z288 ez288 => ?_)
              refine lv_iconst (v := 1) hx hb dX9_worstAt_92 (by decide) ?_
              refine lv_iadd hx hb dX9_worstAt_93 ?_
              refine lv_topi (fun z289 ez289 => ?_)
              refine c_ist hx hb hK hP hD hS cw_166 cs_166 (iv_in h287 (by decide) (by decide)) dX9_worstAt_94 (fun s290 H9 locs9 es290 hP9 hD9 hS9 => ?_)
              clear hP hD hS
              have hS := hS9
              have hP := hP9
              have hD := hD9
              clear hP9 hD9 hS9
              have hBs290 : CB s290 := by rw [es290]; exact cb_sw hBt32 trivial
              have hFs290 : FR [166] st s290 := fr_sw hFt32 (List.mem_of_getElem? (i := 0) rfl) es290
              refine lv_iload_n hx hb dX9_worstAt_95 rfl (lv_at hl 2 rfl) ?_
              refine lv_aload_n hx hb dX9_worstAt_96 rfl (lv_at hl 3 rfl) ?_
              refine va_get (D := D) (ci := 9) (v := .ref (a 166)) (C := RX9) (T := TX9) (N := 11) hx hb hT in_X9 hown hK hP 0 cw_0 rfl 10 (by decide) (hT _ t461) (fun _ h9 => h9) rfl dX9_worstAt_97 ?_
              refine lv_iload hx hb dX9_worstAt_100 (lv_at hl 0 rfl) ?_
              refine va_iald hx hb hK hP 166 0 cw_166 rfl (iv_in h287 (by decide) (by decide)) dX9_worstAt_102 ?_
              refine lv_topi (fun z291 ez291 => ?_)
              refine va_mmax hx hb (hml.trans hl.1.symm) hown (hT _ t1069) (hT _ t1070) (hT _ t116) (hT _ t1071) (Nat.le_of_ble_eq_true rfl) (Nat.le_of_ble_eq_true rfl) (Nat.zero_le _) (Nat.zero_le _) dX9_worstAt_103 ?_
              refine lv_topi (fun z292 ez292 => ?_)
              have h293 : Iv 0 2147483647 z292 := iv_max ez292 iv3_32 (iv_full z291) (by decide) (by decide) (by decide)
              refine lv_istore_n (lv' := [(3, .int z292), (5, .int r273), (4, .int v4_32), (0, .ref (a 0)), (1, .int p0), (2, .int p1)]) hx hb dX9_worstAt_106 rfl hl (by decide) rfl (fun ls hl => ?_)
              obtain ⟨z294, ez294⟩ : ∃ z9 : Int32, z9 = v4_32 + Int32.ofInt 1 := ⟨_, rfl⟩
              have h295 : Iv 1 8 z294 := iv_inc ez294 h271 (by decide) (by decide) (by decide) (by decide) (by decide) (by decide)
              refine lv_iinc (v := z294) (lv' := [(4, .int z294), (3, .int z292), (5, .int r273), (0, .ref (a 0)), (1, .int p0), (2, .int p1)]) hx hb dX9_worstAt_107 hl (k := 2) rfl ez294.symm (by decide) rfl (fun ls hl => ?_)
              refine lv_goto (tgt := 32) hx hb dX9_worstAt_110 (by decide) ?_
              exact ih32 z294 z292 s290 _ _ _ (iv_mono (c := 0) (d := 8) h295 (by decide) (by decide)) h293 hBs290 (fr_sw gt32 (List.mem_of_getElem? (i := 0) rfl) es290) hP hD hS (lv_sub hl [0, 1, 3, 4, 5] rfl) (fu_s (lo := 0) (ti_inc ez294 h271 (by decide) (by decide) (by decide) (by decide)) (by decide) hm32)
    exact lp32 9 0 0 s5 _ _ _ (iv_mono (c := 0) (d := 8) (iv_c (by decide) : Iv 0 0 0) (by decide) (by decide)) (iv_mono (c := 0) (d := 2147483647) (iv_c (by decide) : Iv 0 0 0) (by decide) (by decide)) hBs5 fr_rf hP hD hS (lv_sub hl [0, 1, 2, 3, 4] rfl) (fu_i (iv_mono (c := 0) (d := 8) (iv_c (by decide) : Iv 0 0 0) (by decide) (by decide)) (by decide))
  · skip
    have h296 : Iv 0 0 r1 := eq_l c3 (iv_c (by decide) : Iv 0 0 0)
    refine lv_iload_n hx hb dX9_worstAt_14 rfl (lv_at hl 2 rfl) ?_
    refine ro_SX (As := [.int p1]) (rest := []) S (s_J6_bitCount_0f7a4 l D k a st sl  p1 _  hB  ) (gdC t999) t997 t998 t122 ok_J6_bitCount_0f7a4 ⟨rfl, rfl, Nat.le_of_ble_eq_true rfl, Nat.le_of_ble_eq_true rfl⟩ (pw_S hK hN hP (hD.weaken (fun _ _ _ _ => trivial))) rfl hl.1 rfl (Nat.le_of_ble_eq_true rfl) ⟨Nat.zero_le _, Nat.zero_le _⟩ dX9_worstAt_15 (fun r297 er297 => ?_)
    have h298 : Iv 0 63 r297 := er297.1
    rw [hQ]
    exact W.iret (v := r297) hx hb hr (fun t ht hW => ⟨⟨r297, st, rfl, ⟨hB, fr_rf, ⟨(iv_mono (c := 0) (d := 2147483647) h298 (by decide) (by decide)), trivial⟩⟩, by rw [ht]; exact hP, va_K.moved hW.alike (hK.sub (tys' := []) [] rfl), by rw [hAe]; exact hD⟩, by rw [hAe]; exact hS.F ht⟩) hS.2.2 dX9_worstAt_18
set_option maxHeartbeats 4000000 in
set_option maxRecDepth 100000 in
theorem s_X9_placeToAsk (l : Launch) (D : va_G) (k : Nat → ClassId) (a : Nat → Nat) (st : CT) (sl : CL) (p0 : Int32) (sz : Nat) (hB : CB st)  : Met l yX9_placeToAsk (.code yX9_placeToAsk cX9_placeToAsk 6 (some .int) :: TB) (rmw 5 0 0) (va_Pc [.ref (a 0), .int p0] (PW D k sz (CWS k a st sl))) (QI D (S := CT) (fun r u => CB u ∧ FR [166] st u ∧ (Iv (-1) 5 r ∧ (True))) (fun u => CWS k a u sl) (fun _ => []) (CWS k a st sl) sz) 0 0 (va_A (CWS k a st sl) sz) := by
  refine Met.ofW (cc := cX9_placeToAsk) (maxL := 6) (ret := (some .int)) (by decide) rfl ?_
  intro p e s m args below meth c s₁ B hml hv
  obtain ⟨rfl, hsz, hP, hK, hD0, hN⟩ := hv
  have hx := B.exec
  have hb := B.bytes
  have hr := B.returns
  have hT : ∀ w9 ∈ TB, w9.before ([.ref (a 0), .int p0] : List Value).toArray s = true := fun w9 h => atoms_spec (ws := .code yX9_placeToAsk cX9_placeToAsk 6 (some .int) :: TB) B.pre w9 (List.mem_cons_of_mem _ h)
  have hown : s.vm.findClass RX9 = some m.cls := findClass_of_methodNamed B.named
  have S : CallFix p m c cX9_placeToAsk 6 s _ TB RX9 := ⟨hx, hb, hml, hown, hT⟩
  subst hsz
  have hD := hD0.self (sz := s.heap.size)
  generalize hAe : va_A (CWS k a st sl) s.heap.size = A at hD ⊢
  have hA : ∀ q : Nat, s.heap.size ≤ q → A q := fun q h => by rw [← hAe]; exact Or.inr h
  have hS : va_S A s.heap s.heap [] := va_S.rf
  have hl := lv_entry ([.ref (a 0), .int p0]) (n := 6) (Nat.le_of_ble_eq_true rfl)
  rw [lg_entry_eq]
  generalize (lg_sl ([.ref (a 0), .int p0]) ++ List.replicate (6 - (lg_sl ([.ref (a 0), .int p0])).length) Slot.unset).toArray = ls at hl ⊢
  have hl : lv_has ls 6 [(0, .ref (a 0)), (1, .int p0)] := hl
  refine nameQ (fun Q hQ => ?_)
  refine lv_iconst (v := (-1)) hx hb dX9_placeToAsk_0 (by decide) ?_
  refine lv_istore_n (lv' := [(2, .int (-1)), (0, .ref (a 0)), (1, .int p0)]) hx hb dX9_placeToAsk_1 rfl hl (by decide) rfl (fun ls hl => ?_)
  refine lv_iload_n hx hb dX9_placeToAsk_2 rfl (lv_at hl 2 rfl) ?_
  refine ro_SX (As := [.int p0]) (rest := []) S (s_J6_bitCount_0f7a4 l D k a st sl  p0 _  hB  ) (gdC t999) t997 t998 t122 ok_J6_bitCount_0f7a4 ⟨rfl, rfl, Nat.le_of_ble_eq_true rfl, Nat.le_of_ble_eq_true rfl⟩ (pw_S hK hN hP (hD.weaken (fun _ _ _ _ => trivial))) rfl hl.1 rfl (Nat.le_of_ble_eq_true rfl) ⟨Nat.zero_le _, Nat.zero_le _⟩ dX9_placeToAsk_3 (fun r1 er1 => ?_)
  have h2 : Iv 0 63 r1 := er1.1
  refine lv_istore_n (lv' := [(3, .int r1), (2, .int (-1)), (0, .ref (a 0)), (1, .int p0)]) hx hb dX9_placeToAsk_6 rfl hl (by decide) rfl (fun ls hl => ?_)
  refine lv_iconst (v := 0) hx hb dX9_placeToAsk_7 (by decide) ?_
  refine lv_istore (lv' := [(4, .int 0), (3, .int r1), (2, .int (-1)), (0, .ref (a 0)), (1, .int p0)]) hx hb dX9_placeToAsk_8 hl (by decide) rfl (fun ls hl => ?_)
  have lp10 : ∀ (n9_10 : Nat) (v4_10 : Int32) (v3_10 : Int32) (v2_10 : Int32) (t10 : CT) (H9 : Heap) (locs9 : List Loc) (ls : Array Slot), Iv 0 6 v4_10 → Iv 0 63 v3_10 → Iv (-1) 5 v2_10 → CB t10 → FR [166] st t10 → va_P D vwCl (CWS k a t10 sl) H9 → va_D A (CWS k a t10 sl) → va_S A s.heap H9 locs9 → lv_has ls 6 [(4, .int v4_10), (3, .int v3_10), (2, .int v2_10), (0, .ref (a 0)), (1, .int p0)] → (6 : Int) - v4_10.toInt < (n9_10 : Int) → W p l e (rmw 5 0 0) s m ([.ref (a 0), .int p0] : List Value).toArray below meth c H9 locs9 0 0 Q (F0 m 10 ls []) := by
    clear hl hP hD hS
    intro n9_10
    induction n9_10 with
    | zero =>
      intro v4_10 v3_10 v2_10 t10 H9 locs9 ls iv4_10 iv3_10 iv2_10 hBt10 gt10 hP hD hS hl hm10
      exact (fu_0 iv4_10 hm10).elim
    | succ n9_10 ih10 =>
      intro v4_10 v3_10 v2_10 t10 H9 locs9 ls iv4_10 iv3_10 iv2_10 hBt10 gt10 hP hD hS hl hm10
      have hFt10 : FR [166] st t10 := fr_ca fr_rf gt10 (sub_1 (List.mem_of_getElem? (i := 0) rfl) sub_0)
      refine lv_iload hx hb dX9_placeToAsk_10 (lv_at hl 0 rfl) ?_
      refine lv_aload_n hx hb dX9_placeToAsk_12 rfl (lv_at hl 3 rfl) ?_
      refine va_get (D := D) (ci := 9) (v := .ref (a 17)) (C := RX9) (T := TX9) (N := 11) hx hb hT in_X9 hown hK hP 0 cw_0 rfl 2 (by decide) (hT _ t453) (fun _ h9 => h9) rfl dX9_placeToAsk_13 ?_
      refine va_get (D := D) (ci := 8) (v := .ref (a 18)) (C := RX8) (T := TX8) (N := 6) hx hb hT in_X8 hown hK hP 17 cw_17 rfl 0 (by decide) (hT _ t312) (fun _ h9 => h9) rfl dX9_placeToAsk_16 ?_
      refine va_get (D := D) (ci := 1) (v := .int (t10 18 1)) (C := RX1) (T := TX1) (N := 14) hx hb hT in_X1 hown hK hP 18 cw_18 rfl 1 (by decide) (hT _ t201) (fun _ h9 => h9) rfl dX9_placeToAsk_19 ?_
      refine k_top (y := (st 18 1)) (congrFun (hFt10 18 (nm_1 (by decide) nm_0)) 1) ?_
      have h129 : Iv 0 6 (st 18 1) := (rb_18_1 hB)
      refine lv_icmp_ge (tgt := 52) hx hb dX9_placeToAsk_22 (by decide) (fun c130 => ?_) (fun c130 => ?_)
      · skip
        have n131 : (st 18 1).toInt ≤ v4_10.toInt := (i_le c130)
        refine lv_iload_n hx hb dX9_placeToAsk_52 rfl (lv_at hl 2 rfl) ?_
        rw [hQ]
        exact W.iret (v := v2_10) hx hb hr (fun t ht hW => ⟨⟨v2_10, t10, rfl, ⟨hBt10, hFt10, ⟨iv2_10, trivial⟩⟩, by rw [ht]; exact hP, va_K.moved hW.alike (hK.sub (tys' := []) [] rfl), by rw [hAe]; exact hD⟩, by rw [hAe]; exact hS.F ht⟩) hS.2.2 dX9_placeToAsk_53
      · skip
        have n132 : v4_10.toInt < (st 18 1).toInt := (i_nle c130)
        have h133 : Iv 0 5 v4_10 := lt_l iv4_10 n132 h129 (by decide)
        have h134 : Iv 1 6 (st 18 1) := lt_r iv4_10 n132 h129 (by decide)
        refine lv_aload_n hx hb dX9_placeToAsk_25 rfl (lv_at hl 3 rfl) ?_
        refine lv_iload hx hb dX9_placeToAsk_26 (lv_at hl 0 rfl) ?_
        refine lv_iload_n hx hb dX9_placeToAsk_28 rfl (lv_at hl 4 rfl) ?_
        refine ca_i hP hD hS hA (fun hDc => run_V (mc := 0) (ms := 0) (As := [.int v4_10, .int p0]) (rest := []) S (s_X9_worstAt l D k a t10 sl  v4_10 p0 _  hBt10  ) lkX9_338 ok_X9_worstAt ⟨rfl, rfl, Nat.le_of_ble_eq_true rfl, Nat.le_of_ble_eq_true rfl⟩ (pw_V (ci := 9) (q0 := 0) hK hN rfl cw_0 hP hDc) rfl hl.1 rfl (Nat.le_of_ble_eq_true rfl) ⟨Nat.zero_le _, Nat.zero_le _⟩ dX9_placeToAsk_29) (fun r136 s135 H9 locs9 hs135 hP9 hD9 hS9 => ?_)
        clear hP hD hS
        have hS := hS9
        have hP := hP9
        have hD := hD9
        clear hP9 hD9 hS9
        obtain ⟨hBs135, gs135, fs135⟩ := hs135
        have hFs135 : FR [166] st s135 := fr_ca hFt10 gs135 (sub_1 (List.mem_of_getElem? (i := 0) rfl) sub_0)
        have h137 : Iv 0 2147483647 r136 := fs135.1
        refine lv_istore (lv' := [(5, .int r136), (4, .int v4_10), (3, .int v3_10), (2, .int v2_10), (0, .ref (a 0)), (1, .int p0)]) hx hb dX9_placeToAsk_32 hl (by decide) rfl (fun ls hl => ?_)
        refine lv_iload hx hb dX9_placeToAsk_34 (lv_at hl 0 rfl) ?_
        refine lv_iload_n hx hb dX9_placeToAsk_36 rfl (lv_at hl 2 rfl) ?_
        refine lv_icmp_ge (tgt := 46) hx hb dX9_placeToAsk_37 (by decide) (fun c138 => ?_) (fun c138 => ?_)
        · skip
          have n139 : v3_10.toInt ≤ r136.toInt := (i_le c138)
          obtain ⟨z140, ez140⟩ : ∃ z9 : Int32, z9 = v4_10 + Int32.ofInt 1 := ⟨_, rfl⟩
          have h141 : Iv 1 6 z140 := iv_inc ez140 h133 (by decide) (by decide) (by decide) (by decide) (by decide) (by decide)
          refine lv_iinc (v := z140) (lv' := [(4, .int z140), (5, .int r136), (3, .int v3_10), (2, .int v2_10), (0, .ref (a 0)), (1, .int p0)]) hx hb dX9_placeToAsk_46 hl (k := 1) rfl ez140.symm (by decide) rfl (fun ls hl => ?_)
          refine lv_goto (tgt := 10) hx hb dX9_placeToAsk_49 (by decide) ?_
          exact ih10 z140 v3_10 v2_10 s135 _ _ _ (iv_mono (c := 0) (d := 6) h141 (by decide) (by decide)) iv3_10 iv2_10 hBs135 (fr_ca gt10 gs135 (sub_1 (List.mem_of_getElem? (i := 0) rfl) sub_0)) hP hD hS (lv_sub hl [0, 2, 3, 4, 5] rfl) (fu_s (lo := 0) (ti_inc ez140 h133 (by decide) (by decide) (by decide) (by decide)) (by decide) hm10)
        · skip
          have n142 : r136.toInt < v3_10.toInt := (i_nle c138)
          have h143 : Iv 0 62 r136 := lt_l h137 n142 iv3_10 (by decide)
          have h144 : Iv 1 63 v3_10 := lt_r h137 n142 iv3_10 (by decide)
          refine lv_iload hx hb dX9_placeToAsk_40 (lv_at hl 0 rfl) ?_
          refine lv_istore_n (lv' := [(3, .int r136), (5, .int r136), (4, .int v4_10), (2, .int v2_10), (0, .ref (a 0)), (1, .int p0)]) hx hb dX9_placeToAsk_42 rfl hl (by decide) rfl (fun ls hl => ?_)
          refine lv_iload hx hb dX9_placeToAsk_43 (lv_at hl 2 rfl) ?_
          refine lv_istore_n (lv' := [(2, .int v4_10), (3, .int r136), (5, .int r136), (4, .int v4_10), (0, .ref (a 0)), (1, .int p0)]) hx hb dX9_placeToAsk_45 rfl hl (by decide) rfl (fun ls hl => ?_)
          obtain ⟨z145, ez145⟩ : ∃ z9 : Int32, z9 = v4_10 + Int32.ofInt 1 := ⟨_, rfl⟩
          have h146 : Iv 1 6 z145 := iv_inc ez145 h133 (by decide) (by decide) (by decide) (by decide) (by decide) (by decide)
          refine lv_iinc (v := z145) (lv' := [(4, .int z145), (2, .int v4_10), (3, .int r136), (5, .int r136), (0, .ref (a 0)), (1, .int p0)]) hx hb dX9_placeToAsk_46 hl (k := 3) rfl ez145.symm (by decide) rfl (fun ls hl => ?_)
          refine lv_goto (tgt := 10) hx hb dX9_placeToAsk_49 (by decide) ?_
          exact ih10 z145 r136 v4_10 s135 _ _ _ (iv_mono (c := 0) (d := 6) h146 (by decide) (by decide)) (iv_mono (c := 0) (d := 63) h143 (by decide) (by decide)) (iv_mono (c := (-1)) (d := 5) h133 (by decide) (by decide)) hBs135 (fr_ca gt10 gs135 (sub_1 (List.mem_of_getElem? (i := 0) rfl) sub_0)) hP hD hS (lv_sub hl [0, 2, 1, 4, 5] rfl) (fu_s (lo := 0) (ti_inc ez145 h133 (by decide) (by decide) (by decide) (by decide)) (by decide) hm10)
  exact lp10 7 0 r1 (-1) st _ _ _ (iv_mono (c := 0) (d := 6) (iv_c (by decide) : Iv 0 0 0) (by decide) (by decide)) h2 (iv_mono (c := (-1)) (d := 5) (iv_c (by decide) : Iv (-1) (-1) (-1)) (by decide) (by decide)) hB fr_rf hP hD hS (lv_sub hl [0, 1, 2, 3, 4] rfl) (fu_i (iv_mono (c := 0) (d := 6) (iv_c (by decide) : Iv 0 0 0) (by decide) (by decide)) (by decide))
set_option maxHeartbeats 4000000 in
set_option maxRecDepth 100000 in
theorem s_X9_fitting (l : Launch) (D : va_G) (k : Nat → ClassId) (a : Nat → Nat) (st : CT) (sl : CL) (p0 : Int32) (sz : Nat) (hB : CB st)  : Met l yX9_fitting (.code yX9_fitting cX9_fitting 9 (some .int) :: TB) (rmk 5) (va_Pc [.ref (a 0), .int p0] (PW D k sz (CWS k a st sl))) (vp_Si (fun r => Iv (-6) 255 r ∧ (True))) 0 0 (fun _ => False) := by
  refine Met.ofW (cc := cX9_fitting) (maxL := 9) (ret := (some .int)) (by decide) rfl ?_
  intro p e s m args below meth c s₁ B hml hv
  obtain ⟨rfl, hsz, hP, hK, hD0, hN⟩ := hv
  have hx := B.exec
  have hb := B.bytes
  have hr := B.returns
  have hT : ∀ w9 ∈ TB, w9.before ([.ref (a 0), .int p0] : List Value).toArray s = true := fun w9 h => atoms_spec (ws := .code yX9_fitting cX9_fitting 9 (some .int) :: TB) B.pre w9 (List.mem_cons_of_mem _ h)
  have hown : s.vm.findClass RX9 = some m.cls := findClass_of_methodNamed B.named
  have S : CallFix p m c cX9_fitting 9 s _ TB RX9 := ⟨hx, hb, hml, hown, hT⟩
  subst hsz
  have hl := lv_entry ([.ref (a 0), .int p0]) (n := 9) (Nat.le_of_ble_eq_true rfl)
  rw [lg_entry_eq]
  generalize (lg_sl ([.ref (a 0), .int p0]) ++ List.replicate (9 - (lg_sl ([.ref (a 0), .int p0])).length) Slot.unset).toArray = ls at hl ⊢
  have hl : lv_has ls 9 [(0, .ref (a 0)), (1, .int p0)] := hl
  refine nameQ (fun Q hQ => ?_)
  refine lv_aload_n hx hb dX9_fitting_0 rfl (lv_at hl 0 rfl) ?_
  refine va_get (D := D) (ci := 9) (v := .ref (a 111)) (C := RX9) (T := TX9) (N := 11) hx hb hT in_X9 hown hK hP 0 cw_0 rfl 5 (by decide) (hT _ t456) (fun _ h9 => h9) rfl dX9_fitting_1 ?_
  refine lv_iload_n hx hb dX9_fitting_4 rfl (lv_at hl 1 rfl) ?_
  refine ro_V (As := [.int p0]) (rest := []) S (s_X4_isSlot l D k a st sl  p0 _  hB  ) lkX9_238 ok_X4_isSlot ⟨rfl, rfl, Nat.le_of_ble_eq_true rfl, Nat.le_of_ble_eq_true rfl⟩ (pw_V (ci := 4) (q0 := 111) hK hN rfl cw_111 hP hD0) rfl hl.1 rfl (Nat.le_of_ble_eq_true rfl) ⟨Nat.zero_le _, Nat.zero_le _⟩ dX9_fitting_5 (fun r1 er1 => ?_)
  rcases er1 with ⟨rfl, g9⟩ | ⟨rfl, g9⟩
  · skip
    have g2 := g9
    have h3 : Iv 0 3 p0 := g2.1
    refine lv_if_eq (tgt := 24) hx hb dX9_fitting_8 (by decide) (fun c4 => ?_) (fun c4 => ?_)
    · first | exact absurd c4 (by decide) | exact absurd (by decide) c4
    refine lv_aload_n hx hb dX9_fitting_11 rfl (lv_at hl 0 rfl) ?_
    refine va_get (D := D) (ci := 9) (v := .ref (a 17)) (C := RX9) (T := TX9) (N := 11) hx hb hT in_X9 hown hK hP 0 cw_0 rfl 2 (by decide) (hT _ t453) (fun _ h9 => h9) rfl dX9_fitting_12 ?_
    refine va_get (D := D) (ci := 8) (v := .ref (a 18)) (C := RX8) (T := TX8) (N := 6) hx hb hT in_X8 hown hK hP 17 cw_17 rfl 0 (by decide) (hT _ t312) (fun _ h9 => h9) rfl dX9_fitting_15 ?_
    refine ro_V (As := []) (rest := []) S (s_X1_isTold l D k a st sl   _  hB  ) lkX9_211 ok_X1_isTold ⟨rfl, rfl, Nat.le_of_ble_eq_true rfl, Nat.le_of_ble_eq_true rfl⟩ (pw_V (ci := 1) (q0 := 18) hK hN rfl cw_18 hP hD0) rfl hl.1 rfl (Nat.le_of_ble_eq_true rfl) ⟨Nat.zero_le _, Nat.zero_le _⟩ dX9_fitting_18 (fun r5 er5 => ?_)
    rcases er5 with ⟨rfl, g9⟩ | ⟨rfl, g9⟩
    · skip
      have g6 := g9
      refine lv_if_ne (tgt := 27) hx hb dX9_fitting_21 (by decide) (fun c7 => ?_) (fun c7 => ?_)
      rotate_left
      · first | exact absurd c7 (by decide) | exact absurd (by decide) c7
      refine lv_aload_n hx hb dX9_fitting_27 rfl (lv_at hl 0 rfl) ?_
      refine va_get (D := D) (ci := 9) (v := .ref (a 111)) (C := RX9) (T := TX9) (N := 11) hx hb hT in_X9 hown hK hP 0 cw_0 rfl 5 (by decide) (hT _ t456) (fun _ h9 => h9) rfl dX9_fitting_28 ?_
      refine lv_iload_n hx hb dX9_fitting_31 rfl (lv_at hl 1 rfl) ?_
      refine ro_V (As := [.int p0]) (rest := []) S (s_X4_hasRow l D k a st sl  p0 _  hB h3 ) lkX9_241 ok_X4_hasRow ⟨rfl, rfl, Nat.le_of_ble_eq_true rfl, Nat.le_of_ble_eq_true rfl⟩ (pw_V (ci := 4) (q0 := 111) hK hN rfl cw_111 hP hD0) rfl hl.1 rfl (Nat.le_of_ble_eq_true rfl) ⟨Nat.zero_le _, Nat.zero_le _⟩ dX9_fitting_32 (fun r8 er8 => ?_)
      rcases er8 with ⟨rfl, g9⟩ | ⟨rfl, g9⟩
      · skip
        have g9 := g9
        have k10 := g9
        refine lv_if_ne (tgt := 41) hx hb dX9_fitting_35 (by decide) (fun c11 => ?_) (fun c11 => ?_)
        rotate_left
        · first | exact absurd c11 (by decide) | exact absurd (by decide) c11
        refine lv_aload_n hx hb dX9_fitting_41 rfl (lv_at hl 0 rfl) ?_
        refine va_get (D := D) (ci := 9) (v := .ref (a 111)) (C := RX9) (T := TX9) (N := 11) hx hb hT in_X9 hown hK hP 0 cw_0 rfl 5 (by decide) (hT _ t456) (fun _ h9 => h9) rfl dX9_fitting_42 ?_
        refine va_get (D := D) (ci := 4) (v := .ref (a 113)) (C := RX4) (T := TX4) (N := 3) hx hb hT in_X4 hown hK hP 111 cw_111 rfl 1 (by decide) (hT _ t346) (fun _ h9 => h9) rfl dX9_fitting_45 ?_
        refine lv_iload_n hx hb dX9_fitting_48 rfl (lv_at hl 1 rfl) ?_
        refine va_iald hx hb hK hP 113 0 cw_113 rfl (iv_in h3 (by decide) (by decide)) dX9_fitting_49 ?_
        refine lv_topi (fun z12 ez12 => ?_)
        have h13 : Iv 0 60 z12 := by rw [ez12]; exact (rb_113 hB (vp_in_lt (iv_in h3 (by decide) (by decide))))
        refine lv_istore_n (lv' := [(2, .int z12), (0, .ref (a 0)), (1, .int p0)]) hx hb dX9_fitting_50 rfl hl (by decide) rfl (fun ls hl => ?_)
        refine lv_iload_n hx hb dX9_fitting_51 rfl (lv_at hl 0 rfl) ?_
        refine lv_iconst (v := 2) hx hb dX9_fitting_52 (by decide) ?_
        refine lv_irem hx hb dX9_fitting_53 (iv_nz (iv_c (by decide) : Iv 2 2 2) (by decide)) ?_
        refine lv_topi (fun z14 ez14 => ?_)
        have h15 : Iv 0 1 z14 := iv_rem ez14 h13 (y := 2) (k := 2) (by decide) (by decide) (by decide) (by decide)
        refine lv_if_eq (tgt := 60) hx hb dX9_fitting_54 (by decide) (fun c16 => ?_) (fun c16 => ?_)
        · skip
          have h17 : Iv 0 0 z14 := eq_l c16 (iv_c (by decide) : Iv 0 0 0)
          refine lv_iconst (v := 1) hx hb dX9_fitting_60 (by decide) ?_
          refine lv_aload_n hx hb dX9_fitting_61 rfl (lv_at hl 1 rfl) ?_
          refine va_get (D := D) (ci := 9) (v := .ref (a 17)) (C := RX9) (T := TX9) (N := 11) hx hb hT in_X9 hown hK hP 0 cw_0 rfl 2 (by decide) (hT _ t453) (fun _ h9 => h9) rfl dX9_fitting_62 ?_
          refine va_get (D := D) (ci := 8) (v := .ref (a 18)) (C := RX8) (T := TX8) (N := 6) hx hb hT in_X8 hown hK hP 17 cw_17 rfl 0 (by decide) (hT _ t312) (fun _ h9 => h9) rfl dX9_fitting_65 ?_
          refine va_get (D := D) (ci := 1) (v := .int (st 18 4)) (C := RX1) (T := TX1) (N := 14) hx hb hT in_X1 hown hK hP 18 cw_18 rfl 4 (by decide) (hT _ t215) (fun _ h9 => h9) rfl dX9_fitting_68 ?_
          have h18 : Iv 0 8 (st 18 4) := (rb_18_4 hB)
          refine lv_ishl hx hb dX9_fitting_71 ?_
          refine lv_topi (fun z19 ez19 => ?_)
          have h20 : Iv 1 256 z19 := iv_shl 8 ez19 h18 (by decide) (by decide) (by decide)
          refine lv_iconst (v := 1) hx hb dX9_fitting_72 (by decide) ?_
          refine lv_isub hx hb dX9_fitting_73 ?_
          refine lv_topi (fun z21 ez21 => ?_)
          have h22 : Iv 0 255 z21 := iv_sub ez21 h20 (iv_c (by decide) : Iv 1 1 1) (by decide) (by decide) (by decide) (by decide)
          refine lv_istore_n (lv' := [(3, .int z21), (2, .int z12), (0, .ref (a 0)), (1, .int p0)]) hx hb dX9_fitting_74 rfl hl (by decide) rfl (fun ls hl => ?_)
          refine lv_iconst (v := 0) hx hb dX9_fitting_75 (by decide) ?_
          refine lv_istore (lv' := [(4, .int 0), (3, .int z21), (2, .int z12), (0, .ref (a 0)), (1, .int p0)]) hx hb dX9_fitting_76 hl (by decide) rfl (fun ls hl => ?_)
          have lp78 : ∀ (n9_78 : Nat) (v4_78 : Int32) (v3_78 : Int32) (ls : Array Slot), Iv 0 60 v4_78 → Iv 0 255 v3_78 → lv_has ls 9 [(4, .int v4_78), (3, .int v3_78), (2, .int z12), (0, .ref (a 0)), (1, .int p0)] → (60 : Int) - v4_78.toInt < (n9_78 : Int) → W p l e (rmk 5) s m ([.ref (a 0), .int p0] : List Value).toArray below meth c s.heap [] 0 0 Q (F0 m 78 ls []) := by
            clear hl
            intro n9_78
            induction n9_78 with
            | zero =>
              intro v4_78 v3_78 ls iv4_78 iv3_78 hl hm78
              exact (fu_0 iv4_78 hm78).elim
            | succ n9_78 ih78 =>
              intro v4_78 v3_78 ls iv4_78 iv3_78 hl hm78
              refine lv_iload hx hb dX9_fitting_78 (lv_at hl 0 rfl) ?_
              refine lv_iconst (v := 1) hx hb dX9_fitting_80 (by decide) ?_
              refine lv_iadd hx hb dX9_fitting_81 ?_
              refine lv_topi (fun z2456 ez2456 => ?_)
              have h2457 : Iv 1 61 z2456 := iv_add ez2456 iv4_78 (iv_c (by decide) : Iv 1 1 1) (by decide) (by decide) (by decide) (by decide)
              refine lv_iload_n hx hb dX9_fitting_82 rfl (lv_at hl 2 rfl) ?_
              refine lv_icmp_ge (tgt := 205) hx hb dX9_fitting_83 (by decide) (fun c2458 => ?_) (fun c2458 => ?_)
              · skip
                have n2459 : z12.toInt ≤ z2456.toInt := (i_le c2458)
                refine lv_iload_n hx hb dX9_fitting_205 rfl (lv_at hl 1 rfl) ?_
                rw [hQ]
                exact W.iret (v := v3_78) hx hb hr (fun t ht hW => ⟨v3_78, rfl, ⟨(iv_mono (c := (-6)) (d := 255) iv3_78 (by decide) (by decide)), trivial⟩, ht⟩) (fun _ h9 => by cases h9) dX9_fitting_206
              · skip
                have n2460 : z2456.toInt < z12.toInt := (i_nle c2458)
                have h2461 : Iv 1 59 z2456 := lt_l h2457 n2460 h13 (by decide)
                have h2462 : Iv 0 58 v4_78 := (by have e9 := ti_add ez2456 iv4_78 (iv_c (by decide) : Iv 1 1 1) (by decide) (by decide); obtain ⟨y1, y2⟩ := id (h2461); obtain ⟨y3, y4⟩ := id (iv4_78); have y5 : (1 : Int32).toInt = 1 := rfl; exact ⟨by omega, by omega⟩)
                have h2463 : Iv 2 60 z12 := lt_r h2457 n2460 h13 (by decide)
                refine lv_aload_n hx hb dX9_fitting_86 rfl (lv_at hl 3 rfl) ?_
                refine va_get (D := D) (ci := 9) (v := .ref (a 111)) (C := RX9) (T := TX9) (N := 11) hx hb hT in_X9 hown hK hP 0 cw_0 rfl 5 (by decide) (hT _ t456) (fun _ h9 => h9) rfl dX9_fitting_87 ?_
                refine va_get (D := D) (ci := 4) (v := .ref (a 114)) (C := RX4) (T := TX4) (N := 3) hx hb hT in_X4 hown hK hP 111 cw_111 rfl 2 (by decide) (hT _ t348) (fun _ h9 => h9) rfl dX9_fitting_90 ?_
                refine lv_iload_n hx hb dX9_fitting_93 rfl (lv_at hl 4 rfl) ?_
                rcases iv_ca4 h3 0 1 2 3 (by decide) (by decide) (by decide) (by decide) (by decide) with q9 | q9 | q9 | q9
                · refine k_top (y := 0) q9 ?_
                  have h2464 : Iv 0 0 p0 := (by rw [q9]; exact iv_c (by decide))
                  have q2465 := q9
                  refine a_aldl hx hb hK hP 114 6 cw_114 rfl (by unfold vp_in; decide) dX9_fitting_94 ?_
                  refine W.eq (g2 := F0 m 95 ls [.ref (a 115)]) rfl ?_
                  refine lv_iload hx hb dX9_fitting_95 (lv_at hl 0 rfl) ?_
                  refine va_lald hx hb hK hP 115 2 cw_115 rfl (iv_in h2462 (by decide) (by decide)) dX9_fitting_97 ?_
                  refine lv_topl (fun z2466 ez2466 => ?_)
                  refine lv_lstore (lv' := [(5, .long z2466), (4, .int v4_78), (3, .int v3_78), (2, .int z12), (0, .ref (a 0)), (1, .int p0)]) hx hb dX9_fitting_98 hl (by decide) rfl (fun ls hl => ?_)
                  refine lv_aload_n hx hb dX9_fitting_100 rfl (lv_at hl 4 rfl) ?_
                  refine va_get (D := D) (ci := 9) (v := .ref (a 111)) (C := RX9) (T := TX9) (N := 11) hx hb hT in_X9 hown hK hP 0 cw_0 rfl 5 (by decide) (hT _ t456) (fun _ h9 => h9) rfl dX9_fitting_101 ?_
                  refine va_get (D := D) (ci := 4) (v := .ref (a 114)) (C := RX4) (T := TX4) (N := 3) hx hb hT in_X4 hown hK hP 111 cw_111 rfl 2 (by decide) (hT _ t348) (fun _ h9 => h9) rfl dX9_fitting_104 ?_
                  refine lv_iload_n hx hb dX9_fitting_107 rfl (lv_at hl 5 rfl) ?_
                  rcases iv_ca1 h2464 0 (by decide) (by decide) with q9
                  · refine k_top (y := 0) q9 ?_
                    have h2467 : Iv 0 0 p0 := (by rw [q9]; exact iv_c (by decide))
                    have q2468 := q9
                    refine a_aldl hx hb hK hP 114 6 cw_114 rfl (by unfold vp_in; decide) dX9_fitting_108 ?_
                    refine W.eq (g2 := F0 m 109 ls [.ref (a 115)]) rfl ?_
                    refine lv_iload hx hb dX9_fitting_109 (lv_at hl 1 rfl) ?_
                    refine lv_iconst (v := 1) hx hb dX9_fitting_111 (by decide) ?_
                    refine lv_iadd hx hb dX9_fitting_112 ?_
                    refine lv_topi (fun z2469 ez2469 => ?_)
                    have h2470 : Iv 1 59 z2469 := iv_add ez2469 h2462 (iv_c (by decide) : Iv 1 1 1) (by decide) (by decide) (by decide) (by decide)
                    refine va_lald hx hb hK hP 115 2 cw_115 rfl (iv_in h2470 (by decide) (by decide)) dX9_fitting_113 ?_
                    refine lv_topl (fun z2471 ez2471 => ?_)
                    refine lv_lstore (lv' := [(7, .long z2471), (5, .long z2466), (4, .int v4_78), (3, .int v3_78), (2, .int z12), (0, .ref (a 0)), (1, .int p0)]) hx hb dX9_fitting_114 hl (by decide) rfl (fun ls hl => ?_)
                    refine lv_lload hx hb dX9_fitting_116 (lv_at hl 1 rfl) ?_
                    refine lv_lconst (v := 0) hx hb dX9_fitting_118 (by decide) ?_
                    refine W.lcmp hx hb dX9_fitting_119 ?_
                    refine lv_topi (fun z2472 ez2472 => ?_)
                    refine lv_if_lt (tgt := 183) hx hb dX9_fitting_120 (by decide) (fun c2473 => ?_) (fun c2473 => ?_)
                    · skip
                      have n2474 := lc_lt ez2472 c2473
                      refine lv_bipush (v := (-2)) hx hb dX9_fitting_183 (by decide) ?_
                      rw [hQ]
                      exact W.iret (v := (-2)) hx hb hr (fun t ht hW => ⟨(-2), rfl, ⟨(iv_mono (c := (-6)) (d := 255) (iv_c (by decide) : Iv (-2) (-2) (-2)) (by decide) (by decide)), trivial⟩, ht⟩) (fun _ h9 => by cases h9) dX9_fitting_185
                    · skip
                      have n2475 := lc_nlt ez2472 c2473
                      refine lv_lload hx hb dX9_fitting_123 (lv_at hl 1 rfl) ?_
                      refine lv_aload_n hx hb dX9_fitting_125 rfl (lv_at hl 5 rfl) ?_
                      refine va_get (D := D) (ci := 9) (v := .ref (a 17)) (C := RX9) (T := TX9) (N := 11) hx hb hT in_X9 hown hK hP 0 cw_0 rfl 2 (by decide) (hT _ t453) (fun _ h9 => h9) rfl dX9_fitting_126 ?_
                      refine va_get (D := D) (ci := 8) (v := .ref (a 18)) (C := RX8) (T := TX8) (N := 6) hx hb hT in_X8 hown hK hP 17 cw_17 rfl 0 (by decide) (hT _ t312) (fun _ h9 => h9) rfl dX9_fitting_129 ?_
                      refine va_get (D := D) (ci := 1) (v := .int (st 18 1)) (C := RX1) (T := TX1) (N := 14) hx hb hT in_X1 hown hK hP 18 cw_18 rfl 1 (by decide) (hT _ t201) (fun _ h9 => h9) rfl dX9_fitting_132 ?_
                      have h2476 : Iv 0 6 (st 18 1) := (rb_18_1 hB)
                      refine lv_i2l hx hb dX9_fitting_135 rfl ?_
                      refine W.lcmp hx hb dX9_fitting_136 ?_
                      refine lv_topi (fun z2477 ez2477 => ?_)
                      refine lv_if_ge (tgt := 183) hx hb dX9_fitting_137 (by decide) (fun c2478 => ?_) (fun c2478 => ?_)
                      · skip
                        have n2479 := lc_ge ez2477 c2478
                        refine lv_bipush (v := (-2)) hx hb dX9_fitting_183 (by decide) ?_
                        rw [hQ]
                        exact W.iret (v := (-2)) hx hb hr (fun t ht hW => ⟨(-2), rfl, ⟨(iv_mono (c := (-6)) (d := 255) (iv_c (by decide) : Iv (-2) (-2) (-2)) (by decide) (by decide)), trivial⟩, ht⟩) (fun _ h9 => by cases h9) dX9_fitting_185
                      · skip
                        have n2480 := lc_nge ez2477 c2478
                        refine lv_lload hx hb dX9_fitting_140 (lv_at hl 0 rfl) ?_
                        refine lv_lconst (v := 0) hx hb dX9_fitting_142 (by decide) ?_
                        refine W.lcmp hx hb dX9_fitting_143 ?_
                        refine lv_topi (fun z2481 ez2481 => ?_)
                        refine lv_if_lt (tgt := 183) hx hb dX9_fitting_144 (by decide) (fun c2482 => ?_) (fun c2482 => ?_)
                        · skip
                          have n2483 := lc_lt ez2481 c2482
                          refine lv_bipush (v := (-2)) hx hb dX9_fitting_183 (by decide) ?_
                          rw [hQ]
                          exact W.iret (v := (-2)) hx hb hr (fun t ht hW => ⟨(-2), rfl, ⟨(iv_mono (c := (-6)) (d := 255) (iv_c (by decide) : Iv (-2) (-2) (-2)) (by decide) (by decide)), trivial⟩, ht⟩) (fun _ h9 => by cases h9) dX9_fitting_185
                        · skip
                          have n2484 := lc_nlt ez2481 c2482
                          refine lv_lload hx hb dX9_fitting_147 (lv_at hl 0 rfl) ?_
                          refine lv_aload_n hx hb dX9_fitting_149 rfl (lv_at hl 5 rfl) ?_
                          refine va_get (D := D) (ci := 9) (v := .ref (a 17)) (C := RX9) (T := TX9) (N := 11) hx hb hT in_X9 hown hK hP 0 cw_0 rfl 2 (by decide) (hT _ t453) (fun _ h9 => h9) rfl dX9_fitting_150 ?_
                          refine va_get (D := D) (ci := 8) (v := .ref (a 18)) (C := RX8) (T := TX8) (N := 6) hx hb hT in_X8 hown hK hP 17 cw_17 rfl 0 (by decide) (hT _ t312) (fun _ h9 => h9) rfl dX9_fitting_153 ?_
                          refine va_get (D := D) (ci := 1) (v := .int (st 18 3)) (C := RX1) (T := TX1) (N := 14) hx hb hT in_X1 hown hK hP 18 cw_18 rfl 3 (by decide) (hT _ t211) (fun _ h9 => h9) rfl dX9_fitting_156 ?_
                          have h2485 : Iv 0 8 (st 18 3) := (rb_18_3 hB)
                          refine lv_i2l hx hb dX9_fitting_159 rfl ?_
                          refine W.lcmp hx hb dX9_fitting_160 ?_
                          refine lv_topi (fun z2486 ez2486 => ?_)
                          refine lv_if_ge (tgt := 183) hx hb dX9_fitting_161 (by decide) (fun c2487 => ?_) (fun c2487 => ?_)
                          · skip
                            have n2488 := lc_ge ez2486 c2487
                            refine lv_bipush (v := (-2)) hx hb dX9_fitting_183 (by decide) ?_
                            rw [hQ]
                            exact W.iret (v := (-2)) hx hb hr (fun t ht hW => ⟨(-2), rfl, ⟨(iv_mono (c := (-6)) (d := 255) (iv_c (by decide) : Iv (-2) (-2) (-2)) (by decide) (by decide)), trivial⟩, ht⟩) (fun _ h9 => by cases h9) dX9_fitting_185
                          · skip
                            have n2489 := lc_nge ez2486 c2487
                            refine lv_aload_n hx hb dX9_fitting_164 rfl (lv_at hl 5 rfl) ?_
                            refine va_get (D := D) (ci := 9) (v := .ref (a 17)) (C := RX9) (T := TX9) (N := 11) hx hb hT in_X9 hown hK hP 0 cw_0 rfl 2 (by decide) (hT _ t453) (fun _ h9 => h9) rfl dX9_fitting_165 ?_
                            refine va_get (D := D) (ci := 8) (v := .ref (a 18)) (C := RX8) (T := TX8) (N := 6) hx hb hT in_X8 hown hK hP 17 cw_17 rfl 0 (by decide) (hT _ t312) (fun _ h9 => h9) rfl dX9_fitting_168 ?_
                            refine lv_lload hx hb dX9_fitting_171 (lv_at hl 0 rfl) ?_
                            refine lv_l2i hx hb dX9_fitting_173 rfl ?_
                            refine lv_topi (fun z2490 ez2490 => ?_)
                            refine lv_lload hx hb dX9_fitting_174 (lv_at hl 1 rfl) ?_
                            refine lv_l2i hx hb dX9_fitting_176 rfl ?_
                            refine lv_topi (fun z2491 ez2491 => ?_)
                            refine ro_V (As := [.int z2490, .int z2491]) (rest := []) S (s_X1_touches l D k a st sl  z2490 z2491 _  hB  ) lkX9_201 ok_X1_touches ⟨rfl, rfl, Nat.le_of_ble_eq_true rfl, Nat.le_of_ble_eq_true rfl⟩ (pw_V (ci := 1) (q0 := 18) hK hN rfl cw_18 hP hD0) rfl hl.1 rfl (Nat.le_of_ble_eq_true rfl) ⟨Nat.zero_le _, Nat.zero_le _⟩ dX9_fitting_177 (fun r2492 er2492 => ?_)
                            rcases er2492 with ⟨rfl, g9⟩ | ⟨rfl, g9⟩
                            · skip
                              have g2493 := g9
                              have h2494 : Iv 0 7 z2490 := g2493.1
                              have h2495 : Iv 0 5 z2491 := g2493.2.1
                              have k2496 := g2493.2.2
                              refine lv_if_ne (tgt := 186) hx hb dX9_fitting_180 (by decide) (fun c2497 => ?_) (fun c2497 => ?_)
                              rotate_left
                              · first | exact absurd c2497 (by decide) | exact absurd (by decide) c2497
                              refine lv_iload_n hx hb dX9_fitting_186 rfl (lv_at hl 3 rfl) ?_
                              refine lv_aload_n hx hb dX9_fitting_187 rfl (lv_at hl 5 rfl) ?_
                              refine lv_lload hx hb dX9_fitting_188 (lv_at hl 1 rfl) ?_
                              refine lv_l2i hx hb dX9_fitting_190 rfl ?_
                              refine lv_topi (fun z2498 ez2498 => ?_)
                              refine lv_lload hx hb dX9_fitting_191 (lv_at hl 0 rfl) ?_
                              refine lv_l2i hx hb dX9_fitting_193 rfl ?_
                              refine lv_topi (fun z2499 ez2499 => ?_)
                              refine ro_V (As := [.int z2498, .int z2499]) (rest := [.int v3_78]) S (s_X9_votersOf l D k a st sl  z2498 z2499 _  hB  ) lkX9_341 ok_X9_votersOf ⟨rfl, rfl, Nat.le_of_ble_eq_true rfl, Nat.le_of_ble_eq_true rfl⟩ (pw_V (ci := 9) (q0 := 0) hK hN rfl cw_0 hP hD0) rfl hl.1 rfl (Nat.le_of_ble_eq_true rfl) ⟨Nat.zero_le _, Nat.zero_le _⟩ dX9_fitting_194 (fun r2500 er2500 => ?_)
                              have h2501 : Iv 0 255 r2500 := er2500.1
                              refine lv_iand hx hb dX9_fitting_197 ?_
                              refine lv_topi (fun z2502 ez2502 => ?_)
                              have h2503 : Iv 0 255 z2502 := iv_andr ez2502 h2501
                              refine lv_istore_n (lv' := [(3, .int z2502), (7, .long z2471), (5, .long z2466), (4, .int v4_78), (2, .int z12), (0, .ref (a 0)), (1, .int p0)]) hx hb dX9_fitting_198 rfl hl (by decide) rfl (fun ls hl => ?_)
                              obtain ⟨z2504, ez2504⟩ : ∃ z9 : Int32, z9 = v4_78 + Int32.ofInt 2 := ⟨_, rfl⟩
                              have h2505 : Iv 2 60 z2504 := iv_inc ez2504 h2462 (by decide) (by decide) (by decide) (by decide) (by decide) (by decide)
                              refine lv_iinc (v := z2504) (lv' := [(4, .int z2504), (3, .int z2502), (7, .long z2471), (5, .long z2466), (2, .int z12), (0, .ref (a 0)), (1, .int p0)]) hx hb dX9_fitting_199 hl (k := 3) rfl ez2504.symm (by decide) rfl (fun ls hl => ?_)
                              refine lv_goto (tgt := 78) hx hb dX9_fitting_202 (by decide) ?_
                              exact ih78 z2504 z2502 _ (iv_mono (c := 0) (d := 60) h2505 (by decide) (by decide)) h2503 (lv_sub hl [0, 1, 4, 5, 6] rfl) (fu_s (lo := 0) (ti_inc ez2504 h2462 (by decide) (by decide) (by decide) (by decide)) (by decide) hm78)
                            · skip
                              have g2506 := g9
                              have k2507 := g2506
                              refine lv_if_ne (tgt := 186) hx hb dX9_fitting_180 (by decide) (fun c2508 => ?_) (fun c2508 => ?_)
                              · first | exact absurd c2508 (by decide) | exact absurd (by decide) c2508
                              refine lv_bipush (v := (-2)) hx hb dX9_fitting_183 (by decide) ?_
                              rw [hQ]
                              exact W.iret (v := (-2)) hx hb hr (fun t ht hW => ⟨(-2), rfl, ⟨(iv_mono (c := (-6)) (d := 255) (iv_c (by decide) : Iv (-2) (-2) (-2)) (by decide) (by decide)), trivial⟩, ht⟩) (fun _ h9 => by cases h9) dX9_fitting_185
                · refine k_top (y := 1) q9 ?_
                  have h2509 : Iv 1 1 p0 := (by rw [q9]; exact iv_c (by decide))
                  have q2510 := q9
                  refine a_aldl hx hb hK hP 114 6 cw_114 rfl (by unfold vp_in; decide) dX9_fitting_94 ?_
                  refine W.eq (g2 := F0 m 95 ls [.ref (a 116)]) rfl ?_
                  refine lv_iload hx hb dX9_fitting_95 (lv_at hl 0 rfl) ?_
                  refine va_lald hx hb hK hP 116 2 cw_116 rfl (iv_in h2462 (by decide) (by decide)) dX9_fitting_97 ?_
                  refine lv_topl (fun z2511 ez2511 => ?_)
                  refine lv_lstore (lv' := [(5, .long z2511), (4, .int v4_78), (3, .int v3_78), (2, .int z12), (0, .ref (a 0)), (1, .int p0)]) hx hb dX9_fitting_98 hl (by decide) rfl (fun ls hl => ?_)
                  refine lv_aload_n hx hb dX9_fitting_100 rfl (lv_at hl 4 rfl) ?_
                  refine va_get (D := D) (ci := 9) (v := .ref (a 111)) (C := RX9) (T := TX9) (N := 11) hx hb hT in_X9 hown hK hP 0 cw_0 rfl 5 (by decide) (hT _ t456) (fun _ h9 => h9) rfl dX9_fitting_101 ?_
                  refine va_get (D := D) (ci := 4) (v := .ref (a 114)) (C := RX4) (T := TX4) (N := 3) hx hb hT in_X4 hown hK hP 111 cw_111 rfl 2 (by decide) (hT _ t348) (fun _ h9 => h9) rfl dX9_fitting_104 ?_
                  refine lv_iload_n hx hb dX9_fitting_107 rfl (lv_at hl 5 rfl) ?_
                  rcases iv_ca1 h2509 1 (by decide) (by decide) with q9
                  · refine k_top (y := 1) q9 ?_
                    have h2512 : Iv 1 1 p0 := (by rw [q9]; exact iv_c (by decide))
                    have q2513 := q9
                    refine a_aldl hx hb hK hP 114 6 cw_114 rfl (by unfold vp_in; decide) dX9_fitting_108 ?_
                    refine W.eq (g2 := F0 m 109 ls [.ref (a 116)]) rfl ?_
                    refine lv_iload hx hb dX9_fitting_109 (lv_at hl 1 rfl) ?_
                    refine lv_iconst (v := 1) hx hb dX9_fitting_111 (by decide) ?_
                    refine lv_iadd hx hb dX9_fitting_112 ?_
                    refine lv_topi (fun z2514 ez2514 => ?_)
                    have h2515 : Iv 1 59 z2514 := iv_add ez2514 h2462 (iv_c (by decide) : Iv 1 1 1) (by decide) (by decide) (by decide) (by decide)
                    refine va_lald hx hb hK hP 116 2 cw_116 rfl (iv_in h2515 (by decide) (by decide)) dX9_fitting_113 ?_
                    refine lv_topl (fun z2516 ez2516 => ?_)
                    refine lv_lstore (lv' := [(7, .long z2516), (5, .long z2511), (4, .int v4_78), (3, .int v3_78), (2, .int z12), (0, .ref (a 0)), (1, .int p0)]) hx hb dX9_fitting_114 hl (by decide) rfl (fun ls hl => ?_)
                    refine lv_lload hx hb dX9_fitting_116 (lv_at hl 1 rfl) ?_
                    refine lv_lconst (v := 0) hx hb dX9_fitting_118 (by decide) ?_
                    refine W.lcmp hx hb dX9_fitting_119 ?_
                    refine lv_topi (fun z2517 ez2517 => ?_)
                    refine lv_if_lt (tgt := 183) hx hb dX9_fitting_120 (by decide) (fun c2518 => ?_) (fun c2518 => ?_)
                    · skip
                      have n2519 := lc_lt ez2517 c2518
                      refine lv_bipush (v := (-2)) hx hb dX9_fitting_183 (by decide) ?_
                      rw [hQ]
                      exact W.iret (v := (-2)) hx hb hr (fun t ht hW => ⟨(-2), rfl, ⟨(iv_mono (c := (-6)) (d := 255) (iv_c (by decide) : Iv (-2) (-2) (-2)) (by decide) (by decide)), trivial⟩, ht⟩) (fun _ h9 => by cases h9) dX9_fitting_185
                    · skip
                      have n2520 := lc_nlt ez2517 c2518
                      refine lv_lload hx hb dX9_fitting_123 (lv_at hl 1 rfl) ?_
                      refine lv_aload_n hx hb dX9_fitting_125 rfl (lv_at hl 5 rfl) ?_
                      refine va_get (D := D) (ci := 9) (v := .ref (a 17)) (C := RX9) (T := TX9) (N := 11) hx hb hT in_X9 hown hK hP 0 cw_0 rfl 2 (by decide) (hT _ t453) (fun _ h9 => h9) rfl dX9_fitting_126 ?_
                      refine va_get (D := D) (ci := 8) (v := .ref (a 18)) (C := RX8) (T := TX8) (N := 6) hx hb hT in_X8 hown hK hP 17 cw_17 rfl 0 (by decide) (hT _ t312) (fun _ h9 => h9) rfl dX9_fitting_129 ?_
                      refine va_get (D := D) (ci := 1) (v := .int (st 18 1)) (C := RX1) (T := TX1) (N := 14) hx hb hT in_X1 hown hK hP 18 cw_18 rfl 1 (by decide) (hT _ t201) (fun _ h9 => h9) rfl dX9_fitting_132 ?_
                      have h2521 : Iv 0 6 (st 18 1) := (rb_18_1 hB)
                      refine lv_i2l hx hb dX9_fitting_135 rfl ?_
                      refine W.lcmp hx hb dX9_fitting_136 ?_
                      refine lv_topi (fun z2522 ez2522 => ?_)
                      refine lv_if_ge (tgt := 183) hx hb dX9_fitting_137 (by decide) (fun c2523 => ?_) (fun c2523 => ?_)
                      · skip
                        have n2524 := lc_ge ez2522 c2523
                        refine lv_bipush (v := (-2)) hx hb dX9_fitting_183 (by decide) ?_
                        rw [hQ]
                        exact W.iret (v := (-2)) hx hb hr (fun t ht hW => ⟨(-2), rfl, ⟨(iv_mono (c := (-6)) (d := 255) (iv_c (by decide) : Iv (-2) (-2) (-2)) (by decide) (by decide)), trivial⟩, ht⟩) (fun _ h9 => by cases h9) dX9_fitting_185
                      · skip
                        have n2525 := lc_nge ez2522 c2523
                        refine lv_lload hx hb dX9_fitting_140 (lv_at hl 0 rfl) ?_
                        refine lv_lconst (v := 0) hx hb dX9_fitting_142 (by decide) ?_
                        refine W.lcmp hx hb dX9_fitting_143 ?_
                        refine lv_topi (fun z2526 ez2526 => ?_)
                        refine lv_if_lt (tgt := 183) hx hb dX9_fitting_144 (by decide) (fun c2527 => ?_) (fun c2527 => ?_)
                        · skip
                          have n2528 := lc_lt ez2526 c2527
                          refine lv_bipush (v := (-2)) hx hb dX9_fitting_183 (by decide) ?_
                          rw [hQ]
                          exact W.iret (v := (-2)) hx hb hr (fun t ht hW => ⟨(-2), rfl, ⟨(iv_mono (c := (-6)) (d := 255) (iv_c (by decide) : Iv (-2) (-2) (-2)) (by decide) (by decide)), trivial⟩, ht⟩) (fun _ h9 => by cases h9) dX9_fitting_185
                        · skip
                          have n2529 := lc_nlt ez2526 c2527
                          refine lv_lload hx hb dX9_fitting_147 (lv_at hl 0 rfl) ?_
                          refine lv_aload_n hx hb dX9_fitting_149 rfl (lv_at hl 5 rfl) ?_
                          refine va_get (D := D) (ci := 9) (v := .ref (a 17)) (C := RX9) (T := TX9) (N := 11) hx hb hT in_X9 hown hK hP 0 cw_0 rfl 2 (by decide) (hT _ t453) (fun _ h9 => h9) rfl dX9_fitting_150 ?_
                          refine va_get (D := D) (ci := 8) (v := .ref (a 18)) (C := RX8) (T := TX8) (N := 6) hx hb hT in_X8 hown hK hP 17 cw_17 rfl 0 (by decide) (hT _ t312) (fun _ h9 => h9) rfl dX9_fitting_153 ?_
                          refine va_get (D := D) (ci := 1) (v := .int (st 18 3)) (C := RX1) (T := TX1) (N := 14) hx hb hT in_X1 hown hK hP 18 cw_18 rfl 3 (by decide) (hT _ t211) (fun _ h9 => h9) rfl dX9_fitting_156 ?_
                          have h2530 : Iv 0 8 (st 18 3) := (rb_18_3 hB)
                          refine lv_i2l hx hb dX9_fitting_159 rfl ?_
                          refine W.lcmp hx hb dX9_fitting_160 ?_
                          refine lv_topi (fun z2531 ez2531 => ?_)
                          refine lv_if_ge (tgt := 183) hx hb dX9_fitting_161 (by decide) (fun c2532 => ?_) (fun c2532 => ?_)
                          · skip
                            have n2533 := lc_ge ez2531 c2532
                            refine lv_bipush (v := (-2)) hx hb dX9_fitting_183 (by decide) ?_
                            rw [hQ]
                            exact W.iret (v := (-2)) hx hb hr (fun t ht hW => ⟨(-2), rfl, ⟨(iv_mono (c := (-6)) (d := 255) (iv_c (by decide) : Iv (-2) (-2) (-2)) (by decide) (by decide)), trivial⟩, ht⟩) (fun _ h9 => by cases h9) dX9_fitting_185
                          · skip
                            have n2534 := lc_nge ez2531 c2532
                            refine lv_aload_n hx hb dX9_fitting_164 rfl (lv_at hl 5 rfl) ?_
                            refine va_get (D := D) (ci := 9) (v := .ref (a 17)) (C := RX9) (T := TX9) (N := 11) hx hb hT in_X9 hown hK hP 0 cw_0 rfl 2 (by decide) (hT _ t453) (fun _ h9 => h9) rfl dX9_fitting_165 ?_
                            refine va_get (D := D) (ci := 8) (v := .ref (a 18)) (C := RX8) (T := TX8) (N := 6) hx hb hT in_X8 hown hK hP 17 cw_17 rfl 0 (by decide) (hT _ t312) (fun _ h9 => h9) rfl dX9_fitting_168 ?_
                            refine lv_lload hx hb dX9_fitting_171 (lv_at hl 0 rfl) ?_
                            refine lv_l2i hx hb dX9_fitting_173 rfl ?_
                            refine lv_topi (fun z2535 ez2535 => ?_)
                            refine lv_lload hx hb dX9_fitting_174 (lv_at hl 1 rfl) ?_
                            refine lv_l2i hx hb dX9_fitting_176 rfl ?_
                            refine lv_topi (fun z2536 ez2536 => ?_)
                            refine ro_V (As := [.int z2535, .int z2536]) (rest := []) S (s_X1_touches l D k a st sl  z2535 z2536 _  hB  ) lkX9_201 ok_X1_touches ⟨rfl, rfl, Nat.le_of_ble_eq_true rfl, Nat.le_of_ble_eq_true rfl⟩ (pw_V (ci := 1) (q0 := 18) hK hN rfl cw_18 hP hD0) rfl hl.1 rfl (Nat.le_of_ble_eq_true rfl) ⟨Nat.zero_le _, Nat.zero_le _⟩ dX9_fitting_177 (fun r2537 er2537 => ?_)
                            rcases er2537 with ⟨rfl, g9⟩ | ⟨rfl, g9⟩
                            · skip
                              have g2538 := g9
                              have h2539 : Iv 0 7 z2535 := g2538.1
                              have h2540 : Iv 0 5 z2536 := g2538.2.1
                              have k2541 := g2538.2.2
                              refine lv_if_ne (tgt := 186) hx hb dX9_fitting_180 (by decide) (fun c2542 => ?_) (fun c2542 => ?_)
                              rotate_left
                              · first | exact absurd c2542 (by decide) | exact absurd (by decide) c2542
                              refine lv_iload_n hx hb dX9_fitting_186 rfl (lv_at hl 3 rfl) ?_
                              refine lv_aload_n hx hb dX9_fitting_187 rfl (lv_at hl 5 rfl) ?_
                              refine lv_lload hx hb dX9_fitting_188 (lv_at hl 1 rfl) ?_
                              refine lv_l2i hx hb dX9_fitting_190 rfl ?_
                              refine lv_topi (fun z2543 ez2543 => ?_)
                              refine lv_lload hx hb dX9_fitting_191 (lv_at hl 0 rfl) ?_
                              refine lv_l2i hx hb dX9_fitting_193 rfl ?_
                              refine lv_topi (fun z2544 ez2544 => ?_)
                              refine ro_V (As := [.int z2543, .int z2544]) (rest := [.int v3_78]) S (s_X9_votersOf l D k a st sl  z2543 z2544 _  hB  ) lkX9_341 ok_X9_votersOf ⟨rfl, rfl, Nat.le_of_ble_eq_true rfl, Nat.le_of_ble_eq_true rfl⟩ (pw_V (ci := 9) (q0 := 0) hK hN rfl cw_0 hP hD0) rfl hl.1 rfl (Nat.le_of_ble_eq_true rfl) ⟨Nat.zero_le _, Nat.zero_le _⟩ dX9_fitting_194 (fun r2545 er2545 => ?_)
                              have h2546 : Iv 0 255 r2545 := er2545.1
                              refine lv_iand hx hb dX9_fitting_197 ?_
                              refine lv_topi (fun z2547 ez2547 => ?_)
                              have h2548 : Iv 0 255 z2547 := iv_andr ez2547 h2546
                              refine lv_istore_n (lv' := [(3, .int z2547), (7, .long z2516), (5, .long z2511), (4, .int v4_78), (2, .int z12), (0, .ref (a 0)), (1, .int p0)]) hx hb dX9_fitting_198 rfl hl (by decide) rfl (fun ls hl => ?_)
                              obtain ⟨z2549, ez2549⟩ : ∃ z9 : Int32, z9 = v4_78 + Int32.ofInt 2 := ⟨_, rfl⟩
                              have h2550 : Iv 2 60 z2549 := iv_inc ez2549 h2462 (by decide) (by decide) (by decide) (by decide) (by decide) (by decide)
                              refine lv_iinc (v := z2549) (lv' := [(4, .int z2549), (3, .int z2547), (7, .long z2516), (5, .long z2511), (2, .int z12), (0, .ref (a 0)), (1, .int p0)]) hx hb dX9_fitting_199 hl (k := 3) rfl ez2549.symm (by decide) rfl (fun ls hl => ?_)
                              refine lv_goto (tgt := 78) hx hb dX9_fitting_202 (by decide) ?_
                              exact ih78 z2549 z2547 _ (iv_mono (c := 0) (d := 60) h2550 (by decide) (by decide)) h2548 (lv_sub hl [0, 1, 4, 5, 6] rfl) (fu_s (lo := 0) (ti_inc ez2549 h2462 (by decide) (by decide) (by decide) (by decide)) (by decide) hm78)
                            · skip
                              have g2551 := g9
                              have k2552 := g2551
                              refine lv_if_ne (tgt := 186) hx hb dX9_fitting_180 (by decide) (fun c2553 => ?_) (fun c2553 => ?_)
                              · first | exact absurd c2553 (by decide) | exact absurd (by decide) c2553
                              refine lv_bipush (v := (-2)) hx hb dX9_fitting_183 (by decide) ?_
                              rw [hQ]
                              exact W.iret (v := (-2)) hx hb hr (fun t ht hW => ⟨(-2), rfl, ⟨(iv_mono (c := (-6)) (d := 255) (iv_c (by decide) : Iv (-2) (-2) (-2)) (by decide) (by decide)), trivial⟩, ht⟩) (fun _ h9 => by cases h9) dX9_fitting_185
                · refine k_top (y := 2) q9 ?_
                  have h2554 : Iv 2 2 p0 := (by rw [q9]; exact iv_c (by decide))
                  have q2555 := q9
                  refine a_aldl hx hb hK hP 114 6 cw_114 rfl (by unfold vp_in; decide) dX9_fitting_94 ?_
                  refine W.eq (g2 := F0 m 95 ls [.ref (a 117)]) rfl ?_
                  refine lv_iload hx hb dX9_fitting_95 (lv_at hl 0 rfl) ?_
                  refine va_lald hx hb hK hP 117 2 cw_117 rfl (iv_in h2462 (by decide) (by decide)) dX9_fitting_97 ?_
                  refine lv_topl (fun z2556 ez2556 => ?_)
                  refine lv_lstore (lv' := [(5, .long z2556), (4, .int v4_78), (3, .int v3_78), (2, .int z12), (0, .ref (a 0)), (1, .int p0)]) hx hb dX9_fitting_98 hl (by decide) rfl (fun ls hl => ?_)
                  refine lv_aload_n hx hb dX9_fitting_100 rfl (lv_at hl 4 rfl) ?_
                  refine va_get (D := D) (ci := 9) (v := .ref (a 111)) (C := RX9) (T := TX9) (N := 11) hx hb hT in_X9 hown hK hP 0 cw_0 rfl 5 (by decide) (hT _ t456) (fun _ h9 => h9) rfl dX9_fitting_101 ?_
                  refine va_get (D := D) (ci := 4) (v := .ref (a 114)) (C := RX4) (T := TX4) (N := 3) hx hb hT in_X4 hown hK hP 111 cw_111 rfl 2 (by decide) (hT _ t348) (fun _ h9 => h9) rfl dX9_fitting_104 ?_
                  refine lv_iload_n hx hb dX9_fitting_107 rfl (lv_at hl 5 rfl) ?_
                  rcases iv_ca1 h2554 2 (by decide) (by decide) with q9
                  · refine k_top (y := 2) q9 ?_
                    have h2557 : Iv 2 2 p0 := (by rw [q9]; exact iv_c (by decide))
                    have q2558 := q9
                    refine a_aldl hx hb hK hP 114 6 cw_114 rfl (by unfold vp_in; decide) dX9_fitting_108 ?_
                    refine W.eq (g2 := F0 m 109 ls [.ref (a 117)]) rfl ?_
                    refine lv_iload hx hb dX9_fitting_109 (lv_at hl 1 rfl) ?_
                    refine lv_iconst (v := 1) hx hb dX9_fitting_111 (by decide) ?_
                    refine lv_iadd hx hb dX9_fitting_112 ?_
                    refine lv_topi (fun z2559 ez2559 => ?_)
                    have h2560 : Iv 1 59 z2559 := iv_add ez2559 h2462 (iv_c (by decide) : Iv 1 1 1) (by decide) (by decide) (by decide) (by decide)
                    refine va_lald hx hb hK hP 117 2 cw_117 rfl (iv_in h2560 (by decide) (by decide)) dX9_fitting_113 ?_
                    refine lv_topl (fun z2561 ez2561 => ?_)
                    refine lv_lstore (lv' := [(7, .long z2561), (5, .long z2556), (4, .int v4_78), (3, .int v3_78), (2, .int z12), (0, .ref (a 0)), (1, .int p0)]) hx hb dX9_fitting_114 hl (by decide) rfl (fun ls hl => ?_)
                    refine lv_lload hx hb dX9_fitting_116 (lv_at hl 1 rfl) ?_
                    refine lv_lconst (v := 0) hx hb dX9_fitting_118 (by decide) ?_
                    refine W.lcmp hx hb dX9_fitting_119 ?_
                    refine lv_topi (fun z2562 ez2562 => ?_)
                    refine lv_if_lt (tgt := 183) hx hb dX9_fitting_120 (by decide) (fun c2563 => ?_) (fun c2563 => ?_)
                    · skip
                      have n2564 := lc_lt ez2562 c2563
                      refine lv_bipush (v := (-2)) hx hb dX9_fitting_183 (by decide) ?_
                      rw [hQ]
                      exact W.iret (v := (-2)) hx hb hr (fun t ht hW => ⟨(-2), rfl, ⟨(iv_mono (c := (-6)) (d := 255) (iv_c (by decide) : Iv (-2) (-2) (-2)) (by decide) (by decide)), trivial⟩, ht⟩) (fun _ h9 => by cases h9) dX9_fitting_185
                    · skip
                      have n2565 := lc_nlt ez2562 c2563
                      refine lv_lload hx hb dX9_fitting_123 (lv_at hl 1 rfl) ?_
                      refine lv_aload_n hx hb dX9_fitting_125 rfl (lv_at hl 5 rfl) ?_
                      refine va_get (D := D) (ci := 9) (v := .ref (a 17)) (C := RX9) (T := TX9) (N := 11) hx hb hT in_X9 hown hK hP 0 cw_0 rfl 2 (by decide) (hT _ t453) (fun _ h9 => h9) rfl dX9_fitting_126 ?_
                      refine va_get (D := D) (ci := 8) (v := .ref (a 18)) (C := RX8) (T := TX8) (N := 6) hx hb hT in_X8 hown hK hP 17 cw_17 rfl 0 (by decide) (hT _ t312) (fun _ h9 => h9) rfl dX9_fitting_129 ?_
                      refine va_get (D := D) (ci := 1) (v := .int (st 18 1)) (C := RX1) (T := TX1) (N := 14) hx hb hT in_X1 hown hK hP 18 cw_18 rfl 1 (by decide) (hT _ t201) (fun _ h9 => h9) rfl dX9_fitting_132 ?_
                      have h2566 : Iv 0 6 (st 18 1) := (rb_18_1 hB)
                      refine lv_i2l hx hb dX9_fitting_135 rfl ?_
                      refine W.lcmp hx hb dX9_fitting_136 ?_
                      refine lv_topi (fun z2567 ez2567 => ?_)
                      refine lv_if_ge (tgt := 183) hx hb dX9_fitting_137 (by decide) (fun c2568 => ?_) (fun c2568 => ?_)
                      · skip
                        have n2569 := lc_ge ez2567 c2568
                        refine lv_bipush (v := (-2)) hx hb dX9_fitting_183 (by decide) ?_
                        rw [hQ]
                        exact W.iret (v := (-2)) hx hb hr (fun t ht hW => ⟨(-2), rfl, ⟨(iv_mono (c := (-6)) (d := 255) (iv_c (by decide) : Iv (-2) (-2) (-2)) (by decide) (by decide)), trivial⟩, ht⟩) (fun _ h9 => by cases h9) dX9_fitting_185
                      · skip
                        have n2570 := lc_nge ez2567 c2568
                        refine lv_lload hx hb dX9_fitting_140 (lv_at hl 0 rfl) ?_
                        refine lv_lconst (v := 0) hx hb dX9_fitting_142 (by decide) ?_
                        refine W.lcmp hx hb dX9_fitting_143 ?_
                        refine lv_topi (fun z2571 ez2571 => ?_)
                        refine lv_if_lt (tgt := 183) hx hb dX9_fitting_144 (by decide) (fun c2572 => ?_) (fun c2572 => ?_)
                        · skip
                          have n2573 := lc_lt ez2571 c2572
                          refine lv_bipush (v := (-2)) hx hb dX9_fitting_183 (by decide) ?_
                          rw [hQ]
                          exact W.iret (v := (-2)) hx hb hr (fun t ht hW => ⟨(-2), rfl, ⟨(iv_mono (c := (-6)) (d := 255) (iv_c (by decide) : Iv (-2) (-2) (-2)) (by decide) (by decide)), trivial⟩, ht⟩) (fun _ h9 => by cases h9) dX9_fitting_185
                        · skip
                          have n2574 := lc_nlt ez2571 c2572
                          refine lv_lload hx hb dX9_fitting_147 (lv_at hl 0 rfl) ?_
                          refine lv_aload_n hx hb dX9_fitting_149 rfl (lv_at hl 5 rfl) ?_
                          refine va_get (D := D) (ci := 9) (v := .ref (a 17)) (C := RX9) (T := TX9) (N := 11) hx hb hT in_X9 hown hK hP 0 cw_0 rfl 2 (by decide) (hT _ t453) (fun _ h9 => h9) rfl dX9_fitting_150 ?_
                          refine va_get (D := D) (ci := 8) (v := .ref (a 18)) (C := RX8) (T := TX8) (N := 6) hx hb hT in_X8 hown hK hP 17 cw_17 rfl 0 (by decide) (hT _ t312) (fun _ h9 => h9) rfl dX9_fitting_153 ?_
                          refine va_get (D := D) (ci := 1) (v := .int (st 18 3)) (C := RX1) (T := TX1) (N := 14) hx hb hT in_X1 hown hK hP 18 cw_18 rfl 3 (by decide) (hT _ t211) (fun _ h9 => h9) rfl dX9_fitting_156 ?_
                          have h2575 : Iv 0 8 (st 18 3) := (rb_18_3 hB)
                          refine lv_i2l hx hb dX9_fitting_159 rfl ?_
                          refine W.lcmp hx hb dX9_fitting_160 ?_
                          refine lv_topi (fun z2576 ez2576 => ?_)
                          refine lv_if_ge (tgt := 183) hx hb dX9_fitting_161 (by decide) (fun c2577 => ?_) (fun c2577 => ?_)
                          · skip
                            have n2578 := lc_ge ez2576 c2577
                            refine lv_bipush (v := (-2)) hx hb dX9_fitting_183 (by decide) ?_
                            rw [hQ]
                            exact W.iret (v := (-2)) hx hb hr (fun t ht hW => ⟨(-2), rfl, ⟨(iv_mono (c := (-6)) (d := 255) (iv_c (by decide) : Iv (-2) (-2) (-2)) (by decide) (by decide)), trivial⟩, ht⟩) (fun _ h9 => by cases h9) dX9_fitting_185
                          · skip
                            have n2579 := lc_nge ez2576 c2577
                            refine lv_aload_n hx hb dX9_fitting_164 rfl (lv_at hl 5 rfl) ?_
                            refine va_get (D := D) (ci := 9) (v := .ref (a 17)) (C := RX9) (T := TX9) (N := 11) hx hb hT in_X9 hown hK hP 0 cw_0 rfl 2 (by decide) (hT _ t453) (fun _ h9 => h9) rfl dX9_fitting_165 ?_
                            refine va_get (D := D) (ci := 8) (v := .ref (a 18)) (C := RX8) (T := TX8) (N := 6) hx hb hT in_X8 hown hK hP 17 cw_17 rfl 0 (by decide) (hT _ t312) (fun _ h9 => h9) rfl dX9_fitting_168 ?_
                            refine lv_lload hx hb dX9_fitting_171 (lv_at hl 0 rfl) ?_
                            refine lv_l2i hx hb dX9_fitting_173 rfl ?_
                            refine lv_topi (fun z2580 ez2580 => ?_)
                            refine lv_lload hx hb dX9_fitting_174 (lv_at hl 1 rfl) ?_
                            refine lv_l2i hx hb dX9_fitting_176 rfl ?_
                            refine lv_topi (fun z2581 ez2581 => ?_)
                            refine ro_V (As := [.int z2580, .int z2581]) (rest := []) S (s_X1_touches l D k a st sl  z2580 z2581 _  hB  ) lkX9_201 ok_X1_touches ⟨rfl, rfl, Nat.le_of_ble_eq_true rfl, Nat.le_of_ble_eq_true rfl⟩ (pw_V (ci := 1) (q0 := 18) hK hN rfl cw_18 hP hD0) rfl hl.1 rfl (Nat.le_of_ble_eq_true rfl) ⟨Nat.zero_le _, Nat.zero_le _⟩ dX9_fitting_177 (fun r2582 er2582 => ?_)
                            rcases er2582 with ⟨rfl, g9⟩ | ⟨rfl, g9⟩
                            · skip
                              have g2583 := g9
                              have h2584 : Iv 0 7 z2580 := g2583.1
                              have h2585 : Iv 0 5 z2581 := g2583.2.1
                              have k2586 := g2583.2.2
                              refine lv_if_ne (tgt := 186) hx hb dX9_fitting_180 (by decide) (fun c2587 => ?_) (fun c2587 => ?_)
                              rotate_left
                              · first | exact absurd c2587 (by decide) | exact absurd (by decide) c2587
                              refine lv_iload_n hx hb dX9_fitting_186 rfl (lv_at hl 3 rfl) ?_
                              refine lv_aload_n hx hb dX9_fitting_187 rfl (lv_at hl 5 rfl) ?_
                              refine lv_lload hx hb dX9_fitting_188 (lv_at hl 1 rfl) ?_
                              refine lv_l2i hx hb dX9_fitting_190 rfl ?_
                              refine lv_topi (fun z2588 ez2588 => ?_)
                              refine lv_lload hx hb dX9_fitting_191 (lv_at hl 0 rfl) ?_
                              refine lv_l2i hx hb dX9_fitting_193 rfl ?_
                              refine lv_topi (fun z2589 ez2589 => ?_)
                              refine ro_V (As := [.int z2588, .int z2589]) (rest := [.int v3_78]) S (s_X9_votersOf l D k a st sl  z2588 z2589 _  hB  ) lkX9_341 ok_X9_votersOf ⟨rfl, rfl, Nat.le_of_ble_eq_true rfl, Nat.le_of_ble_eq_true rfl⟩ (pw_V (ci := 9) (q0 := 0) hK hN rfl cw_0 hP hD0) rfl hl.1 rfl (Nat.le_of_ble_eq_true rfl) ⟨Nat.zero_le _, Nat.zero_le _⟩ dX9_fitting_194 (fun r2590 er2590 => ?_)
                              have h2591 : Iv 0 255 r2590 := er2590.1
                              refine lv_iand hx hb dX9_fitting_197 ?_
                              refine lv_topi (fun z2592 ez2592 => ?_)
                              have h2593 : Iv 0 255 z2592 := iv_andr ez2592 h2591
                              refine lv_istore_n (lv' := [(3, .int z2592), (7, .long z2561), (5, .long z2556), (4, .int v4_78), (2, .int z12), (0, .ref (a 0)), (1, .int p0)]) hx hb dX9_fitting_198 rfl hl (by decide) rfl (fun ls hl => ?_)
                              obtain ⟨z2594, ez2594⟩ : ∃ z9 : Int32, z9 = v4_78 + Int32.ofInt 2 := ⟨_, rfl⟩
                              have h2595 : Iv 2 60 z2594 := iv_inc ez2594 h2462 (by decide) (by decide) (by decide) (by decide) (by decide) (by decide)
                              refine lv_iinc (v := z2594) (lv' := [(4, .int z2594), (3, .int z2592), (7, .long z2561), (5, .long z2556), (2, .int z12), (0, .ref (a 0)), (1, .int p0)]) hx hb dX9_fitting_199 hl (k := 3) rfl ez2594.symm (by decide) rfl (fun ls hl => ?_)
                              refine lv_goto (tgt := 78) hx hb dX9_fitting_202 (by decide) ?_
                              exact ih78 z2594 z2592 _ (iv_mono (c := 0) (d := 60) h2595 (by decide) (by decide)) h2593 (lv_sub hl [0, 1, 4, 5, 6] rfl) (fu_s (lo := 0) (ti_inc ez2594 h2462 (by decide) (by decide) (by decide) (by decide)) (by decide) hm78)
                            · skip
                              have g2596 := g9
                              have k2597 := g2596
                              refine lv_if_ne (tgt := 186) hx hb dX9_fitting_180 (by decide) (fun c2598 => ?_) (fun c2598 => ?_)
                              · first | exact absurd c2598 (by decide) | exact absurd (by decide) c2598
                              refine lv_bipush (v := (-2)) hx hb dX9_fitting_183 (by decide) ?_
                              rw [hQ]
                              exact W.iret (v := (-2)) hx hb hr (fun t ht hW => ⟨(-2), rfl, ⟨(iv_mono (c := (-6)) (d := 255) (iv_c (by decide) : Iv (-2) (-2) (-2)) (by decide) (by decide)), trivial⟩, ht⟩) (fun _ h9 => by cases h9) dX9_fitting_185
                · refine k_top (y := 3) q9 ?_
                  have h2599 : Iv 3 3 p0 := (by rw [q9]; exact iv_c (by decide))
                  have q2600 := q9
                  refine a_aldl hx hb hK hP 114 6 cw_114 rfl (by unfold vp_in; decide) dX9_fitting_94 ?_
                  refine W.eq (g2 := F0 m 95 ls [.ref (a 118)]) rfl ?_
                  refine lv_iload hx hb dX9_fitting_95 (lv_at hl 0 rfl) ?_
                  refine va_lald hx hb hK hP 118 2 cw_118 rfl (iv_in h2462 (by decide) (by decide)) dX9_fitting_97 ?_
                  refine lv_topl (fun z2601 ez2601 => ?_)
                  refine lv_lstore (lv' := [(5, .long z2601), (4, .int v4_78), (3, .int v3_78), (2, .int z12), (0, .ref (a 0)), (1, .int p0)]) hx hb dX9_fitting_98 hl (by decide) rfl (fun ls hl => ?_)
                  refine lv_aload_n hx hb dX9_fitting_100 rfl (lv_at hl 4 rfl) ?_
                  refine va_get (D := D) (ci := 9) (v := .ref (a 111)) (C := RX9) (T := TX9) (N := 11) hx hb hT in_X9 hown hK hP 0 cw_0 rfl 5 (by decide) (hT _ t456) (fun _ h9 => h9) rfl dX9_fitting_101 ?_
                  refine va_get (D := D) (ci := 4) (v := .ref (a 114)) (C := RX4) (T := TX4) (N := 3) hx hb hT in_X4 hown hK hP 111 cw_111 rfl 2 (by decide) (hT _ t348) (fun _ h9 => h9) rfl dX9_fitting_104 ?_
                  refine lv_iload_n hx hb dX9_fitting_107 rfl (lv_at hl 5 rfl) ?_
                  rcases iv_ca1 h2599 3 (by decide) (by decide) with q9
                  · refine k_top (y := 3) q9 ?_
                    have h2602 : Iv 3 3 p0 := (by rw [q9]; exact iv_c (by decide))
                    have q2603 := q9
                    refine a_aldl hx hb hK hP 114 6 cw_114 rfl (by unfold vp_in; decide) dX9_fitting_108 ?_
                    refine W.eq (g2 := F0 m 109 ls [.ref (a 118)]) rfl ?_
                    refine lv_iload hx hb dX9_fitting_109 (lv_at hl 1 rfl) ?_
                    refine lv_iconst (v := 1) hx hb dX9_fitting_111 (by decide) ?_
                    refine lv_iadd hx hb dX9_fitting_112 ?_
                    refine lv_topi (fun z2604 ez2604 => ?_)
                    have h2605 : Iv 1 59 z2604 := iv_add ez2604 h2462 (iv_c (by decide) : Iv 1 1 1) (by decide) (by decide) (by decide) (by decide)
                    refine va_lald hx hb hK hP 118 2 cw_118 rfl (iv_in h2605 (by decide) (by decide)) dX9_fitting_113 ?_
                    refine lv_topl (fun z2606 ez2606 => ?_)
                    refine lv_lstore (lv' := [(7, .long z2606), (5, .long z2601), (4, .int v4_78), (3, .int v3_78), (2, .int z12), (0, .ref (a 0)), (1, .int p0)]) hx hb dX9_fitting_114 hl (by decide) rfl (fun ls hl => ?_)
                    refine lv_lload hx hb dX9_fitting_116 (lv_at hl 1 rfl) ?_
                    refine lv_lconst (v := 0) hx hb dX9_fitting_118 (by decide) ?_
                    refine W.lcmp hx hb dX9_fitting_119 ?_
                    refine lv_topi (fun z2607 ez2607 => ?_)
                    refine lv_if_lt (tgt := 183) hx hb dX9_fitting_120 (by decide) (fun c2608 => ?_) (fun c2608 => ?_)
                    · skip
                      have n2609 := lc_lt ez2607 c2608
                      refine lv_bipush (v := (-2)) hx hb dX9_fitting_183 (by decide) ?_
                      rw [hQ]
                      exact W.iret (v := (-2)) hx hb hr (fun t ht hW => ⟨(-2), rfl, ⟨(iv_mono (c := (-6)) (d := 255) (iv_c (by decide) : Iv (-2) (-2) (-2)) (by decide) (by decide)), trivial⟩, ht⟩) (fun _ h9 => by cases h9) dX9_fitting_185
                    · skip
                      have n2610 := lc_nlt ez2607 c2608
                      refine lv_lload hx hb dX9_fitting_123 (lv_at hl 1 rfl) ?_
                      refine lv_aload_n hx hb dX9_fitting_125 rfl (lv_at hl 5 rfl) ?_
                      refine va_get (D := D) (ci := 9) (v := .ref (a 17)) (C := RX9) (T := TX9) (N := 11) hx hb hT in_X9 hown hK hP 0 cw_0 rfl 2 (by decide) (hT _ t453) (fun _ h9 => h9) rfl dX9_fitting_126 ?_
                      refine va_get (D := D) (ci := 8) (v := .ref (a 18)) (C := RX8) (T := TX8) (N := 6) hx hb hT in_X8 hown hK hP 17 cw_17 rfl 0 (by decide) (hT _ t312) (fun _ h9 => h9) rfl dX9_fitting_129 ?_
                      refine va_get (D := D) (ci := 1) (v := .int (st 18 1)) (C := RX1) (T := TX1) (N := 14) hx hb hT in_X1 hown hK hP 18 cw_18 rfl 1 (by decide) (hT _ t201) (fun _ h9 => h9) rfl dX9_fitting_132 ?_
                      have h2611 : Iv 0 6 (st 18 1) := (rb_18_1 hB)
                      refine lv_i2l hx hb dX9_fitting_135 rfl ?_
                      refine W.lcmp hx hb dX9_fitting_136 ?_
                      refine lv_topi (fun z2612 ez2612 => ?_)
                      refine lv_if_ge (tgt := 183) hx hb dX9_fitting_137 (by decide) (fun c2613 => ?_) (fun c2613 => ?_)
                      · skip
                        have n2614 := lc_ge ez2612 c2613
                        refine lv_bipush (v := (-2)) hx hb dX9_fitting_183 (by decide) ?_
                        rw [hQ]
                        exact W.iret (v := (-2)) hx hb hr (fun t ht hW => ⟨(-2), rfl, ⟨(iv_mono (c := (-6)) (d := 255) (iv_c (by decide) : Iv (-2) (-2) (-2)) (by decide) (by decide)), trivial⟩, ht⟩) (fun _ h9 => by cases h9) dX9_fitting_185
                      · skip
                        have n2615 := lc_nge ez2612 c2613
                        refine lv_lload hx hb dX9_fitting_140 (lv_at hl 0 rfl) ?_
                        refine lv_lconst (v := 0) hx hb dX9_fitting_142 (by decide) ?_
                        refine W.lcmp hx hb dX9_fitting_143 ?_
                        refine lv_topi (fun z2616 ez2616 => ?_)
                        refine lv_if_lt (tgt := 183) hx hb dX9_fitting_144 (by decide) (fun c2617 => ?_) (fun c2617 => ?_)
                        · skip
                          have n2618 := lc_lt ez2616 c2617
                          refine lv_bipush (v := (-2)) hx hb dX9_fitting_183 (by decide) ?_
                          rw [hQ]
                          exact W.iret (v := (-2)) hx hb hr (fun t ht hW => ⟨(-2), rfl, ⟨(iv_mono (c := (-6)) (d := 255) (iv_c (by decide) : Iv (-2) (-2) (-2)) (by decide) (by decide)), trivial⟩, ht⟩) (fun _ h9 => by cases h9) dX9_fitting_185
                        · skip
                          have n2619 := lc_nlt ez2616 c2617
                          refine lv_lload hx hb dX9_fitting_147 (lv_at hl 0 rfl) ?_
                          refine lv_aload_n hx hb dX9_fitting_149 rfl (lv_at hl 5 rfl) ?_
                          refine va_get (D := D) (ci := 9) (v := .ref (a 17)) (C := RX9) (T := TX9) (N := 11) hx hb hT in_X9 hown hK hP 0 cw_0 rfl 2 (by decide) (hT _ t453) (fun _ h9 => h9) rfl dX9_fitting_150 ?_
                          refine va_get (D := D) (ci := 8) (v := .ref (a 18)) (C := RX8) (T := TX8) (N := 6) hx hb hT in_X8 hown hK hP 17 cw_17 rfl 0 (by decide) (hT _ t312) (fun _ h9 => h9) rfl dX9_fitting_153 ?_
                          refine va_get (D := D) (ci := 1) (v := .int (st 18 3)) (C := RX1) (T := TX1) (N := 14) hx hb hT in_X1 hown hK hP 18 cw_18 rfl 3 (by decide) (hT _ t211) (fun _ h9 => h9) rfl dX9_fitting_156 ?_
                          have h2620 : Iv 0 8 (st 18 3) := (rb_18_3 hB)
                          refine lv_i2l hx hb dX9_fitting_159 rfl ?_
                          refine W.lcmp hx hb dX9_fitting_160 ?_
                          refine lv_topi (fun z2621 ez2621 => ?_)
                          refine lv_if_ge (tgt := 183) hx hb dX9_fitting_161 (by decide) (fun c2622 => ?_) (fun c2622 => ?_)
                          · skip
                            have n2623 := lc_ge ez2621 c2622
                            refine lv_bipush (v := (-2)) hx hb dX9_fitting_183 (by decide) ?_
                            rw [hQ]
                            exact W.iret (v := (-2)) hx hb hr (fun t ht hW => ⟨(-2), rfl, ⟨(iv_mono (c := (-6)) (d := 255) (iv_c (by decide) : Iv (-2) (-2) (-2)) (by decide) (by decide)), trivial⟩, ht⟩) (fun _ h9 => by cases h9) dX9_fitting_185
                          · skip
                            have n2624 := lc_nge ez2621 c2622
                            refine lv_aload_n hx hb dX9_fitting_164 rfl (lv_at hl 5 rfl) ?_
                            refine va_get (D := D) (ci := 9) (v := .ref (a 17)) (C := RX9) (T := TX9) (N := 11) hx hb hT in_X9 hown hK hP 0 cw_0 rfl 2 (by decide) (hT _ t453) (fun _ h9 => h9) rfl dX9_fitting_165 ?_
                            refine va_get (D := D) (ci := 8) (v := .ref (a 18)) (C := RX8) (T := TX8) (N := 6) hx hb hT in_X8 hown hK hP 17 cw_17 rfl 0 (by decide) (hT _ t312) (fun _ h9 => h9) rfl dX9_fitting_168 ?_
                            refine lv_lload hx hb dX9_fitting_171 (lv_at hl 0 rfl) ?_
                            refine lv_l2i hx hb dX9_fitting_173 rfl ?_
                            refine lv_topi (fun z2625 ez2625 => ?_)
                            refine lv_lload hx hb dX9_fitting_174 (lv_at hl 1 rfl) ?_
                            refine lv_l2i hx hb dX9_fitting_176 rfl ?_
                            refine lv_topi (fun z2626 ez2626 => ?_)
                            refine ro_V (As := [.int z2625, .int z2626]) (rest := []) S (s_X1_touches l D k a st sl  z2625 z2626 _  hB  ) lkX9_201 ok_X1_touches ⟨rfl, rfl, Nat.le_of_ble_eq_true rfl, Nat.le_of_ble_eq_true rfl⟩ (pw_V (ci := 1) (q0 := 18) hK hN rfl cw_18 hP hD0) rfl hl.1 rfl (Nat.le_of_ble_eq_true rfl) ⟨Nat.zero_le _, Nat.zero_le _⟩ dX9_fitting_177 (fun r2627 er2627 => ?_)
                            rcases er2627 with ⟨rfl, g9⟩ | ⟨rfl, g9⟩
                            · skip
                              have g2628 := g9
                              have h2629 : Iv 0 7 z2625 := g2628.1
                              have h2630 : Iv 0 5 z2626 := g2628.2.1
                              have k2631 := g2628.2.2
                              refine lv_if_ne (tgt := 186) hx hb dX9_fitting_180 (by decide) (fun c2632 => ?_) (fun c2632 => ?_)
                              rotate_left
                              · first | exact absurd c2632 (by decide) | exact absurd (by decide) c2632
                              refine lv_iload_n hx hb dX9_fitting_186 rfl (lv_at hl 3 rfl) ?_
                              refine lv_aload_n hx hb dX9_fitting_187 rfl (lv_at hl 5 rfl) ?_
                              refine lv_lload hx hb dX9_fitting_188 (lv_at hl 1 rfl) ?_
                              refine lv_l2i hx hb dX9_fitting_190 rfl ?_
                              refine lv_topi (fun z2633 ez2633 => ?_)
                              refine lv_lload hx hb dX9_fitting_191 (lv_at hl 0 rfl) ?_
                              refine lv_l2i hx hb dX9_fitting_193 rfl ?_
                              refine lv_topi (fun z2634 ez2634 => ?_)
                              refine ro_V (As := [.int z2633, .int z2634]) (rest := [.int v3_78]) S (s_X9_votersOf l D k a st sl  z2633 z2634 _  hB  ) lkX9_341 ok_X9_votersOf ⟨rfl, rfl, Nat.le_of_ble_eq_true rfl, Nat.le_of_ble_eq_true rfl⟩ (pw_V (ci := 9) (q0 := 0) hK hN rfl cw_0 hP hD0) rfl hl.1 rfl (Nat.le_of_ble_eq_true rfl) ⟨Nat.zero_le _, Nat.zero_le _⟩ dX9_fitting_194 (fun r2635 er2635 => ?_)
                              have h2636 : Iv 0 255 r2635 := er2635.1
                              refine lv_iand hx hb dX9_fitting_197 ?_
                              refine lv_topi (fun z2637 ez2637 => ?_)
                              have h2638 : Iv 0 255 z2637 := iv_andr ez2637 h2636
                              refine lv_istore_n (lv' := [(3, .int z2637), (7, .long z2606), (5, .long z2601), (4, .int v4_78), (2, .int z12), (0, .ref (a 0)), (1, .int p0)]) hx hb dX9_fitting_198 rfl hl (by decide) rfl (fun ls hl => ?_)
                              obtain ⟨z2639, ez2639⟩ : ∃ z9 : Int32, z9 = v4_78 + Int32.ofInt 2 := ⟨_, rfl⟩
                              have h2640 : Iv 2 60 z2639 := iv_inc ez2639 h2462 (by decide) (by decide) (by decide) (by decide) (by decide) (by decide)
                              refine lv_iinc (v := z2639) (lv' := [(4, .int z2639), (3, .int z2637), (7, .long z2606), (5, .long z2601), (2, .int z12), (0, .ref (a 0)), (1, .int p0)]) hx hb dX9_fitting_199 hl (k := 3) rfl ez2639.symm (by decide) rfl (fun ls hl => ?_)
                              refine lv_goto (tgt := 78) hx hb dX9_fitting_202 (by decide) ?_
                              exact ih78 z2639 z2637 _ (iv_mono (c := 0) (d := 60) h2640 (by decide) (by decide)) h2638 (lv_sub hl [0, 1, 4, 5, 6] rfl) (fu_s (lo := 0) (ti_inc ez2639 h2462 (by decide) (by decide) (by decide) (by decide)) (by decide) hm78)
                            · skip
                              have g2641 := g9
                              have k2642 := g2641
                              refine lv_if_ne (tgt := 186) hx hb dX9_fitting_180 (by decide) (fun c2643 => ?_) (fun c2643 => ?_)
                              · first | exact absurd c2643 (by decide) | exact absurd (by decide) c2643
                              refine lv_bipush (v := (-2)) hx hb dX9_fitting_183 (by decide) ?_
                              rw [hQ]
                              exact W.iret (v := (-2)) hx hb hr (fun t ht hW => ⟨(-2), rfl, ⟨(iv_mono (c := (-6)) (d := 255) (iv_c (by decide) : Iv (-2) (-2) (-2)) (by decide) (by decide)), trivial⟩, ht⟩) (fun _ h9 => by cases h9) dX9_fitting_185
          exact lp78 61 0 z21 _ (iv_mono (c := 0) (d := 60) (iv_c (by decide) : Iv 0 0 0) (by decide) (by decide)) h22 (lv_sub hl [0, 1, 2, 3, 4] rfl) (fu_i (iv_mono (c := 0) (d := 60) (iv_c (by decide) : Iv 0 0 0) (by decide) (by decide)) (by decide))
        · skip
          have h2644 : Iv 1 1 z14 := ne_lo h15 c16 (by decide) (by decide)
          refine lv_bipush (v := (-2)) hx hb dX9_fitting_57 (by decide) ?_
          rw [hQ]
          exact W.iret (v := (-2)) hx hb hr (fun t ht hW => ⟨(-2), rfl, ⟨(iv_mono (c := (-6)) (d := 255) (iv_c (by decide) : Iv (-2) (-2) (-2)) (by decide) (by decide)), trivial⟩, ht⟩) (fun _ h9 => by cases h9) dX9_fitting_59
      · skip
        have g2645 := g9
        have k2646 := g2645
        refine lv_if_ne (tgt := 41) hx hb dX9_fitting_35 (by decide) (fun c2647 => ?_) (fun c2647 => ?_)
        · first | exact absurd c2647 (by decide) | exact absurd (by decide) c2647
        refine lv_bipush (v := (-6)) hx hb dX9_fitting_38 (by decide) ?_
        rw [hQ]
        exact W.iret (v := (-6)) hx hb hr (fun t ht hW => ⟨(-6), rfl, ⟨(iv_mono (c := (-6)) (d := 255) (iv_c (by decide) : Iv (-6) (-6) (-6)) (by decide) (by decide)), trivial⟩, ht⟩) (fun _ h9 => by cases h9) dX9_fitting_40
    · skip
      have g2648 := g9
      refine lv_if_ne (tgt := 27) hx hb dX9_fitting_21 (by decide) (fun c2649 => ?_) (fun c2649 => ?_)
      · first | exact absurd c2649 (by decide) | exact absurd (by decide) c2649
      refine lv_bipush (v := (-2)) hx hb dX9_fitting_24 (by decide) ?_
      rw [hQ]
      exact W.iret (v := (-2)) hx hb hr (fun t ht hW => ⟨(-2), rfl, ⟨(iv_mono (c := (-6)) (d := 255) (iv_c (by decide) : Iv (-2) (-2) (-2)) (by decide) (by decide)), trivial⟩, ht⟩) (fun _ h9 => by cases h9) dX9_fitting_26
  · skip
    have g2650 := g9
    have k2651 := g2650
    refine lv_if_eq (tgt := 24) hx hb dX9_fitting_8 (by decide) (fun c2652 => ?_) (fun c2652 => ?_)
    rotate_left
    · first | exact absurd c2652 (by decide) | exact absurd (by decide) c2652
    refine lv_bipush (v := (-2)) hx hb dX9_fitting_24 (by decide) ?_
    rw [hQ]
    exact W.iret (v := (-2)) hx hb hr (fun t ht hW => ⟨(-2), rfl, ⟨(iv_mono (c := (-6)) (d := 255) (iv_c (by decide) : Iv (-2) (-2) (-2)) (by decide) (by decide)), trivial⟩, ht⟩) (fun _ h9 => by cases h9) dX9_fitting_26
set_option maxHeartbeats 4000000 in
set_option maxRecDepth 100000 in
theorem s_X9_fits (l : Launch) (D : va_G) (k : Nat → ClassId) (a : Nat → Nat) (st : CT) (sl : CL) (p0 : Int32) (sz : Nat) (hB : CB st)  : Met l yX9_fits (.code yX9_fits cX9_fits 2 (some .int) :: TB) (rmk 6) (va_Pc [.ref (a 0), .int p0] (PW D k sz (CWS k a st sl))) (vp_Si (fun r => Iv (-6) 255 r ∧ (True))) 0 0 (fun _ => False) := by
  refine Met.ofW (cc := cX9_fits) (maxL := 2) (ret := (some .int)) (by decide) rfl ?_
  intro p e s m args below meth c s₁ B hml hv
  obtain ⟨rfl, hsz, hP, hK, hD0, hN⟩ := hv
  have hx := B.exec
  have hb := B.bytes
  have hr := B.returns
  have hT : ∀ w9 ∈ TB, w9.before ([.ref (a 0), .int p0] : List Value).toArray s = true := fun w9 h => atoms_spec (ws := .code yX9_fits cX9_fits 2 (some .int) :: TB) B.pre w9 (List.mem_cons_of_mem _ h)
  have hown : s.vm.findClass RX9 = some m.cls := findClass_of_methodNamed B.named
  have S : CallFix p m c cX9_fits 2 s _ TB RX9 := ⟨hx, hb, hml, hown, hT⟩
  subst hsz
  have hl := lv_entry ([.ref (a 0), .int p0]) (n := 2) (Nat.le_of_ble_eq_true rfl)
  rw [lg_entry_eq]
  generalize (lg_sl ([.ref (a 0), .int p0]) ++ List.replicate (2 - (lg_sl ([.ref (a 0), .int p0])).length) Slot.unset).toArray = ls at hl ⊢
  have hl : lv_has ls 2 [(0, .ref (a 0)), (1, .int p0)] := hl
  refine nameQ (fun Q hQ => ?_)
  refine lv_aload_n hx hb dX9_fits_0 rfl (lv_at hl 0 rfl) ?_
  refine lv_iload_n hx hb dX9_fits_1 rfl (lv_at hl 1 rfl) ?_
  refine ro_V (As := [.int p0]) (rest := []) S (s_X9_fitting l D k a st sl  p0 _  hB  ) lkX9_332 ok_X9_fitting ⟨rfl, rfl, Nat.le_of_ble_eq_true rfl, Nat.le_of_ble_eq_true rfl⟩ (pw_V (ci := 9) (q0 := 0) hK hN rfl cw_0 hP hD0) rfl hl.1 rfl (Nat.le_of_ble_eq_true rfl) ⟨Nat.zero_le _, Nat.zero_le _⟩ dX9_fits_2 (fun r1 er1 => ?_)
  have h2 : Iv (-6) 255 r1 := er1.1
  rw [hQ]
  exact W.iret (v := r1) hx hb hr (fun t ht hW => ⟨r1, rfl, ⟨h2, trivial⟩, ht⟩) (fun _ h9 => by cases h9) dX9_fits_5
set_option maxHeartbeats 4000000 in
set_option maxRecDepth 100000 in
theorem s_X9_ask (l : Launch) (D : va_G) (k : Nat → ClassId) (a : Nat → Nat) (st : CT) (sl : CL) (p0 : Int32) (sz : Nat) (hB : CB st)  : Met l yX9_ask (.code yX9_ask cX9_ask 3 (some .int) :: TB) (rmw 6 0 0) (va_Pc [.ref (a 0), .int p0] (PW D k sz (CWS k a st sl))) (QI D (S := CT) (fun r u => CB u ∧ FR [166] st u ∧ (Iv (-6) 5 r ∧ (True))) (fun u => CWS k a u sl) (fun _ => []) (CWS k a st sl) sz) 0 0 (va_A (CWS k a st sl) sz) := by
  refine Met.ofW (cc := cX9_ask) (maxL := 3) (ret := (some .int)) (by decide) rfl ?_
  intro p e s m args below meth c s₁ B hml hv
  obtain ⟨rfl, hsz, hP, hK, hD0, hN⟩ := hv
  have hx := B.exec
  have hb := B.bytes
  have hr := B.returns
  have hT : ∀ w9 ∈ TB, w9.before ([.ref (a 0), .int p0] : List Value).toArray s = true := fun w9 h => atoms_spec (ws := .code yX9_ask cX9_ask 3 (some .int) :: TB) B.pre w9 (List.mem_cons_of_mem _ h)
  have hown : s.vm.findClass RX9 = some m.cls := findClass_of_methodNamed B.named
  have S : CallFix p m c cX9_ask 3 s _ TB RX9 := ⟨hx, hb, hml, hown, hT⟩
  subst hsz
  have hD := hD0.self (sz := s.heap.size)
  generalize hAe : va_A (CWS k a st sl) s.heap.size = A at hD ⊢
  have hA : ∀ q : Nat, s.heap.size ≤ q → A q := fun q h => by rw [← hAe]; exact Or.inr h
  have hS : va_S A s.heap s.heap [] := va_S.rf
  have hl := lv_entry ([.ref (a 0), .int p0]) (n := 3) (Nat.le_of_ble_eq_true rfl)
  rw [lg_entry_eq]
  generalize (lg_sl ([.ref (a 0), .int p0]) ++ List.replicate (3 - (lg_sl ([.ref (a 0), .int p0])).length) Slot.unset).toArray = ls at hl ⊢
  have hl : lv_has ls 3 [(0, .ref (a 0)), (1, .int p0)] := hl
  refine nameQ (fun Q hQ => ?_)
  refine lv_aload_n hx hb dX9_ask_0 rfl (lv_at hl 0 rfl) ?_
  refine lv_iload_n hx hb dX9_ask_1 rfl (lv_at hl 1 rfl) ?_
  refine ro_V (As := [.int p0]) (rest := []) S (s_X9_fitting l D k a st sl  p0 _  hB  ) lkX9_332 ok_X9_fitting ⟨rfl, rfl, Nat.le_of_ble_eq_true rfl, Nat.le_of_ble_eq_true rfl⟩ (pw_V (ci := 9) (q0 := 0) hK hN rfl cw_0 hP (hD.weaken (fun _ _ _ _ => trivial))) rfl hl.1 rfl (Nat.le_of_ble_eq_true rfl) ⟨Nat.zero_le _, Nat.zero_le _⟩ dX9_ask_2 (fun r1 er1 => ?_)
  have h2 : Iv (-6) 255 r1 := er1.1
  refine lv_istore_n (lv' := [(2, .int r1), (0, .ref (a 0)), (1, .int p0)]) hx hb dX9_ask_5 rfl hl (by decide) rfl (fun ls hl => ?_)
  refine lv_iload_n hx hb dX9_ask_6 rfl (lv_at hl 0 rfl) ?_
  refine lv_if_ge (tgt := 14) hx hb dX9_ask_7 (by decide) (fun c3 => ?_) (fun c3 => ?_)
  · skip
    have n4 : (0 : Int32).toInt ≤ r1.toInt := (i_le c3)
    have h5 : Iv 0 255 r1 := le_r (iv_c (by decide) : Iv 0 0 0) n4 h2 (by decide)
    refine lv_aload_n hx hb dX9_ask_14 rfl (lv_at hl 1 rfl) ?_
    refine lv_iload_n hx hb dX9_ask_15 rfl (lv_at hl 0 rfl) ?_
    refine ca_i hP hD hS hA (fun hDc => run_V (mc := 0) (ms := 0) (As := [.int r1]) (rest := []) S (s_X9_placeToAsk l D k a st sl  r1 _  hB  ) lkX9_335 ok_X9_placeToAsk ⟨rfl, rfl, Nat.le_of_ble_eq_true rfl, Nat.le_of_ble_eq_true rfl⟩ (pw_V (ci := 9) (q0 := 0) hK hN rfl cw_0 hP hDc) rfl hl.1 rfl (Nat.le_of_ble_eq_true rfl) ⟨Nat.zero_le _, Nat.zero_le _⟩ dX9_ask_16) (fun r7 s6 H9 locs9 hs6 hP9 hD9 hS9 => ?_)
    clear hP hD hS
    have hS := hS9
    have hP := hP9
    have hD := hD9
    clear hP9 hD9 hS9
    obtain ⟨hBs6, gs6, fs6⟩ := hs6
    have hFs6 : FR [166] st s6 := fr_ca fr_rf gs6 (sub_1 (List.mem_of_getElem? (i := 0) rfl) sub_0)
    have h8 : Iv (-1) 5 r7 := fs6.1
    rw [hQ]
    exact W.iret (v := r7) hx hb hr (fun t ht hW => ⟨⟨r7, s6, rfl, ⟨hBs6, hFs6, ⟨(iv_mono (c := (-6)) (d := 5) h8 (by decide) (by decide)), trivial⟩⟩, by rw [ht]; exact hP, va_K.moved hW.alike (hK.sub (tys' := []) [] rfl), by rw [hAe]; exact hD⟩, by rw [hAe]; exact hS.F ht⟩) hS.2.2 dX9_ask_19
  · skip
    have n9 : r1.toInt < (0 : Int32).toInt := (i_nle c3)
    have h10 : Iv (-6) (-1) r1 := lt_l h2 n9 (iv_c (by decide) : Iv 0 0 0) (by decide)
    refine lv_iload_n hx hb dX9_ask_10 rfl (lv_at hl 0 rfl) ?_
    refine lv_goto (tgt := 19) hx hb dX9_ask_11 (by decide) ?_
    rw [hQ]
    exact W.iret (v := r1) hx hb hr (fun t ht hW => ⟨⟨r1, st, rfl, ⟨hB, fr_rf, ⟨(iv_mono (c := (-6)) (d := 5) h10 (by decide) (by decide)), trivial⟩⟩, by rw [ht]; exact hP, va_K.moved hW.alike (hK.sub (tys' := []) [] rfl), by rw [hAe]; exact hD⟩, by rw [hAe]; exact hS.F ht⟩) hS.2.2 dX9_ask_19
set_option maxHeartbeats 4000000 in
set_option maxRecDepth 100000 in
theorem s_X9_leaves (l : Launch) (D : va_G) (k : Nat → ClassId) (a : Nat → Nat) (st : CT) (sl : CL) (p0 : Int32) (sz : Nat) (hB : CB st)  : Met l yX9_leaves (.code yX9_leaves cX9_leaves 4 (some .int) :: TB) (rmw 6 0 0) (va_Pc [.ref (a 0), .int p0] (PW D k sz (CWS k a st sl))) (QI D (S := CT) (fun r u => CB u ∧ FR [166] st u ∧ (Iv (-6) 2147483647 r ∧ (True))) (fun u => CWS k a u sl) (fun _ => []) (CWS k a st sl) sz) 0 0 (va_A (CWS k a st sl) sz) := by
  refine Met.ofW (cc := cX9_leaves) (maxL := 4) (ret := (some .int)) (by decide) rfl ?_
  intro p e s m args below meth c s₁ B hml hv
  obtain ⟨rfl, hsz, hP, hK, hD0, hN⟩ := hv
  have hx := B.exec
  have hb := B.bytes
  have hr := B.returns
  have hT : ∀ w9 ∈ TB, w9.before ([.ref (a 0), .int p0] : List Value).toArray s = true := fun w9 h => atoms_spec (ws := .code yX9_leaves cX9_leaves 4 (some .int) :: TB) B.pre w9 (List.mem_cons_of_mem _ h)
  have hown : s.vm.findClass RX9 = some m.cls := findClass_of_methodNamed B.named
  have S : CallFix p m c cX9_leaves 4 s _ TB RX9 := ⟨hx, hb, hml, hown, hT⟩
  subst hsz
  have hD := hD0.self (sz := s.heap.size)
  generalize hAe : va_A (CWS k a st sl) s.heap.size = A at hD ⊢
  have hA : ∀ q : Nat, s.heap.size ≤ q → A q := fun q h => by rw [← hAe]; exact Or.inr h
  have hS : va_S A s.heap s.heap [] := va_S.rf
  have hl := lv_entry ([.ref (a 0), .int p0]) (n := 4) (Nat.le_of_ble_eq_true rfl)
  rw [lg_entry_eq]
  generalize (lg_sl ([.ref (a 0), .int p0]) ++ List.replicate (4 - (lg_sl ([.ref (a 0), .int p0])).length) Slot.unset).toArray = ls at hl ⊢
  have hl : lv_has ls 4 [(0, .ref (a 0)), (1, .int p0)] := hl
  refine nameQ (fun Q hQ => ?_)
  refine lv_aload_n hx hb dX9_leaves_0 rfl (lv_at hl 0 rfl) ?_
  refine lv_iload_n hx hb dX9_leaves_1 rfl (lv_at hl 1 rfl) ?_
  refine ro_V (As := [.int p0]) (rest := []) S (s_X9_fitting l D k a st sl  p0 _  hB  ) lkX9_332 ok_X9_fitting ⟨rfl, rfl, Nat.le_of_ble_eq_true rfl, Nat.le_of_ble_eq_true rfl⟩ (pw_V (ci := 9) (q0 := 0) hK hN rfl cw_0 hP (hD.weaken (fun _ _ _ _ => trivial))) rfl hl.1 rfl (Nat.le_of_ble_eq_true rfl) ⟨Nat.zero_le _, Nat.zero_le _⟩ dX9_leaves_2 (fun r1 er1 => ?_)
  have h2 : Iv (-6) 255 r1 := er1.1
  refine lv_istore_n (lv' := [(2, .int r1), (0, .ref (a 0)), (1, .int p0)]) hx hb dX9_leaves_5 rfl hl (by decide) rfl (fun ls hl => ?_)
  refine lv_iload_n hx hb dX9_leaves_6 rfl (lv_at hl 0 rfl) ?_
  refine lv_if_ge (tgt := 12) hx hb dX9_leaves_7 (by decide) (fun c3 => ?_) (fun c3 => ?_)
  · skip
    have n4 : (0 : Int32).toInt ≤ r1.toInt := (i_le c3)
    have h5 : Iv 0 255 r1 := le_r (iv_c (by decide) : Iv 0 0 0) n4 h2 (by decide)
    refine lv_aload_n hx hb dX9_leaves_12 rfl (lv_at hl 1 rfl) ?_
    refine lv_iload_n hx hb dX9_leaves_13 rfl (lv_at hl 0 rfl) ?_
    refine ca_i hP hD hS hA (fun hDc => run_V (mc := 0) (ms := 0) (As := [.int r1]) (rest := []) S (s_X9_placeToAsk l D k a st sl  r1 _  hB  ) lkX9_335 ok_X9_placeToAsk ⟨rfl, rfl, Nat.le_of_ble_eq_true rfl, Nat.le_of_ble_eq_true rfl⟩ (pw_V (ci := 9) (q0 := 0) hK hN rfl cw_0 hP hDc) rfl hl.1 rfl (Nat.le_of_ble_eq_true rfl) ⟨Nat.zero_le _, Nat.zero_le _⟩ dX9_leaves_14) (fun r7 s6 H9 locs9 hs6 hP9 hD9 hS9 => ?_)
    clear hP hD hS
    have hS := hS9
    have hP := hP9
    have hD := hD9
    clear hP9 hD9 hS9
    obtain ⟨hBs6, gs6, fs6⟩ := hs6
    have hFs6 : FR [166] st s6 := fr_ca fr_rf gs6 (sub_1 (List.mem_of_getElem? (i := 0) rfl) sub_0)
    have h8 : Iv (-1) 5 r7 := fs6.1
    refine lv_istore_n (lv' := [(3, .int r7), (2, .int r1), (0, .ref (a 0)), (1, .int p0)]) hx hb dX9_leaves_17 rfl hl (by decide) rfl (fun ls hl => ?_)
    refine lv_iload_n hx hb dX9_leaves_18 rfl (lv_at hl 0 rfl) ?_
    refine lv_iconst (v := (-1)) hx hb dX9_leaves_19 (by decide) ?_
    refine lv_icmp_ne (tgt := 30) hx hb dX9_leaves_20 (by decide) (fun c9 => ?_) (fun c9 => ?_)
    · skip
      have h10 : Iv 0 5 r7 := ne_lo h8 (show ¬ r7 = (-1) from c9) (by decide) (by decide)
      refine lv_aload_n hx hb dX9_leaves_30 rfl (lv_at hl 2 rfl) ?_
      refine lv_iload_n hx hb dX9_leaves_31 rfl (lv_at hl 0 rfl) ?_
      refine lv_iload_n hx hb dX9_leaves_32 rfl (lv_at hl 1 rfl) ?_
      refine ca_i hP hD hS hA (fun hDc => run_V (mc := 0) (ms := 0) (As := [.int r7, .int r1]) (rest := []) S (s_X9_worstAt l D k a s6 sl  r7 r1 _  hBs6  ) lkX9_338 ok_X9_worstAt ⟨rfl, rfl, Nat.le_of_ble_eq_true rfl, Nat.le_of_ble_eq_true rfl⟩ (pw_V (ci := 9) (q0 := 0) hK hN rfl cw_0 hP hDc) rfl hl.1 rfl (Nat.le_of_ble_eq_true rfl) ⟨Nat.zero_le _, Nat.zero_le _⟩ dX9_leaves_33) (fun r12 s11 H9 locs9 hs11 hP9 hD9 hS9 => ?_)
      clear hP hD hS
      have hS := hS9
      have hP := hP9
      have hD := hD9
      clear hP9 hD9 hS9
      obtain ⟨hBs11, gs11, fs11⟩ := hs11
      have hFs11 : FR [166] st s11 := fr_ca hFs6 gs11 (sub_1 (List.mem_of_getElem? (i := 0) rfl) sub_0)
      have h13 : Iv 0 2147483647 r12 := fs11.1
      rw [hQ]
      exact W.iret (v := r12) hx hb hr (fun t ht hW => ⟨⟨r12, s11, rfl, ⟨hBs11, hFs11, ⟨(iv_mono (c := (-6)) (d := 2147483647) h13 (by decide) (by decide)), trivial⟩⟩, by rw [ht]; exact hP, va_K.moved hW.alike (hK.sub (tys' := []) [] rfl), by rw [hAe]; exact hD⟩, by rw [hAe]; exact hS.F ht⟩) hS.2.2 dX9_leaves_36
    · skip
      have h14 : Iv (-1) (-1) r7 := eq_l c9 (iv_c (by decide) : Iv (-1) (-1) (-1))
      refine lv_iload_n hx hb dX9_leaves_23 rfl (lv_at hl 1 rfl) ?_
      refine ro_SX (As := [.int r1]) (rest := []) S (s_J6_bitCount_0f7a4 l D k a s6 sl  r1 _  hBs6  ) (gdC t999) t997 t998 t122 ok_J6_bitCount_0f7a4 ⟨rfl, rfl, Nat.le_of_ble_eq_true rfl, Nat.le_of_ble_eq_true rfl⟩ (pw_S hK hN hP (hD.weaken (fun _ _ _ _ => trivial))) rfl hl.1 rfl (Nat.le_of_ble_eq_true rfl) ⟨Nat.zero_le _, Nat.zero_le _⟩ dX9_leaves_24 (fun r15 er15 => ?_)
      have h16 : Iv 0 63 r15 := er15.1
      refine lv_goto (tgt := 36) hx hb dX9_leaves_27 (by decide) ?_
      rw [hQ]
      exact W.iret (v := r15) hx hb hr (fun t ht hW => ⟨⟨r15, s6, rfl, ⟨hBs6, hFs6, ⟨(iv_mono (c := (-6)) (d := 2147483647) h16 (by decide) (by decide)), trivial⟩⟩, by rw [ht]; exact hP, va_K.moved hW.alike (hK.sub (tys' := []) [] rfl), by rw [hAe]; exact hD⟩, by rw [hAe]; exact hS.F ht⟩) hS.2.2 dX9_leaves_36
  · skip
    have n17 : r1.toInt < (0 : Int32).toInt := (i_nle c3)
    have h18 : Iv (-6) (-1) r1 := lt_l h2 n17 (iv_c (by decide) : Iv 0 0 0) (by decide)
    refine lv_iload_n hx hb dX9_leaves_10 rfl (lv_at hl 0 rfl) ?_
    rw [hQ]
    exact W.iret (v := r1) hx hb hr (fun t ht hW => ⟨⟨r1, st, rfl, ⟨hB, fr_rf, ⟨(iv_mono (c := (-6)) (d := 2147483647) h18 (by decide) (by decide)), trivial⟩⟩, by rw [ht]; exact hP, va_K.moved hW.alike (hK.sub (tys' := []) [] rfl), by rw [hAe]; exact hD⟩, by rw [hAe]; exact hS.F ht⟩) hS.2.2 dX9_leaves_11
set_option maxHeartbeats 4000000 in
set_option maxRecDepth 100000 in
theorem s_X9_votes (l : Launch) (D : va_G) (k : Nat → ClassId) (a : Nat → Nat) (st : CT) (sl : CL) (p0 : Int32) (p1 : Int32) (sz : Nat) (hB : CB st)  : Met l yX9_votes (.code yX9_votes cX9_votes 3 (some .int) :: TB) (rmk 5) (va_Pc [.ref (a 0), .int p0, .int p1] (PW D k sz (CWS k a st sl))) (vp_Si (fun r => Iv (-2) 255 r ∧ (True))) 0 0 (fun _ => False) := by
  refine Met.ofW (cc := cX9_votes) (maxL := 3) (ret := (some .int)) (by decide) rfl ?_
  intro p e s m args below meth c s₁ B hml hv
  obtain ⟨rfl, hsz, hP, hK, hD0, hN⟩ := hv
  have hx := B.exec
  have hb := B.bytes
  have hr := B.returns
  have hT : ∀ w9 ∈ TB, w9.before ([.ref (a 0), .int p0, .int p1] : List Value).toArray s = true := fun w9 h => atoms_spec (ws := .code yX9_votes cX9_votes 3 (some .int) :: TB) B.pre w9 (List.mem_cons_of_mem _ h)
  have hown : s.vm.findClass RX9 = some m.cls := findClass_of_methodNamed B.named
  have S : CallFix p m c cX9_votes 3 s _ TB RX9 := ⟨hx, hb, hml, hown, hT⟩
  subst hsz
  have hl := lv_entry ([.ref (a 0), .int p0, .int p1]) (n := 3) (Nat.le_of_ble_eq_true rfl)
  rw [lg_entry_eq]
  generalize (lg_sl ([.ref (a 0), .int p0, .int p1]) ++ List.replicate (3 - (lg_sl ([.ref (a 0), .int p0, .int p1])).length) Slot.unset).toArray = ls at hl ⊢
  have hl : lv_has ls 3 [(0, .ref (a 0)), (1, .int p0), (2, .int p1)] := hl
  refine nameQ (fun Q hQ => ?_)
  refine lv_aload_n hx hb dX9_votes_0 rfl (lv_at hl 0 rfl) ?_
  refine va_get (D := D) (ci := 9) (v := .ref (a 17)) (C := RX9) (T := TX9) (N := 11) hx hb hT in_X9 hown hK hP 0 cw_0 rfl 2 (by decide) (hT _ t453) (fun _ h9 => h9) rfl dX9_votes_1 ?_
  refine va_get (D := D) (ci := 8) (v := .ref (a 18)) (C := RX8) (T := TX8) (N := 6) hx hb hT in_X8 hown hK hP 17 cw_17 rfl 0 (by decide) (hT _ t312) (fun _ h9 => h9) rfl dX9_votes_4 ?_
  refine lv_iload_n hx hb dX9_votes_7 rfl (lv_at hl 1 rfl) ?_
  refine ro_V (As := [.int p0]) (rest := []) S (s_X1_isPlace l D k a st sl  p0 _  hB  ) lkX9_171 ok_X1_isPlace ⟨rfl, rfl, Nat.le_of_ble_eq_true rfl, Nat.le_of_ble_eq_true rfl⟩ (pw_V (ci := 1) (q0 := 18) hK hN rfl cw_18 hP hD0) rfl hl.1 rfl (Nat.le_of_ble_eq_true rfl) ⟨Nat.zero_le _, Nat.zero_le _⟩ dX9_votes_8 (fun r1 er1 => ?_)
  rcases er1 with ⟨rfl, g9⟩ | ⟨rfl, g9⟩
  · skip
    have g2 := g9
    have h3 : Iv 0 5 p0 := g2.1
    refine lv_if_eq (tgt := 29) hx hb dX9_votes_11 (by decide) (fun c4 => ?_) (fun c4 => ?_)
    · first | exact absurd c4 (by decide) | exact absurd (by decide) c4
    refine lv_aload_n hx hb dX9_votes_14 rfl (lv_at hl 0 rfl) ?_
    refine va_get (D := D) (ci := 9) (v := .ref (a 17)) (C := RX9) (T := TX9) (N := 11) hx hb hT in_X9 hown hK hP 0 cw_0 rfl 2 (by decide) (hT _ t453) (fun _ h9 => h9) rfl dX9_votes_15 ?_
    refine va_get (D := D) (ci := 8) (v := .ref (a 18)) (C := RX8) (T := TX8) (N := 6) hx hb hT in_X8 hown hK hP 17 cw_17 rfl 0 (by decide) (hT _ t312) (fun _ h9 => h9) rfl dX9_votes_18 ?_
    refine lv_iload_n hx hb dX9_votes_21 rfl (lv_at hl 2 rfl) ?_
    refine lv_iload_n hx hb dX9_votes_22 rfl (lv_at hl 1 rfl) ?_
    refine ro_V (As := [.int p1, .int p0]) (rest := []) S (s_X1_touches l D k a st sl  p1 p0 _  hB  ) lkX9_201 ok_X1_touches ⟨rfl, rfl, Nat.le_of_ble_eq_true rfl, Nat.le_of_ble_eq_true rfl⟩ (pw_V (ci := 1) (q0 := 18) hK hN rfl cw_18 hP hD0) rfl hl.1 rfl (Nat.le_of_ble_eq_true rfl) ⟨Nat.zero_le _, Nat.zero_le _⟩ dX9_votes_23 (fun r5 er5 => ?_)
    rcases er5 with ⟨rfl, g9⟩ | ⟨rfl, g9⟩
    · skip
      have g6 := g9
      have h7 : Iv 0 7 p1 := g6.1
      have k8 := g6.2.2
      refine lv_if_ne (tgt := 32) hx hb dX9_votes_26 (by decide) (fun c9 => ?_) (fun c9 => ?_)
      rotate_left
      · first | exact absurd c9 (by decide) | exact absurd (by decide) c9
      refine lv_aload_n hx hb dX9_votes_32 rfl (lv_at hl 0 rfl) ?_
      refine lv_iload_n hx hb dX9_votes_33 rfl (lv_at hl 1 rfl) ?_
      refine lv_iload_n hx hb dX9_votes_34 rfl (lv_at hl 2 rfl) ?_
      refine ro_V (As := [.int p0, .int p1]) (rest := []) S (s_X9_votersOf l D k a st sl  p0 p1 _  hB  ) lkX9_341 ok_X9_votersOf ⟨rfl, rfl, Nat.le_of_ble_eq_true rfl, Nat.le_of_ble_eq_true rfl⟩ (pw_V (ci := 9) (q0 := 0) hK hN rfl cw_0 hP hD0) rfl hl.1 rfl (Nat.le_of_ble_eq_true rfl) ⟨Nat.zero_le _, Nat.zero_le _⟩ dX9_votes_35 (fun r10 er10 => ?_)
      have h11 : Iv 0 255 r10 := er10.1
      rw [hQ]
      exact W.iret (v := r10) hx hb hr (fun t ht hW => ⟨r10, rfl, ⟨(iv_mono (c := (-2)) (d := 255) h11 (by decide) (by decide)), trivial⟩, ht⟩) (fun _ h9 => by cases h9) dX9_votes_38
    · skip
      have g12 := g9
      have k13 := g12
      refine lv_if_ne (tgt := 32) hx hb dX9_votes_26 (by decide) (fun c14 => ?_) (fun c14 => ?_)
      · first | exact absurd c14 (by decide) | exact absurd (by decide) c14
      refine lv_bipush (v := (-2)) hx hb dX9_votes_29 (by decide) ?_
      rw [hQ]
      exact W.iret (v := (-2)) hx hb hr (fun t ht hW => ⟨(-2), rfl, ⟨(iv_mono (c := (-2)) (d := 255) (iv_c (by decide) : Iv (-2) (-2) (-2)) (by decide) (by decide)), trivial⟩, ht⟩) (fun _ h9 => by cases h9) dX9_votes_31
  · skip
    have g15 := g9
    refine lv_if_eq (tgt := 29) hx hb dX9_votes_11 (by decide) (fun c16 => ?_) (fun c16 => ?_)
    rotate_left
    · first | exact absurd c16 (by decide) | exact absurd (by decide) c16
    refine lv_bipush (v := (-2)) hx hb dX9_votes_29 (by decide) ?_
    rw [hQ]
    exact W.iret (v := (-2)) hx hb hr (fun t ht hW => ⟨(-2), rfl, ⟨(iv_mono (c := (-2)) (d := 255) (iv_c (by decide) : Iv (-2) (-2) (-2)) (by decide) (by decide)), trivial⟩, ht⟩) (fun _ h9 => by cases h9) dX9_votes_31
