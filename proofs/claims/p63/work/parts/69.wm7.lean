set_option maxHeartbeats 4000000 in
set_option maxRecDepth 100000 in
theorem s_X9_loved (l : Launch) (D : va_G) (k : Nat → ClassId) (a : Nat → Nat) (st : CT) (sl : CL) (p0 : Int32) (sz : Nat) (hB : CB st)  : Met l yX9_loved (.code yX9_loved cX9_loved 2 (some .int) :: TB) (rmk 2) (va_Pc [.ref (a 0), .int p0] (PW D k sz (CWS k a st sl))) (vp_Si (fun r => Iv (-2) 72 r ∧ (True))) 0 0 (fun _ => False) := by
  refine Met.ofW (cc := cX9_loved) (maxL := 2) (ret := (some .int)) (by decide) rfl ?_
  intro p e s m args below meth c s₁ B hml hv
  obtain ⟨rfl, hsz, hP, hK, hD0, hN⟩ := hv
  have hx := B.exec
  have hb := B.bytes
  have hr := B.returns
  have hT : ∀ w9 ∈ TB, w9.before ([.ref (a 0), .int p0] : List Value).toArray s = true := fun w9 h => atoms_spec (ws := .code yX9_loved cX9_loved 2 (some .int) :: TB) B.pre w9 (List.mem_cons_of_mem _ h)
  have hown : s.vm.findClass RX9 = some m.cls := findClass_of_methodNamed B.named
  have S : CallFix p m c cX9_loved 2 s _ TB RX9 := ⟨hx, hb, hml, hown, hT⟩
  subst hsz
  have hl := lv_entry ([.ref (a 0), .int p0]) (n := 2) (Nat.le_of_ble_eq_true rfl)
  rw [lg_entry_eq]
  generalize (lg_sl ([.ref (a 0), .int p0]) ++ List.replicate (2 - (lg_sl ([.ref (a 0), .int p0])).length) Slot.unset).toArray = ls at hl ⊢
  have hl : lv_has ls 2 [(0, .ref (a 0)), (1, .int p0)] := hl
  refine nameQ (fun Q hQ => ?_)
  refine lv_aload_n hx hb dX9_loved_0 rfl (lv_at hl 0 rfl) ?_
  refine va_get (D := D) (ci := 9) (v := .ref (a 17)) (C := RX9) (T := TX9) (N := 11) hx hb hT in_X9 hown hK hP 0 cw_0 rfl 2 (by decide) (hT _ t453) (fun _ h9 => h9) rfl dX9_loved_1 ?_
  refine va_get (D := D) (ci := 8) (v := .ref (a 18)) (C := RX8) (T := TX8) (N := 6) hx hb hT in_X8 hown hK hP 17 cw_17 rfl 0 (by decide) (hT _ t312) (fun _ h9 => h9) rfl dX9_loved_4 ?_
  refine lv_iload_n hx hb dX9_loved_7 rfl (lv_at hl 1 rfl) ?_
  refine ro_V (As := [.int p0]) (rest := []) S (s_X1_isRoad l D k a st sl  p0 _  hB  ) lkX9_114 ok_X1_isRoad ⟨rfl, rfl, Nat.le_of_ble_eq_true rfl, Nat.le_of_ble_eq_true rfl⟩ (pw_V (ci := 1) (q0 := 18) hK hN rfl cw_18 hP hD0) rfl hl.1 rfl (Nat.le_of_ble_eq_true rfl) ⟨Nat.zero_le _, Nat.zero_le _⟩ dX9_loved_8 (fun r1 er1 => ?_)
  rcases er1 with ⟨rfl, g9⟩ | ⟨rfl, g9⟩
  · skip
    have g2 := g9
    have h3 : Iv 0 7 p0 := g2.1
    refine lv_if_eq (tgt := 31) hx hb dX9_loved_11 (by decide) (fun c4 => ?_) (fun c4 => ?_)
    · first | exact absurd c4 (by decide) | exact absurd (by decide) c4
    refine lv_aload_n hx hb dX9_loved_14 rfl (lv_at hl 0 rfl) ?_
    refine va_get (D := D) (ci := 9) (v := .ref (a 17)) (C := RX9) (T := TX9) (N := 11) hx hb hT in_X9 hown hK hP 0 cw_0 rfl 2 (by decide) (hT _ t453) (fun _ h9 => h9) rfl dX9_loved_15 ?_
    refine va_get (D := D) (ci := 8) (v := .ref (a 31)) (C := RX8) (T := TX8) (N := 6) hx hb hT in_X8 hown hK hP 17 cw_17 rfl 1 (by decide) (hT _ t314) (fun _ h9 => h9) rfl dX9_loved_18 ?_
    refine lv_sipush (v := 255) hx hb dX9_loved_21 (by decide) ?_
    refine lv_iload_n hx hb dX9_loved_24 rfl (lv_at hl 1 rfl) ?_
    refine ro_V (As := [.int 255, .int p0]) (rest := []) S (s_X5_pullOf l D k a st sl 31 255 p0 _ (by decide) hB h3 ) lkX9_177 ok_X5_pullOf ⟨rfl, rfl, Nat.le_of_ble_eq_true rfl, Nat.le_of_ble_eq_true rfl⟩ (pw_V (ci := 5) (q0 := 31) hK hN rfl cw_31 hP hD0) rfl hl.1 rfl (Nat.le_of_ble_eq_true rfl) ⟨Nat.zero_le _, Nat.zero_le _⟩ dX9_loved_25 (fun r5 er5 => ?_)
    have h6 : Iv 0 72 r5 := er5.1
    refine lv_goto (tgt := 33) hx hb dX9_loved_28 (by decide) ?_
    rw [hQ]
    exact W.iret (v := r5) hx hb hr (fun t ht hW => ⟨r5, rfl, ⟨(iv_mono (c := (-2)) (d := 72) h6 (by decide) (by decide)), trivial⟩, ht⟩) (fun _ h9 => by cases h9) dX9_loved_33
  · skip
    have g7 := g9
    refine lv_if_eq (tgt := 31) hx hb dX9_loved_11 (by decide) (fun c8 => ?_) (fun c8 => ?_)
    rotate_left
    · first | exact absurd c8 (by decide) | exact absurd (by decide) c8
    refine lv_bipush (v := (-2)) hx hb dX9_loved_31 (by decide) ?_
    rw [hQ]
    exact W.iret (v := (-2)) hx hb hr (fun t ht hW => ⟨(-2), rfl, ⟨(iv_mono (c := (-2)) (d := 72) (iv_c (by decide) : Iv (-2) (-2) (-2)) (by decide) (by decide)), trivial⟩, ht⟩) (fun _ h9 => by cases h9) dX9_loved_33
set_option maxHeartbeats 4000000 in
set_option maxRecDepth 100000 in
theorem s_X9_dearest (l : Launch) (D : va_G) (k : Nat → ClassId) (a : Nat → Nat) (st : CT) (sl : CL) (sz : Nat) (hB : CB st)  : Met l yX9_dearest (.code yX9_dearest cX9_dearest 5 (some .int) :: TB) (rmk 2) (va_Pc [.ref (a 0)] (PW D k sz (CWS k a st sl))) (vp_Si (fun r => Iv (-2) 7 r ∧ (True))) 0 0 (fun _ => False) := by
  refine Met.ofW (cc := cX9_dearest) (maxL := 5) (ret := (some .int)) (by decide) rfl ?_
  intro p e s m args below meth c s₁ B hml hv
  obtain ⟨rfl, hsz, hP, hK, hD0, hN⟩ := hv
  have hx := B.exec
  have hb := B.bytes
  have hr := B.returns
  have hT : ∀ w9 ∈ TB, w9.before ([.ref (a 0)] : List Value).toArray s = true := fun w9 h => atoms_spec (ws := .code yX9_dearest cX9_dearest 5 (some .int) :: TB) B.pre w9 (List.mem_cons_of_mem _ h)
  have hown : s.vm.findClass RX9 = some m.cls := findClass_of_methodNamed B.named
  have S : CallFix p m c cX9_dearest 5 s _ TB RX9 := ⟨hx, hb, hml, hown, hT⟩
  subst hsz
  have hl := lv_entry ([.ref (a 0)]) (n := 5) (Nat.le_of_ble_eq_true rfl)
  rw [lg_entry_eq]
  generalize (lg_sl ([.ref (a 0)]) ++ List.replicate (5 - (lg_sl ([.ref (a 0)])).length) Slot.unset).toArray = ls at hl ⊢
  have hl : lv_has ls 5 [(0, .ref (a 0))] := hl
  refine nameQ (fun Q hQ => ?_)
  refine lv_aload_n hx hb dX9_dearest_0 rfl (lv_at hl 0 rfl) ?_
  refine va_get (D := D) (ci := 9) (v := .ref (a 17)) (C := RX9) (T := TX9) (N := 11) hx hb hT in_X9 hown hK hP 0 cw_0 rfl 2 (by decide) (hT _ t453) (fun _ h9 => h9) rfl dX9_dearest_1 ?_
  refine va_get (D := D) (ci := 8) (v := .ref (a 18)) (C := RX8) (T := TX8) (N := 6) hx hb hT in_X8 hown hK hP 17 cw_17 rfl 0 (by decide) (hT _ t312) (fun _ h9 => h9) rfl dX9_dearest_4 ?_
  refine ro_V (As := []) (rest := []) S (s_X1_isTold l D k a st sl   _  hB  ) lkX9_211 ok_X1_isTold ⟨rfl, rfl, Nat.le_of_ble_eq_true rfl, Nat.le_of_ble_eq_true rfl⟩ (pw_V (ci := 1) (q0 := 18) hK hN rfl cw_18 hP hD0) rfl hl.1 rfl (Nat.le_of_ble_eq_true rfl) ⟨Nat.zero_le _, Nat.zero_le _⟩ dX9_dearest_7 (fun r1 er1 => ?_)
  rcases er1 with ⟨rfl, g9⟩ | ⟨rfl, g9⟩
  · skip
    have g2 := g9
    refine lv_if_ne (tgt := 16) hx hb dX9_dearest_10 (by decide) (fun c3 => ?_) (fun c3 => ?_)
    rotate_left
    · first | exact absurd c3 (by decide) | exact absurd (by decide) c3
    refine lv_iconst (v := (-1)) hx hb dX9_dearest_16 (by decide) ?_
    refine lv_istore_n (lv' := [(1, .int (-1)), (0, .ref (a 0))]) hx hb dX9_dearest_17 rfl hl (by decide) rfl (fun ls hl => ?_)
    refine lv_iconst (v := (-1)) hx hb dX9_dearest_18 (by decide) ?_
    refine lv_istore_n (lv' := [(2, .int (-1)), (1, .int (-1)), (0, .ref (a 0))]) hx hb dX9_dearest_19 rfl hl (by decide) rfl (fun ls hl => ?_)
    refine lv_iconst (v := 0) hx hb dX9_dearest_20 (by decide) ?_
    refine lv_istore_n (lv' := [(3, .int 0), (2, .int (-1)), (1, .int (-1)), (0, .ref (a 0))]) hx hb dX9_dearest_21 rfl hl (by decide) rfl (fun ls hl => ?_)
    have lp22 : ∀ (n9_22 : Nat) (v3_22 : Int32) (v2_22 : Int32) (v1_22 : Int32) (ls : Array Slot), Iv 0 8 v3_22 → Iv (-1) 72 v2_22 → Iv (-1) 7 v1_22 → lv_has ls 5 [(3, .int v3_22), (2, .int v2_22), (1, .int v1_22), (0, .ref (a 0))] → (8 : Int) - v3_22.toInt < (n9_22 : Int) → W p l e (rmk 2) s m ([.ref (a 0)] : List Value).toArray below meth c s.heap [] 0 0 Q (F0 m 22 ls []) := by
      clear hl
      intro n9_22
      induction n9_22 with
      | zero =>
        intro v3_22 v2_22 v1_22 ls iv3_22 iv2_22 iv1_22 hl hm22
        exact (fu_0 iv3_22 hm22).elim
      | succ n9_22 ih22 =>
        intro v3_22 v2_22 v1_22 ls iv3_22 iv2_22 iv1_22 hl hm22
        refine lv_iload_n hx hb dX9_dearest_22 rfl (lv_at hl 0 rfl) ?_
        refine lv_aload_n hx hb dX9_dearest_23 rfl (lv_at hl 3 rfl) ?_
        refine va_get (D := D) (ci := 9) (v := .ref (a 17)) (C := RX9) (T := TX9) (N := 11) hx hb hT in_X9 hown hK hP 0 cw_0 rfl 2 (by decide) (hT _ t453) (fun _ h9 => h9) rfl dX9_dearest_24 ?_
        refine va_get (D := D) (ci := 8) (v := .ref (a 18)) (C := RX8) (T := TX8) (N := 6) hx hb hT in_X8 hown hK hP 17 cw_17 rfl 0 (by decide) (hT _ t312) (fun _ h9 => h9) rfl dX9_dearest_27 ?_
        refine va_get (D := D) (ci := 1) (v := .int (st 18 3)) (C := RX1) (T := TX1) (N := 14) hx hb hT in_X1 hown hK hP 18 cw_18 rfl 3 (by decide) (hT _ t211) (fun _ h9 => h9) rfl dX9_dearest_30 ?_
        have h153 : Iv 0 8 (st 18 3) := (rb_18_3 hB)
        refine lv_icmp_ge (tgt := 69) hx hb dX9_dearest_33 (by decide) (fun c154 => ?_) (fun c154 => ?_)
        · skip
          have n155 : (st 18 3).toInt ≤ v3_22.toInt := (i_le c154)
          refine lv_iload_n hx hb dX9_dearest_69 rfl (lv_at hl 2 rfl) ?_
          rw [hQ]
          exact W.iret (v := v1_22) hx hb hr (fun t ht hW => ⟨v1_22, rfl, ⟨(iv_mono (c := (-2)) (d := 7) iv1_22 (by decide) (by decide)), trivial⟩, ht⟩) (fun _ h9 => by cases h9) dX9_dearest_70
        · skip
          have n156 : v3_22.toInt < (st 18 3).toInt := (i_nle c154)
          have h157 : Iv 0 7 v3_22 := lt_l iv3_22 n156 h153 (by decide)
          have h158 : Iv 1 8 (st 18 3) := lt_r iv3_22 n156 h153 (by decide)
          refine lv_aload_n hx hb dX9_dearest_36 rfl (lv_at hl 3 rfl) ?_
          refine va_get (D := D) (ci := 9) (v := .ref (a 17)) (C := RX9) (T := TX9) (N := 11) hx hb hT in_X9 hown hK hP 0 cw_0 rfl 2 (by decide) (hT _ t453) (fun _ h9 => h9) rfl dX9_dearest_37 ?_
          refine va_get (D := D) (ci := 8) (v := .ref (a 31)) (C := RX8) (T := TX8) (N := 6) hx hb hT in_X8 hown hK hP 17 cw_17 rfl 1 (by decide) (hT _ t314) (fun _ h9 => h9) rfl dX9_dearest_40 ?_
          refine lv_sipush (v := 255) hx hb dX9_dearest_43 (by decide) ?_
          refine lv_iload_n hx hb dX9_dearest_46 rfl (lv_at hl 0 rfl) ?_
          refine ro_V (As := [.int 255, .int v3_22]) (rest := []) S (s_X5_pullOf l D k a st sl 31 255 v3_22 _ (by decide) hB h157 ) lkX9_177 ok_X5_pullOf ⟨rfl, rfl, Nat.le_of_ble_eq_true rfl, Nat.le_of_ble_eq_true rfl⟩ (pw_V (ci := 5) (q0 := 31) hK hN rfl cw_31 hP hD0) rfl hl.1 rfl (Nat.le_of_ble_eq_true rfl) ⟨Nat.zero_le _, Nat.zero_le _⟩ dX9_dearest_47 (fun r159 er159 => ?_)
          have h160 : Iv 0 72 r159 := er159.1
          refine lv_istore (lv' := [(4, .int r159), (3, .int v3_22), (2, .int v2_22), (1, .int v1_22), (0, .ref (a 0))]) hx hb dX9_dearest_50 hl (by decide) rfl (fun ls hl => ?_)
          refine lv_iload hx hb dX9_dearest_52 (lv_at hl 0 rfl) ?_
          refine lv_iload_n hx hb dX9_dearest_54 rfl (lv_at hl 2 rfl) ?_
          refine lv_icmp_le (tgt := 63) hx hb dX9_dearest_55 (by decide) (fun c161 => ?_) (fun c161 => ?_)
          · skip
            have n162 : r159.toInt ≤ v2_22.toInt := (i_le c161)
            have h163 : Iv 0 72 v2_22 := le_r h160 n162 iv2_22 (by decide)
            obtain ⟨z164, ez164⟩ : ∃ z9 : Int32, z9 = v3_22 + Int32.ofInt 1 := ⟨_, rfl⟩
            have h165 : Iv 1 8 z164 := iv_inc ez164 h157 (by decide) (by decide) (by decide) (by decide) (by decide) (by decide)
            refine lv_iinc (v := z164) (lv' := [(3, .int z164), (4, .int r159), (2, .int v2_22), (1, .int v1_22), (0, .ref (a 0))]) hx hb dX9_dearest_63 hl (k := 1) rfl ez164.symm (by decide) rfl (fun ls hl => ?_)
            refine lv_goto (tgt := 22) hx hb dX9_dearest_66 (by decide) ?_
            exact ih22 z164 v2_22 v1_22 _ (iv_mono (c := 0) (d := 8) h165 (by decide) (by decide)) (iv_mono (c := (-1)) (d := 72) h163 (by decide) (by decide)) iv1_22 (lv_sub hl [0, 2, 3, 4] rfl) (fu_s (lo := 0) (ti_inc ez164 h157 (by decide) (by decide) (by decide) (by decide)) (by decide) hm22)
          · skip
            have n166 : v2_22.toInt < r159.toInt := (i_nle c161)
            have h167 : Iv (-1) 71 v2_22 := lt_l iv2_22 n166 h160 (by decide)
            refine lv_iload hx hb dX9_dearest_58 (lv_at hl 0 rfl) ?_
            refine lv_istore_n (lv' := [(2, .int r159), (4, .int r159), (3, .int v3_22), (1, .int v1_22), (0, .ref (a 0))]) hx hb dX9_dearest_60 rfl hl (by decide) rfl (fun ls hl => ?_)
            refine lv_iload_n hx hb dX9_dearest_61 rfl (lv_at hl 2 rfl) ?_
            refine lv_istore_n (lv' := [(1, .int v3_22), (2, .int r159), (4, .int r159), (3, .int v3_22), (0, .ref (a 0))]) hx hb dX9_dearest_62 rfl hl (by decide) rfl (fun ls hl => ?_)
            obtain ⟨z168, ez168⟩ : ∃ z9 : Int32, z9 = v3_22 + Int32.ofInt 1 := ⟨_, rfl⟩
            have h169 : Iv 1 8 z168 := iv_inc ez168 h157 (by decide) (by decide) (by decide) (by decide) (by decide) (by decide)
            refine lv_iinc (v := z168) (lv' := [(3, .int z168), (1, .int v3_22), (2, .int r159), (4, .int r159), (0, .ref (a 0))]) hx hb dX9_dearest_63 hl (k := 3) rfl ez168.symm (by decide) rfl (fun ls hl => ?_)
            refine lv_goto (tgt := 22) hx hb dX9_dearest_66 (by decide) ?_
            exact ih22 z168 r159 v3_22 _ (iv_mono (c := 0) (d := 8) h169 (by decide) (by decide)) (iv_mono (c := (-1)) (d := 72) h160 (by decide) (by decide)) (iv_mono (c := (-1)) (d := 7) h157 (by decide) (by decide)) (lv_sub hl [0, 2, 1, 4] rfl) (fu_s (lo := 0) (ti_inc ez168 h157 (by decide) (by decide) (by decide) (by decide)) (by decide) hm22)
    exact lp22 9 0 (-1) (-1) _ (iv_mono (c := 0) (d := 8) (iv_c (by decide) : Iv 0 0 0) (by decide) (by decide)) (iv_mono (c := (-1)) (d := 72) (iv_c (by decide) : Iv (-1) (-1) (-1)) (by decide) (by decide)) (iv_mono (c := (-1)) (d := 7) (iv_c (by decide) : Iv (-1) (-1) (-1)) (by decide) (by decide)) (lv_sub hl [0, 1, 2, 3] rfl) (fu_i (iv_mono (c := 0) (d := 8) (iv_c (by decide) : Iv 0 0 0) (by decide) (by decide)) (by decide))
  · skip
    have g170 := g9
    refine lv_if_ne (tgt := 16) hx hb dX9_dearest_10 (by decide) (fun c171 => ?_) (fun c171 => ?_)
    · first | exact absurd c171 (by decide) | exact absurd (by decide) c171
    refine lv_bipush (v := (-2)) hx hb dX9_dearest_13 (by decide) ?_
    rw [hQ]
    exact W.iret (v := (-2)) hx hb hr (fun t ht hW => ⟨(-2), rfl, ⟨(iv_mono (c := (-2)) (d := 7) (iv_c (by decide) : Iv (-2) (-2) (-2)) (by decide) (by decide)), trivial⟩, ht⟩) (fun _ h9 => by cases h9) dX9_dearest_15
set_option maxHeartbeats 4000000 in
set_option maxRecDepth 100000 in
theorem s_X9_agreements (l : Launch) (D : va_G) (k : Nat → ClassId) (a : Nat → Nat) (st : CT) (sl : CL) (p0 : Int32) (p1 : Int32) (sz : Nat) (hB : CB st)  : Met l yX9_agreements (.code yX9_agreements cX9_agreements 6 (some .int) :: TB) (rmk 4) (va_Pc [.ref (a 0), .int p0, .int p1] (PW D k sz (CWS k a st sl))) (vp_Si (fun r => (True))) 0 0 (fun _ => False) := by
  refine Met.ofW (cc := cX9_agreements) (maxL := 6) (ret := (some .int)) (by decide) rfl ?_
  intro p e s m args below meth c s₁ B hml hv
  obtain ⟨rfl, hsz, hP, hK, hD0, hN⟩ := hv
  have hx := B.exec
  have hb := B.bytes
  have hr := B.returns
  have hT : ∀ w9 ∈ TB, w9.before ([.ref (a 0), .int p0, .int p1] : List Value).toArray s = true := fun w9 h => atoms_spec (ws := .code yX9_agreements cX9_agreements 6 (some .int) :: TB) B.pre w9 (List.mem_cons_of_mem _ h)
  have hown : s.vm.findClass RX9 = some m.cls := findClass_of_methodNamed B.named
  have S : CallFix p m c cX9_agreements 6 s _ TB RX9 := ⟨hx, hb, hml, hown, hT⟩
  subst hsz
  have hl := lv_entry ([.ref (a 0), .int p0, .int p1]) (n := 6) (Nat.le_of_ble_eq_true rfl)
  rw [lg_entry_eq]
  generalize (lg_sl ([.ref (a 0), .int p0, .int p1]) ++ List.replicate (6 - (lg_sl ([.ref (a 0), .int p0, .int p1])).length) Slot.unset).toArray = ls at hl ⊢
  have hl : lv_has ls 6 [(0, .ref (a 0)), (1, .int p0), (2, .int p1)] := hl
  refine nameQ (fun Q hQ => ?_)
  refine lv_iconst (v := 0) hx hb dX9_agreements_0 (by decide) ?_
  refine lv_istore_n (lv' := [(3, .int 0), (0, .ref (a 0)), (1, .int p0), (2, .int p1)]) hx hb dX9_agreements_1 rfl hl (by decide) rfl (fun ls hl => ?_)
  refine lv_iconst (v := 0) hx hb dX9_agreements_2 (by decide) ?_
  refine lv_istore (lv' := [(4, .int 0), (3, .int 0), (0, .ref (a 0)), (1, .int p0), (2, .int p1)]) hx hb dX9_agreements_3 hl (by decide) rfl (fun ls hl => ?_)
  have lp5 : ∀ (n9_5 : Nat) (v4_5 : Int32) (v3_5 : Int32) (ls : Array Slot), Iv 0 6 v4_5 → lv_has ls 6 [(4, .int v4_5), (3, .int v3_5), (0, .ref (a 0)), (1, .int p0), (2, .int p1)] → (6 : Int) - v4_5.toInt < (n9_5 : Int) → W p l e (rmk 4) s m ([.ref (a 0), .int p0, .int p1] : List Value).toArray below meth c s.heap [] 0 0 Q (F0 m 5 ls []) := by
    clear hl
    intro n9_5
    induction n9_5 with
    | zero =>
      intro v4_5 v3_5 ls iv4_5 hl hm5
      exact (fu_0 iv4_5 hm5).elim
    | succ n9_5 ih5 =>
      intro v4_5 v3_5 ls iv4_5 hl hm5
      refine lv_iload hx hb dX9_agreements_5 (lv_at hl 0 rfl) ?_
      refine lv_aload_n hx hb dX9_agreements_7 rfl (lv_at hl 2 rfl) ?_
      refine va_get (D := D) (ci := 9) (v := .ref (a 17)) (C := RX9) (T := TX9) (N := 11) hx hb hT in_X9 hown hK hP 0 cw_0 rfl 2 (by decide) (hT _ t453) (fun _ h9 => h9) rfl dX9_agreements_8 ?_
      refine va_get (D := D) (ci := 8) (v := .ref (a 18)) (C := RX8) (T := TX8) (N := 6) hx hb hT in_X8 hown hK hP 17 cw_17 rfl 0 (by decide) (hT _ t312) (fun _ h9 => h9) rfl dX9_agreements_11 ?_
      refine va_get (D := D) (ci := 1) (v := .int (st 18 1)) (C := RX1) (T := TX1) (N := 14) hx hb hT in_X1 hown hK hP 18 cw_18 rfl 1 (by decide) (hT _ t201) (fun _ h9 => h9) rfl dX9_agreements_14 ?_
      have h781 : Iv 0 6 (st 18 1) := (rb_18_1 hB)
      refine lv_icmp_ge (tgt := 82) hx hb dX9_agreements_17 (by decide) (fun c782 => ?_) (fun c782 => ?_)
      · skip
        have n783 : (st 18 1).toInt ≤ v4_5.toInt := (i_le c782)
        refine lv_iload_n hx hb dX9_agreements_82 rfl (lv_at hl 1 rfl) ?_
        rw [hQ]
        exact W.iret (v := v3_5) hx hb hr (fun t ht hW => ⟨v3_5, rfl, trivial, ht⟩) (fun _ h9 => by cases h9) dX9_agreements_83
      · skip
        have n784 : v4_5.toInt < (st 18 1).toInt := (i_nle c782)
        have h785 : Iv 0 5 v4_5 := lt_l iv4_5 n784 h781 (by decide)
        have h786 : Iv 1 6 (st 18 1) := lt_r iv4_5 n784 h781 (by decide)
        refine lv_aload_n hx hb dX9_agreements_20 rfl (lv_at hl 2 rfl) ?_
        refine va_get (D := D) (ci := 9) (v := .ref (a 17)) (C := RX9) (T := TX9) (N := 11) hx hb hT in_X9 hown hK hP 0 cw_0 rfl 2 (by decide) (hT _ t453) (fun _ h9 => h9) rfl dX9_agreements_21 ?_
        refine va_get (D := D) (ci := 8) (v := .ref (a 31)) (C := RX8) (T := TX8) (N := 6) hx hb hT in_X8 hown hK hP 17 cw_17 rfl 1 (by decide) (hT _ t314) (fun _ h9 => h9) rfl dX9_agreements_24 ?_
        refine lv_aload_n hx hb dX9_agreements_27 rfl (lv_at hl 2 rfl) ?_
        refine va_get (D := D) (ci := 9) (v := .ref (a 17)) (C := RX9) (T := TX9) (N := 11) hx hb hT in_X9 hown hK hP 0 cw_0 rfl 2 (by decide) (hT _ t453) (fun _ h9 => h9) rfl dX9_agreements_28 ?_
        refine va_get (D := D) (ci := 8) (v := .ref (a 18)) (C := RX8) (T := TX8) (N := 6) hx hb hT in_X8 hown hK hP 17 cw_17 rfl 0 (by decide) (hT _ t312) (fun _ h9 => h9) rfl dX9_agreements_31 ?_
        refine lv_iload_n hx hb dX9_agreements_34 rfl (lv_at hl 3 rfl) ?_
        refine lv_iload hx hb dX9_agreements_35 (lv_at hl 0 rfl) ?_
        refine ro_V (As := [.ref (a 18), .int p0, .int v4_5]) (rest := []) S (s_X5_alone l D k a st sl 31 p0 v4_5 _ (by decide) hB  ) lkX9_344 ok_X5_alone ⟨rfl, rfl, Nat.le_of_ble_eq_true rfl, Nat.le_of_ble_eq_true rfl⟩ (pw_V (ci := 5) (q0 := 31) hK hN rfl cw_31 hP hD0) rfl hl.1 rfl (Nat.le_of_ble_eq_true rfl) ⟨Nat.zero_le _, Nat.zero_le _⟩ dX9_agreements_37 (fun r787 er787 => ?_)
        have h788 : Iv (-1) 7 r787 := er787.1
        refine lv_istore (lv' := [(5, .int r787), (4, .int v4_5), (3, .int v3_5), (0, .ref (a 0)), (1, .int p0), (2, .int p1)]) hx hb dX9_agreements_40 hl (by decide) rfl (fun ls hl => ?_)
        refine lv_iload hx hb dX9_agreements_42 (lv_at hl 0 rfl) ?_
        refine lv_iconst (v := (-1)) hx hb dX9_agreements_44 (by decide) ?_
        refine lv_icmp_eq (tgt := 76) hx hb dX9_agreements_45 (by decide) (fun c789 => ?_) (fun c789 => ?_)
        · skip
          have h790 : Iv (-1) (-1) r787 := eq_l c789 (iv_c (by decide) : Iv (-1) (-1) (-1))
          obtain ⟨z791, ez791⟩ : ∃ z9 : Int32, z9 = v4_5 + Int32.ofInt 1 := ⟨_, rfl⟩
          have h792 : Iv 1 6 z791 := iv_inc ez791 h785 (by decide) (by decide) (by decide) (by decide) (by decide) (by decide)
          refine lv_iinc (v := z791) (lv' := [(4, .int z791), (5, .int r787), (3, .int v3_5), (0, .ref (a 0)), (1, .int p0), (2, .int p1)]) hx hb dX9_agreements_76 hl (k := 1) rfl ez791.symm (by decide) rfl (fun ls hl => ?_)
          refine lv_goto (tgt := 5) hx hb dX9_agreements_79 (by decide) ?_
          exact ih5 z791 v3_5 _ (iv_mono (c := 0) (d := 6) h792 (by decide) (by decide)) (lv_sub hl [0, 2, 3, 4, 5] rfl) (fu_s (lo := 0) (ti_inc ez791 h785 (by decide) (by decide) (by decide) (by decide)) (by decide) hm5)
        · skip
          have h793 : Iv 0 7 r787 := ne_lo h788 c789 (by decide) (by decide)
          refine lv_aload_n hx hb dX9_agreements_48 rfl (lv_at hl 3 rfl) ?_
          refine va_get (D := D) (ci := 9) (v := .ref (a 17)) (C := RX9) (T := TX9) (N := 11) hx hb hT in_X9 hown hK hP 0 cw_0 rfl 2 (by decide) (hT _ t453) (fun _ h9 => h9) rfl dX9_agreements_49 ?_
          refine va_get (D := D) (ci := 8) (v := .ref (a 31)) (C := RX8) (T := TX8) (N := 6) hx hb hT in_X8 hown hK hP 17 cw_17 rfl 1 (by decide) (hT _ t314) (fun _ h9 => h9) rfl dX9_agreements_52 ?_
          refine lv_aload_n hx hb dX9_agreements_55 rfl (lv_at hl 3 rfl) ?_
          refine va_get (D := D) (ci := 9) (v := .ref (a 17)) (C := RX9) (T := TX9) (N := 11) hx hb hT in_X9 hown hK hP 0 cw_0 rfl 2 (by decide) (hT _ t453) (fun _ h9 => h9) rfl dX9_agreements_56 ?_
          refine va_get (D := D) (ci := 8) (v := .ref (a 18)) (C := RX8) (T := TX8) (N := 6) hx hb hT in_X8 hown hK hP 17 cw_17 rfl 0 (by decide) (hT _ t312) (fun _ h9 => h9) rfl dX9_agreements_59 ?_
          refine lv_iload_n hx hb dX9_agreements_62 rfl (lv_at hl 5 rfl) ?_
          refine lv_iload hx hb dX9_agreements_63 (lv_at hl 1 rfl) ?_
          refine ro_V (As := [.ref (a 18), .int p1, .int v4_5]) (rest := []) S (s_X5_alone l D k a st sl 31 p1 v4_5 _ (by decide) hB  ) lkX9_344 ok_X5_alone ⟨rfl, rfl, Nat.le_of_ble_eq_true rfl, Nat.le_of_ble_eq_true rfl⟩ (pw_V (ci := 5) (q0 := 31) hK hN rfl cw_31 hP hD0) rfl hl.1 rfl (Nat.le_of_ble_eq_true rfl) ⟨Nat.zero_le _, Nat.zero_le _⟩ dX9_agreements_65 (fun r794 er794 => ?_)
          have h795 : Iv (-1) 7 r794 := er794.1
          refine lv_iload hx hb dX9_agreements_68 (lv_at hl 0 rfl) ?_
          refine lv_icmp_ne (tgt := 76) hx hb dX9_agreements_70 (by decide) (fun c796 => ?_) (fun c796 => ?_)
          · skip
            obtain ⟨z797, ez797⟩ : ∃ z9 : Int32, z9 = v4_5 + Int32.ofInt 1 := ⟨_, rfl⟩
            have h798 : Iv 1 6 z797 := iv_inc ez797 h785 (by decide) (by decide) (by decide) (by decide) (by decide) (by decide)
            refine lv_iinc (v := z797) (lv' := [(4, .int z797), (5, .int r787), (3, .int v3_5), (0, .ref (a 0)), (1, .int p0), (2, .int p1)]) hx hb dX9_agreements_76 hl (k := 1) rfl ez797.symm (by decide) rfl (fun ls hl => ?_)
            refine lv_goto (tgt := 5) hx hb dX9_agreements_79 (by decide) ?_
            exact ih5 z797 v3_5 _ (iv_mono (c := 0) (d := 6) h798 (by decide) (by decide)) (lv_sub hl [0, 2, 3, 4, 5] rfl) (fu_s (lo := 0) (ti_inc ez797 h785 (by decide) (by decide) (by decide) (by decide)) (by decide) hm5)
          · skip
            have h799 : Iv 0 7 r794 := eq_l c796 h793
            obtain ⟨z800, ez800⟩ : ∃ z9 : Int32, z9 = v3_5 + Int32.ofInt 1 := ⟨_, rfl⟩
            refine lv_iinc (v := z800) (lv' := [(3, .int z800), (5, .int r787), (4, .int v4_5), (0, .ref (a 0)), (1, .int p0), (2, .int p1)]) hx hb dX9_agreements_73 hl (k := 2) rfl ez800.symm (by decide) rfl (fun ls hl => ?_)
            obtain ⟨z801, ez801⟩ : ∃ z9 : Int32, z9 = v4_5 + Int32.ofInt 1 := ⟨_, rfl⟩
            have h802 : Iv 1 6 z801 := iv_inc ez801 h785 (by decide) (by decide) (by decide) (by decide) (by decide) (by decide)
            refine lv_iinc (v := z801) (lv' := [(4, .int z801), (3, .int z800), (5, .int r787), (0, .ref (a 0)), (1, .int p0), (2, .int p1)]) hx hb dX9_agreements_76 hl (k := 2) rfl ez801.symm (by decide) rfl (fun ls hl => ?_)
            refine lv_goto (tgt := 5) hx hb dX9_agreements_79 (by decide) ?_
            exact ih5 z801 z800 _ (iv_mono (c := 0) (d := 6) h802 (by decide) (by decide)) (lv_sub hl [0, 1, 3, 4, 5] rfl) (fu_s (lo := 0) (ti_inc ez801 h785 (by decide) (by decide) (by decide) (by decide)) (by decide) hm5)
  exact lp5 7 0 0 _ (iv_mono (c := 0) (d := 6) (iv_c (by decide) : Iv 0 0 0) (by decide) (by decide)) (lv_sub hl [0, 1, 2, 3, 4] rfl) (fu_i (iv_mono (c := 0) (d := 6) (iv_c (by decide) : Iv 0 0 0) (by decide) (by decide)) (by decide))
set_option maxHeartbeats 4000000 in
set_option maxRecDepth 100000 in
theorem s_X9_agree (l : Launch) (D : va_G) (k : Nat → ClassId) (a : Nat → Nat) (st : CT) (sl : CL) (p0 : Int32) (p1 : Int32) (sz : Nat) (hB : CB st)  : Met l yX9_agree (.code yX9_agree cX9_agree 3 (some .int) :: TB) (rmk 5) (va_Pc [.ref (a 0), .int p0, .int p1] (PW D k sz (CWS k a st sl))) (vp_Si (fun r => (True))) 0 0 (fun _ => False) := by
  refine Met.ofW (cc := cX9_agree) (maxL := 3) (ret := (some .int)) (by decide) rfl ?_
  intro p e s m args below meth c s₁ B hml hv
  obtain ⟨rfl, hsz, hP, hK, hD0, hN⟩ := hv
  have hx := B.exec
  have hb := B.bytes
  have hr := B.returns
  have hT : ∀ w9 ∈ TB, w9.before ([.ref (a 0), .int p0, .int p1] : List Value).toArray s = true := fun w9 h => atoms_spec (ws := .code yX9_agree cX9_agree 3 (some .int) :: TB) B.pre w9 (List.mem_cons_of_mem _ h)
  have hown : s.vm.findClass RX9 = some m.cls := findClass_of_methodNamed B.named
  have S : CallFix p m c cX9_agree 3 s _ TB RX9 := ⟨hx, hb, hml, hown, hT⟩
  subst hsz
  have hl := lv_entry ([.ref (a 0), .int p0, .int p1]) (n := 3) (Nat.le_of_ble_eq_true rfl)
  rw [lg_entry_eq]
  generalize (lg_sl ([.ref (a 0), .int p0, .int p1]) ++ List.replicate (3 - (lg_sl ([.ref (a 0), .int p0, .int p1])).length) Slot.unset).toArray = ls at hl ⊢
  have hl : lv_has ls 3 [(0, .ref (a 0)), (1, .int p0), (2, .int p1)] := hl
  refine nameQ (fun Q hQ => ?_)
  refine lv_aload_n hx hb dX9_agree_0 rfl (lv_at hl 0 rfl) ?_
  refine va_get (D := D) (ci := 9) (v := .ref (a 17)) (C := RX9) (T := TX9) (N := 11) hx hb hT in_X9 hown hK hP 0 cw_0 rfl 2 (by decide) (hT _ t453) (fun _ h9 => h9) rfl dX9_agree_1 ?_
  refine va_get (D := D) (ci := 8) (v := .ref (a 18)) (C := RX8) (T := TX8) (N := 6) hx hb hT in_X8 hown hK hP 17 cw_17 rfl 0 (by decide) (hT _ t312) (fun _ h9 => h9) rfl dX9_agree_4 ?_
  refine lv_iload_n hx hb dX9_agree_7 rfl (lv_at hl 1 rfl) ?_
  refine ro_V (As := [.int p0]) (rest := []) S (s_X1_isWheel l D k a st sl  p0 _  hB  ) lkX9_127 ok_X1_isWheel ⟨rfl, rfl, Nat.le_of_ble_eq_true rfl, Nat.le_of_ble_eq_true rfl⟩ (pw_V (ci := 1) (q0 := 18) hK hN rfl cw_18 hP hD0) rfl hl.1 rfl (Nat.le_of_ble_eq_true rfl) ⟨Nat.zero_le _, Nat.zero_le _⟩ dX9_agree_8 (fun r1 er1 => ?_)
  rcases er1 with ⟨rfl, g9⟩ | ⟨rfl, g9⟩
  · skip
    have g2 := g9
    have h3 : Iv 0 7 p0 := g2.1
    refine lv_if_eq (tgt := 28) hx hb dX9_agree_11 (by decide) (fun c4 => ?_) (fun c4 => ?_)
    · first | exact absurd c4 (by decide) | exact absurd (by decide) c4
    refine lv_aload_n hx hb dX9_agree_14 rfl (lv_at hl 0 rfl) ?_
    refine va_get (D := D) (ci := 9) (v := .ref (a 17)) (C := RX9) (T := TX9) (N := 11) hx hb hT in_X9 hown hK hP 0 cw_0 rfl 2 (by decide) (hT _ t453) (fun _ h9 => h9) rfl dX9_agree_15 ?_
    refine va_get (D := D) (ci := 8) (v := .ref (a 18)) (C := RX8) (T := TX8) (N := 6) hx hb hT in_X8 hown hK hP 17 cw_17 rfl 0 (by decide) (hT _ t312) (fun _ h9 => h9) rfl dX9_agree_18 ?_
    refine lv_iload_n hx hb dX9_agree_21 rfl (lv_at hl 2 rfl) ?_
    refine ro_V (As := [.int p1]) (rest := []) S (s_X1_isWheel l D k a st sl  p1 _  hB  ) lkX9_127 ok_X1_isWheel ⟨rfl, rfl, Nat.le_of_ble_eq_true rfl, Nat.le_of_ble_eq_true rfl⟩ (pw_V (ci := 1) (q0 := 18) hK hN rfl cw_18 hP hD0) rfl hl.1 rfl (Nat.le_of_ble_eq_true rfl) ⟨Nat.zero_le _, Nat.zero_le _⟩ dX9_agree_22 (fun r5 er5 => ?_)
    rcases er5 with ⟨rfl, g9⟩ | ⟨rfl, g9⟩
    · skip
      have g6 := g9
      have h7 : Iv 0 7 p1 := g6.1
      refine lv_if_ne (tgt := 31) hx hb dX9_agree_25 (by decide) (fun c8 => ?_) (fun c8 => ?_)
      rotate_left
      · first | exact absurd c8 (by decide) | exact absurd (by decide) c8
      refine lv_aload_n hx hb dX9_agree_31 rfl (lv_at hl 0 rfl) ?_
      refine lv_iload_n hx hb dX9_agree_32 rfl (lv_at hl 1 rfl) ?_
      refine lv_iload_n hx hb dX9_agree_33 rfl (lv_at hl 2 rfl) ?_
      refine ro_V (As := [.int p0, .int p1]) (rest := []) S (s_X9_agreements l D k a st sl  p0 p1 _  hB  ) lkX9_352 ok_X9_agreements ⟨rfl, rfl, Nat.le_of_ble_eq_true rfl, Nat.le_of_ble_eq_true rfl⟩ (pw_V (ci := 9) (q0 := 0) hK hN rfl cw_0 hP hD0) rfl hl.1 rfl (Nat.le_of_ble_eq_true rfl) ⟨Nat.zero_le _, Nat.zero_le _⟩ dX9_agree_34 (fun r9 er9 => ?_)
      rw [hQ]
      exact W.iret (v := r9) hx hb hr (fun t ht hW => ⟨r9, rfl, trivial, ht⟩) (fun _ h9 => by cases h9) dX9_agree_37
    · skip
      have g10 := g9
      refine lv_if_ne (tgt := 31) hx hb dX9_agree_25 (by decide) (fun c11 => ?_) (fun c11 => ?_)
      · first | exact absurd c11 (by decide) | exact absurd (by decide) c11
      refine lv_bipush (v := (-2)) hx hb dX9_agree_28 (by decide) ?_
      rw [hQ]
      exact W.iret (v := (-2)) hx hb hr (fun t ht hW => ⟨(-2), rfl, trivial, ht⟩) (fun _ h9 => by cases h9) dX9_agree_30
  · skip
    have g12 := g9
    refine lv_if_eq (tgt := 28) hx hb dX9_agree_11 (by decide) (fun c13 => ?_) (fun c13 => ?_)
    rotate_left
    · first | exact absurd c13 (by decide) | exact absurd (by decide) c13
    refine lv_bipush (v := (-2)) hx hb dX9_agree_28 (by decide) ?_
    rw [hQ]
    exact W.iret (v := (-2)) hx hb hr (fun t ht hW => ⟨(-2), rfl, trivial, ht⟩) (fun _ h9 => by cases h9) dX9_agree_30
set_option maxHeartbeats 4000000 in
set_option maxRecDepth 100000 in
theorem s_X9_mate (l : Launch) (D : va_G) (k : Nat → ClassId) (a : Nat → Nat) (st : CT) (sl : CL) (p0 : Int32) (sz : Nat) (hB : CB st)  : Met l yX9_mate (.code yX9_mate cX9_mate 6 (some .int) :: TB) (rmk 5) (va_Pc [.ref (a 0), .int p0] (PW D k sz (CWS k a st sl))) (vp_Si (fun r => Iv (-2) 7 r ∧ (True))) 0 0 (fun _ => False) := by
  refine Met.ofW (cc := cX9_mate) (maxL := 6) (ret := (some .int)) (by decide) rfl ?_
  intro p e s m args below meth c s₁ B hml hv
  obtain ⟨rfl, hsz, hP, hK, hD0, hN⟩ := hv
  have hx := B.exec
  have hb := B.bytes
  have hr := B.returns
  have hT : ∀ w9 ∈ TB, w9.before ([.ref (a 0), .int p0] : List Value).toArray s = true := fun w9 h => atoms_spec (ws := .code yX9_mate cX9_mate 6 (some .int) :: TB) B.pre w9 (List.mem_cons_of_mem _ h)
  have hown : s.vm.findClass RX9 = some m.cls := findClass_of_methodNamed B.named
  have S : CallFix p m c cX9_mate 6 s _ TB RX9 := ⟨hx, hb, hml, hown, hT⟩
  subst hsz
  have hl := lv_entry ([.ref (a 0), .int p0]) (n := 6) (Nat.le_of_ble_eq_true rfl)
  rw [lg_entry_eq]
  generalize (lg_sl ([.ref (a 0), .int p0]) ++ List.replicate (6 - (lg_sl ([.ref (a 0), .int p0])).length) Slot.unset).toArray = ls at hl ⊢
  have hl : lv_has ls 6 [(0, .ref (a 0)), (1, .int p0)] := hl
  refine nameQ (fun Q hQ => ?_)
  refine lv_aload_n hx hb dX9_mate_0 rfl (lv_at hl 0 rfl) ?_
  refine va_get (D := D) (ci := 9) (v := .ref (a 17)) (C := RX9) (T := TX9) (N := 11) hx hb hT in_X9 hown hK hP 0 cw_0 rfl 2 (by decide) (hT _ t453) (fun _ h9 => h9) rfl dX9_mate_1 ?_
  refine va_get (D := D) (ci := 8) (v := .ref (a 18)) (C := RX8) (T := TX8) (N := 6) hx hb hT in_X8 hown hK hP 17 cw_17 rfl 0 (by decide) (hT _ t312) (fun _ h9 => h9) rfl dX9_mate_4 ?_
  refine lv_iload_n hx hb dX9_mate_7 rfl (lv_at hl 1 rfl) ?_
  refine ro_V (As := [.int p0]) (rest := []) S (s_X1_isWheel l D k a st sl  p0 _  hB  ) lkX9_127 ok_X1_isWheel ⟨rfl, rfl, Nat.le_of_ble_eq_true rfl, Nat.le_of_ble_eq_true rfl⟩ (pw_V (ci := 1) (q0 := 18) hK hN rfl cw_18 hP hD0) rfl hl.1 rfl (Nat.le_of_ble_eq_true rfl) ⟨Nat.zero_le _, Nat.zero_le _⟩ dX9_mate_8 (fun r1 er1 => ?_)
  rcases er1 with ⟨rfl, g9⟩ | ⟨rfl, g9⟩
  · skip
    have g2 := g9
    have h3 : Iv 0 7 p0 := g2.1
    refine lv_if_ne (tgt := 17) hx hb dX9_mate_11 (by decide) (fun c4 => ?_) (fun c4 => ?_)
    rotate_left
    · first | exact absurd c4 (by decide) | exact absurd (by decide) c4
    refine lv_iconst (v := (-1)) hx hb dX9_mate_17 (by decide) ?_
    refine lv_istore_n (lv' := [(2, .int (-1)), (0, .ref (a 0)), (1, .int p0)]) hx hb dX9_mate_18 rfl hl (by decide) rfl (fun ls hl => ?_)
    refine lv_iconst (v := (-1)) hx hb dX9_mate_19 (by decide) ?_
    refine lv_istore_n (lv' := [(3, .int (-1)), (2, .int (-1)), (0, .ref (a 0)), (1, .int p0)]) hx hb dX9_mate_20 rfl hl (by decide) rfl (fun ls hl => ?_)
    refine lv_iconst (v := 0) hx hb dX9_mate_21 (by decide) ?_
    refine lv_istore (lv' := [(4, .int 0), (3, .int (-1)), (2, .int (-1)), (0, .ref (a 0)), (1, .int p0)]) hx hb dX9_mate_22 hl (by decide) rfl (fun ls hl => ?_)
    have lp24 : ∀ (n9_24 : Nat) (v4_24 : Int32) (v3_24 : Int32) (v2_24 : Int32) (ls : Array Slot), Iv 0 8 v4_24 → Iv (-1) 2147483647 v3_24 → Iv (-1) 7 v2_24 → lv_has ls 6 [(4, .int v4_24), (3, .int v3_24), (2, .int v2_24), (0, .ref (a 0)), (1, .int p0)] → (8 : Int) - v4_24.toInt < (n9_24 : Int) → W p l e (rmk 5) s m ([.ref (a 0), .int p0] : List Value).toArray below meth c s.heap [] 0 0 Q (F0 m 24 ls []) := by
      clear hl
      intro n9_24
      induction n9_24 with
      | zero =>
        intro v4_24 v3_24 v2_24 ls iv4_24 iv3_24 iv2_24 hl hm24
        exact (fu_0 iv4_24 hm24).elim
      | succ n9_24 ih24 =>
        intro v4_24 v3_24 v2_24 ls iv4_24 iv3_24 iv2_24 hl hm24
        refine lv_iload hx hb dX9_mate_24 (lv_at hl 0 rfl) ?_
        refine lv_aload_n hx hb dX9_mate_26 rfl (lv_at hl 3 rfl) ?_
        refine va_get (D := D) (ci := 9) (v := .ref (a 17)) (C := RX9) (T := TX9) (N := 11) hx hb hT in_X9 hown hK hP 0 cw_0 rfl 2 (by decide) (hT _ t453) (fun _ h9 => h9) rfl dX9_mate_27 ?_
        refine va_get (D := D) (ci := 8) (v := .ref (a 18)) (C := RX8) (T := TX8) (N := 6) hx hb hT in_X8 hown hK hP 17 cw_17 rfl 0 (by decide) (hT _ t312) (fun _ h9 => h9) rfl dX9_mate_30 ?_
        refine va_get (D := D) (ci := 1) (v := .int (st 18 4)) (C := RX1) (T := TX1) (N := 14) hx hb hT in_X1 hown hK hP 18 cw_18 rfl 4 (by decide) (hT _ t215) (fun _ h9 => h9) rfl dX9_mate_33 ?_
        have h183 : Iv 0 8 (st 18 4) := (rb_18_4 hB)
        refine lv_icmp_ge (tgt := 72) hx hb dX9_mate_36 (by decide) (fun c184 => ?_) (fun c184 => ?_)
        · skip
          have n185 : (st 18 4).toInt ≤ v4_24.toInt := (i_le c184)
          refine lv_iload_n hx hb dX9_mate_72 rfl (lv_at hl 2 rfl) ?_
          rw [hQ]
          exact W.iret (v := v2_24) hx hb hr (fun t ht hW => ⟨v2_24, rfl, ⟨(iv_mono (c := (-2)) (d := 7) iv2_24 (by decide) (by decide)), trivial⟩, ht⟩) (fun _ h9 => by cases h9) dX9_mate_73
        · skip
          have n186 : v4_24.toInt < (st 18 4).toInt := (i_nle c184)
          have h187 : Iv 0 7 v4_24 := lt_l iv4_24 n186 h183 (by decide)
          have h188 : Iv 1 8 (st 18 4) := lt_r iv4_24 n186 h183 (by decide)
          refine lv_iload hx hb dX9_mate_39 (lv_at hl 0 rfl) ?_
          refine lv_iload_n hx hb dX9_mate_41 rfl (lv_at hl 4 rfl) ?_
          refine lv_icmp_eq (tgt := 66) hx hb dX9_mate_42 (by decide) (fun c189 => ?_) (fun c189 => ?_)
          · skip
            obtain ⟨z190, ez190⟩ : ∃ z9 : Int32, z9 = v4_24 + Int32.ofInt 1 := ⟨_, rfl⟩
            have h191 : Iv 1 8 z190 := iv_inc ez190 h187 (by decide) (by decide) (by decide) (by decide) (by decide) (by decide)
            refine lv_iinc (v := z190) (lv' := [(4, .int z190), (3, .int v3_24), (2, .int v2_24), (0, .ref (a 0)), (1, .int p0)]) hx hb dX9_mate_66 hl (k := 0) rfl ez190.symm (by decide) rfl (fun ls hl => ?_)
            refine lv_goto (tgt := 24) hx hb dX9_mate_69 (by decide) ?_
            exact ih24 z190 v3_24 v2_24 _ (iv_mono (c := 0) (d := 8) h191 (by decide) (by decide)) iv3_24 iv2_24 (lv_sub hl [0, 1, 2, 3, 4] rfl) (fu_s (lo := 0) (ti_inc ez190 h187 (by decide) (by decide) (by decide) (by decide)) (by decide) hm24)
          · skip
            refine lv_aload_n hx hb dX9_mate_45 rfl (lv_at hl 3 rfl) ?_
            refine lv_iload_n hx hb dX9_mate_46 rfl (lv_at hl 4 rfl) ?_
            refine lv_iload hx hb dX9_mate_47 (lv_at hl 0 rfl) ?_
            refine ro_V (As := [.int p0, .int v4_24]) (rest := []) S (s_X9_agreements l D k a st sl  p0 v4_24 _  hB  ) lkX9_352 ok_X9_agreements ⟨rfl, rfl, Nat.le_of_ble_eq_true rfl, Nat.le_of_ble_eq_true rfl⟩ (pw_V (ci := 9) (q0 := 0) hK hN rfl cw_0 hP hD0) rfl hl.1 rfl (Nat.le_of_ble_eq_true rfl) ⟨Nat.zero_le _, Nat.zero_le _⟩ dX9_mate_49 (fun r192 er192 => ?_)
            refine lv_istore (lv' := [(5, .int r192), (4, .int v4_24), (3, .int v3_24), (2, .int v2_24), (0, .ref (a 0)), (1, .int p0)]) hx hb dX9_mate_52 hl (by decide) rfl (fun ls hl => ?_)
            refine lv_iload hx hb dX9_mate_54 (lv_at hl 0 rfl) ?_
            refine lv_iload_n hx hb dX9_mate_56 rfl (lv_at hl 2 rfl) ?_
            refine lv_icmp_le (tgt := 66) hx hb dX9_mate_57 (by decide) (fun c193 => ?_) (fun c193 => ?_)
            · skip
              have n194 : r192.toInt ≤ v3_24.toInt := (i_le c193)
              obtain ⟨z195, ez195⟩ : ∃ z9 : Int32, z9 = v4_24 + Int32.ofInt 1 := ⟨_, rfl⟩
              have h196 : Iv 1 8 z195 := iv_inc ez195 h187 (by decide) (by decide) (by decide) (by decide) (by decide) (by decide)
              refine lv_iinc (v := z195) (lv' := [(4, .int z195), (5, .int r192), (3, .int v3_24), (2, .int v2_24), (0, .ref (a 0)), (1, .int p0)]) hx hb dX9_mate_66 hl (k := 1) rfl ez195.symm (by decide) rfl (fun ls hl => ?_)
              refine lv_goto (tgt := 24) hx hb dX9_mate_69 (by decide) ?_
              exact ih24 z195 v3_24 v2_24 _ (iv_mono (c := 0) (d := 8) h196 (by decide) (by decide)) iv3_24 iv2_24 (lv_sub hl [0, 2, 3, 4, 5] rfl) (fu_s (lo := 0) (ti_inc ez195 h187 (by decide) (by decide) (by decide) (by decide)) (by decide) hm24)
            · skip
              have n197 : v3_24.toInt < r192.toInt := (i_nle c193)
              have h198 : Iv (-1) 2147483646 v3_24 := lt_l iv3_24 n197 (iv_full r192) (by decide)
              have h199 : Iv 0 2147483647 r192 := lt_r iv3_24 n197 (iv_full r192) (by decide)
              refine lv_iload hx hb dX9_mate_60 (lv_at hl 0 rfl) ?_
              refine lv_istore_n (lv' := [(3, .int r192), (5, .int r192), (4, .int v4_24), (2, .int v2_24), (0, .ref (a 0)), (1, .int p0)]) hx hb dX9_mate_62 rfl hl (by decide) rfl (fun ls hl => ?_)
              refine lv_iload hx hb dX9_mate_63 (lv_at hl 2 rfl) ?_
              refine lv_istore_n (lv' := [(2, .int v4_24), (3, .int r192), (5, .int r192), (4, .int v4_24), (0, .ref (a 0)), (1, .int p0)]) hx hb dX9_mate_65 rfl hl (by decide) rfl (fun ls hl => ?_)
              obtain ⟨z200, ez200⟩ : ∃ z9 : Int32, z9 = v4_24 + Int32.ofInt 1 := ⟨_, rfl⟩
              have h201 : Iv 1 8 z200 := iv_inc ez200 h187 (by decide) (by decide) (by decide) (by decide) (by decide) (by decide)
              refine lv_iinc (v := z200) (lv' := [(4, .int z200), (2, .int v4_24), (3, .int r192), (5, .int r192), (0, .ref (a 0)), (1, .int p0)]) hx hb dX9_mate_66 hl (k := 3) rfl ez200.symm (by decide) rfl (fun ls hl => ?_)
              refine lv_goto (tgt := 24) hx hb dX9_mate_69 (by decide) ?_
              exact ih24 z200 r192 v4_24 _ (iv_mono (c := 0) (d := 8) h201 (by decide) (by decide)) (iv_mono (c := (-1)) (d := 2147483647) h199 (by decide) (by decide)) (iv_mono (c := (-1)) (d := 7) h187 (by decide) (by decide)) (lv_sub hl [0, 2, 1, 4, 5] rfl) (fu_s (lo := 0) (ti_inc ez200 h187 (by decide) (by decide) (by decide) (by decide)) (by decide) hm24)
    exact lp24 9 0 (-1) (-1) _ (iv_mono (c := 0) (d := 8) (iv_c (by decide) : Iv 0 0 0) (by decide) (by decide)) (iv_mono (c := (-1)) (d := 2147483647) (iv_c (by decide) : Iv (-1) (-1) (-1)) (by decide) (by decide)) (iv_mono (c := (-1)) (d := 7) (iv_c (by decide) : Iv (-1) (-1) (-1)) (by decide) (by decide)) (lv_sub hl [0, 1, 2, 3, 4] rfl) (fu_i (iv_mono (c := 0) (d := 8) (iv_c (by decide) : Iv 0 0 0) (by decide) (by decide)) (by decide))
  · skip
    have g202 := g9
    refine lv_if_ne (tgt := 17) hx hb dX9_mate_11 (by decide) (fun c203 => ?_) (fun c203 => ?_)
    · first | exact absurd c203 (by decide) | exact absurd (by decide) c203
    refine lv_bipush (v := (-2)) hx hb dX9_mate_14 (by decide) ?_
    rw [hQ]
    exact W.iret (v := (-2)) hx hb hr (fun t ht hW => ⟨(-2), rfl, ⟨(iv_mono (c := (-2)) (d := 7) (iv_c (by decide) : Iv (-2) (-2) (-2)) (by decide) (by decide)), trivial⟩, ht⟩) (fun _ h9 => by cases h9) dX9_mate_16
set_option maxHeartbeats 4000000 in
set_option maxRecDepth 100000 in
theorem s_X9_teach (l : Launch) (D : va_G) (k : Nat → ClassId) (a : Nat → Nat) (st : CT) (sl : CL) (p0 : Int32) (p1 : Int32) (sz : Nat) (hB : CB st)  : Met l yX9_teach (.code yX9_teach cX9_teach 4 (some .int) :: TB) (rmw 4 0 0) (va_Pc [.ref (a 0), .int p0, .int p1] (PW D k sz (CWS k a st sl))) (QI D (S := CT) (fun r u => CB u ∧ FR [120, 121, 122, 123, 124] st u ∧ (Iv (-2) 60 r ∧ (True))) (fun u => CWS k a u sl) (fun _ => []) (CWS k a st sl) sz) 0 0 (va_A (CWS k a st sl) sz) := by
  refine Met.ofW (cc := cX9_teach) (maxL := 4) (ret := (some .int)) (by decide) rfl ?_
  intro p e s m args below meth c s₁ B hml hv
  obtain ⟨rfl, hsz, hP, hK, hD0, hN⟩ := hv
  have hx := B.exec
  have hb := B.bytes
  have hr := B.returns
  have hT : ∀ w9 ∈ TB, w9.before ([.ref (a 0), .int p0, .int p1] : List Value).toArray s = true := fun w9 h => atoms_spec (ws := .code yX9_teach cX9_teach 4 (some .int) :: TB) B.pre w9 (List.mem_cons_of_mem _ h)
  have hown : s.vm.findClass RX9 = some m.cls := findClass_of_methodNamed B.named
  have S : CallFix p m c cX9_teach 4 s _ TB RX9 := ⟨hx, hb, hml, hown, hT⟩
  subst hsz
  have hD := hD0.self (sz := s.heap.size)
  generalize hAe : va_A (CWS k a st sl) s.heap.size = A at hD ⊢
  have hA : ∀ q : Nat, s.heap.size ≤ q → A q := fun q h => by rw [← hAe]; exact Or.inr h
  have hS : va_S A s.heap s.heap [] := va_S.rf
  have hl := lv_entry ([.ref (a 0), .int p0, .int p1]) (n := 4) (Nat.le_of_ble_eq_true rfl)
  rw [lg_entry_eq]
  generalize (lg_sl ([.ref (a 0), .int p0, .int p1]) ++ List.replicate (4 - (lg_sl ([.ref (a 0), .int p0, .int p1])).length) Slot.unset).toArray = ls at hl ⊢
  have hl : lv_has ls 4 [(0, .ref (a 0)), (1, .int p0), (2, .int p1)] := hl
  refine nameQ (fun Q hQ => ?_)
  refine lv_aload_n hx hb dX9_teach_0 rfl (lv_at hl 0 rfl) ?_
  refine va_get (D := D) (ci := 9) (v := .ref (a 17)) (C := RX9) (T := TX9) (N := 11) hx hb hT in_X9 hown hK hP 0 cw_0 rfl 2 (by decide) (hT _ t453) (fun _ h9 => h9) rfl dX9_teach_1 ?_
  refine va_get (D := D) (ci := 8) (v := .ref (a 18)) (C := RX8) (T := TX8) (N := 6) hx hb hT in_X8 hown hK hP 17 cw_17 rfl 0 (by decide) (hT _ t312) (fun _ h9 => h9) rfl dX9_teach_4 ?_
  refine lv_iload_n hx hb dX9_teach_7 rfl (lv_at hl 1 rfl) ?_
  refine ro_V (As := [.int p0]) (rest := []) S (s_X1_isWheel l D k a st sl  p0 _  hB  ) lkX9_127 ok_X1_isWheel ⟨rfl, rfl, Nat.le_of_ble_eq_true rfl, Nat.le_of_ble_eq_true rfl⟩ (pw_V (ci := 1) (q0 := 18) hK hN rfl cw_18 hP (hD.weaken (fun _ _ _ _ => trivial))) rfl hl.1 rfl (Nat.le_of_ble_eq_true rfl) ⟨Nat.zero_le _, Nat.zero_le _⟩ dX9_teach_8 (fun r1 er1 => ?_)
  rcases er1 with ⟨rfl, g9⟩ | ⟨rfl, g9⟩
  · skip
    have g2 := g9
    have h3 : Iv 0 7 p0 := g2.1
    refine lv_if_eq (tgt := 28) hx hb dX9_teach_11 (by decide) (fun c4 => ?_) (fun c4 => ?_)
    · first | exact absurd c4 (by decide) | exact absurd (by decide) c4
    refine lv_aload_n hx hb dX9_teach_14 rfl (lv_at hl 0 rfl) ?_
    refine va_get (D := D) (ci := 9) (v := .ref (a 17)) (C := RX9) (T := TX9) (N := 11) hx hb hT in_X9 hown hK hP 0 cw_0 rfl 2 (by decide) (hT _ t453) (fun _ h9 => h9) rfl dX9_teach_15 ?_
    refine va_get (D := D) (ci := 8) (v := .ref (a 18)) (C := RX8) (T := TX8) (N := 6) hx hb hT in_X8 hown hK hP 17 cw_17 rfl 0 (by decide) (hT _ t312) (fun _ h9 => h9) rfl dX9_teach_18 ?_
    refine lv_iload_n hx hb dX9_teach_21 rfl (lv_at hl 2 rfl) ?_
    refine ro_V (As := [.int p1]) (rest := []) S (s_X1_isRoad l D k a st sl  p1 _  hB  ) lkX9_114 ok_X1_isRoad ⟨rfl, rfl, Nat.le_of_ble_eq_true rfl, Nat.le_of_ble_eq_true rfl⟩ (pw_V (ci := 1) (q0 := 18) hK hN rfl cw_18 hP (hD.weaken (fun _ _ _ _ => trivial))) rfl hl.1 rfl (Nat.le_of_ble_eq_true rfl) ⟨Nat.zero_le _, Nat.zero_le _⟩ dX9_teach_22 (fun r5 er5 => ?_)
    rcases er5 with ⟨rfl, g9⟩ | ⟨rfl, g9⟩
    · skip
      have g6 := g9
      have h7 : Iv 0 7 p1 := g6.1
      refine lv_if_ne (tgt := 31) hx hb dX9_teach_25 (by decide) (fun c8 => ?_) (fun c8 => ?_)
      rotate_left
      · first | exact absurd c8 (by decide) | exact absurd (by decide) c8
      refine lv_aload_n hx hb dX9_teach_31 rfl (lv_at hl 0 rfl) ?_
      refine va_get (D := D) (ci := 9) (v := .ref (a 119)) (C := RX9) (T := TX9) (N := 11) hx hb hT in_X9 hown hK hP 0 cw_0 rfl 6 (by decide) (hT _ t457) (fun _ h9 => h9) rfl dX9_teach_32 ?_
      refine lv_aload_n hx hb dX9_teach_35 rfl (lv_at hl 0 rfl) ?_
      refine va_get (D := D) (ci := 9) (v := .ref (a 17)) (C := RX9) (T := TX9) (N := 11) hx hb hT in_X9 hown hK hP 0 cw_0 rfl 2 (by decide) (hT _ t453) (fun _ h9 => h9) rfl dX9_teach_36 ?_
      refine va_get (D := D) (ci := 8) (v := .ref (a 31)) (C := RX8) (T := TX8) (N := 6) hx hb hT in_X8 hown hK hP 17 cw_17 rfl 1 (by decide) (hT _ t314) (fun _ h9 => h9) rfl dX9_teach_39 ?_
      refine ca_v hP hD hS hA (fun hDc => run_V (mc := 0) (ms := 0) (As := [.ref (a 31)]) (rest := []) S (s_X5_copy l D k a st sl 119 31  _ (by decide) (by decide) hB  ) lkX9_253 ok_X5_copy ⟨rfl, rfl, Nat.le_of_ble_eq_true rfl, Nat.le_of_ble_eq_true rfl⟩ (pw_V (ci := 5) (q0 := 119) hK hN rfl cw_119 hP hDc) rfl hl.1 rfl (Nat.le_of_ble_eq_true rfl) ⟨Nat.zero_le _, Nat.zero_le _⟩ dX9_teach_42) (fun s9 H9 locs9 hs9 hP9 hD9 hS9 => ?_)
      clear hP hD hS
      have hS := hS9
      have hP := hP9
      have hD := hD9
      clear hP9 hD9 hS9
      obtain ⟨hBs9, gs9, fs9⟩ := hs9
      have hFs9 : FR [120, 121, 122, 123, 124] st s9 := fr_ca fr_rf gs9 (sub_1 (List.mem_of_getElem? (i := 0) rfl) (sub_1 (List.mem_of_getElem? (i := 1) rfl) (sub_1 (List.mem_of_getElem? (i := 2) rfl) (sub_1 (List.mem_of_getElem? (i := 3) rfl) (sub_1 (List.mem_of_getElem? (i := 4) rfl) sub_0)))))
      refine lv_iconst (v := 0) hx hb dX9_teach_45 (by decide) ?_
      refine lv_istore_n (lv' := [(3, .int 0), (0, .ref (a 0)), (1, .int p0), (2, .int p1)]) hx hb dX9_teach_46 rfl hl (by decide) rfl (fun ls hl => ?_)
      have lp47 : ∀ (n9_47 : Nat) (v3_47 : Int32) (t47 : CT) (H9 : Heap) (locs9 : List Loc) (ls : Array Slot), Iv 0 61 v3_47 → CB t47 → FR [120, 121] s9 t47 → va_P D vwCl (CWS k a t47 sl) H9 → va_D A (CWS k a t47 sl) → va_S A s.heap H9 locs9 → lv_has ls 4 [(3, .int v3_47), (0, .ref (a 0)), (1, .int p0), (2, .int p1)] → (61 : Int) - v3_47.toInt < (n9_47 : Int) → W p l e (rmw 4 0 0) s m ([.ref (a 0), .int p0, .int p1] : List Value).toArray below meth c H9 locs9 0 0 Q (F0 m 47 ls []) := by
        clear hl hP hD hS
        intro n9_47
        induction n9_47 with
        | zero =>
          intro v3_47 t47 H9 locs9 ls iv3_47 hBt47 gt47 hP hD hS hl hm47
          exact (fu_0 iv3_47 hm47).elim
        | succ n9_47 ih47 =>
          intro v3_47 t47 H9 locs9 ls iv3_47 hBt47 gt47 hP hD hS hl hm47
          have hFt47 : FR [120, 121, 122, 123, 124] st t47 := fr_ca hFs9 gt47 (sub_1 (List.mem_of_getElem? (i := 0) rfl) (sub_1 (List.mem_of_getElem? (i := 1) rfl) sub_0))
          refine lv_iload_n hx hb dX9_teach_47 rfl (lv_at hl 0 rfl) ?_
          refine lv_bipush (v := 60) hx hb dX9_teach_48 (by decide) ?_
          refine lv_icmp_gt (tgt := 144) hx hb dX9_teach_50 (by decide) (fun c538 => ?_) (fun c538 => ?_)
          · skip
            have n539 : (60 : Int32).toInt < v3_47.toInt := (i_lt c538)
            have h540 : Iv 61 61 v3_47 := lt_r (iv_c (by decide) : Iv 60 60 60) n539 iv3_47 (by decide)
            refine lv_iconst (v := (-1)) hx hb dX9_teach_144 (by decide) ?_
            rw [hQ]
            exact W.iret (v := (-1)) hx hb hr (fun t ht hW => ⟨⟨(-1), t47, rfl, ⟨hBt47, hFt47, ⟨(iv_mono (c := (-2)) (d := 60) (iv_c (by decide) : Iv (-1) (-1) (-1)) (by decide) (by decide)), trivial⟩⟩, by rw [ht]; exact hP, va_K.moved hW.alike (hK.sub (tys' := []) [] rfl), by rw [hAe]; exact hD⟩, by rw [hAe]; exact hS.F ht⟩) hS.2.2 dX9_teach_145
          · skip
            have n541 : v3_47.toInt ≤ (60 : Int32).toInt := (i_nlt c538)
            have h542 : Iv 0 60 v3_47 := le_l iv3_47 n541 (iv_c (by decide) : Iv 60 60 60) (by decide)
            refine lv_aload_n hx hb dX9_teach_53 rfl (lv_at hl 1 rfl) ?_
            refine va_get (D := D) (ci := 9) (v := .ref (a 119)) (C := RX9) (T := TX9) (N := 11) hx hb hT in_X9 hown hK hP 0 cw_0 rfl 6 (by decide) (hT _ t457) (fun _ h9 => h9) rfl dX9_teach_54 ?_
            refine lv_aload_n hx hb dX9_teach_57 rfl (lv_at hl 1 rfl) ?_
            refine va_get (D := D) (ci := 9) (v := .ref (a 17)) (C := RX9) (T := TX9) (N := 11) hx hb hT in_X9 hown hK hP 0 cw_0 rfl 2 (by decide) (hT _ t453) (fun _ h9 => h9) rfl dX9_teach_58 ?_
            refine va_get (D := D) (ci := 8) (v := .ref (a 18)) (C := RX8) (T := TX8) (N := 6) hx hb hT in_X8 hown hK hP 17 cw_17 rfl 0 (by decide) (hT _ t312) (fun _ h9 => h9) rfl dX9_teach_61 ?_
            refine lv_iload_n hx hb dX9_teach_64 rfl (lv_at hl 2 rfl) ?_
            refine lv_aload_n hx hb dX9_teach_65 rfl (lv_at hl 1 rfl) ?_
            refine va_get (D := D) (ci := 9) (v := .ref (a 17)) (C := RX9) (T := TX9) (N := 11) hx hb hT in_X9 hown hK hP 0 cw_0 rfl 2 (by decide) (hT _ t453) (fun _ h9 => h9) rfl dX9_teach_66 ?_
            refine va_get (D := D) (ci := 8) (v := .ref (a 18)) (C := RX8) (T := TX8) (N := 6) hx hb hT in_X8 hown hK hP 17 cw_17 rfl 0 (by decide) (hT _ t312) (fun _ h9 => h9) rfl dX9_teach_69 ?_
            refine va_get (D := D) (ci := 1) (v := .ref (a 19)) (C := RX1) (T := TX1) (N := 14) hx hb hT in_X1 hown hK hP 18 cw_18 rfl 7 (by decide) (hT _ t224) (fun _ h9 => h9) rfl dX9_teach_72 ?_
            refine lv_iload_n hx hb dX9_teach_75 rfl (lv_at hl 3 rfl) ?_
            refine va_iald hx hb hK hP 19 0 cw_19 rfl (iv_in h7 (by decide) (by decide)) dX9_teach_76 ?_
            refine lv_topi (fun z543 ez543 => ?_)
            have h544 : Iv 0 5 z543 := by rw [ez543]; exact (rb_19 hBt47 (vp_in_lt (iv_in h7 (by decide) (by decide))))
            refine ro_V (As := [.ref (a 18), .int p0, .int z543]) (rest := []) S (s_X5_alone l D k a t47 sl 119 p0 z543 _ (by decide) hBt47  ) lkX9_344 ok_X5_alone ⟨rfl, rfl, Nat.le_of_ble_eq_true rfl, Nat.le_of_ble_eq_true rfl⟩ (pw_V (ci := 5) (q0 := 119) hK hN rfl cw_119 hP (hD.weaken (fun _ _ _ _ => trivial))) rfl hl.1 rfl (Nat.le_of_ble_eq_true rfl) ⟨Nat.zero_le _, Nat.zero_le _⟩ dX9_teach_77 (fun r545 er545 => ?_)
            have h546 : Iv (-1) 7 r545 := er545.1
            refine lv_iload_n hx hb dX9_teach_80 rfl (lv_at hl 3 rfl) ?_
            refine lv_icmp_ne (tgt := 117) hx hb dX9_teach_81 (by decide) (fun c547 => ?_) (fun c547 => ?_)
            · skip
              refine lv_aload_n hx hb dX9_teach_117 rfl (lv_at hl 1 rfl) ?_
              refine va_get (D := D) (ci := 9) (v := .ref (a 119)) (C := RX9) (T := TX9) (N := 11) hx hb hT in_X9 hown hK hP 0 cw_0 rfl 6 (by decide) (hT _ t457) (fun _ h9 => h9) rfl dX9_teach_118 ?_
              refine lv_iload_n hx hb dX9_teach_121 rfl (lv_at hl 2 rfl) ?_
              refine lv_iload_n hx hb dX9_teach_122 rfl (lv_at hl 3 rfl) ?_
              refine lv_aload_n hx hb dX9_teach_123 rfl (lv_at hl 1 rfl) ?_
              refine va_get (D := D) (ci := 9) (v := .ref (a 17)) (C := RX9) (T := TX9) (N := 11) hx hb hT in_X9 hown hK hP 0 cw_0 rfl 2 (by decide) (hT _ t453) (fun _ h9 => h9) rfl dX9_teach_124 ?_
              refine va_get (D := D) (ci := 8) (v := .ref (a 18)) (C := RX8) (T := TX8) (N := 6) hx hb hT in_X8 hown hK hP 17 cw_17 rfl 0 (by decide) (hT _ t312) (fun _ h9 => h9) rfl dX9_teach_127 ?_
              refine va_get (D := D) (ci := 1) (v := .ref (a 21)) (C := RX1) (T := TX1) (N := 14) hx hb hT in_X1 hown hK hP 18 cw_18 rfl 9 (by decide) (hT _ t231) (fun _ h9 => h9) rfl dX9_teach_130 ?_
              refine lv_iload_n hx hb dX9_teach_133 rfl (lv_at hl 3 rfl) ?_
              refine va_iald hx hb hK hP 21 0 cw_21 rfl (iv_in h7 (by decide) (by decide)) dX9_teach_134 ?_
              refine lv_topi (fun z548 ez548 => ?_)
              refine ca_v hP hD hS hA (fun hDc => run_V (mc := 0) (ms := 0) (As := [.int p0, .int p1, .int z548]) (rest := []) S (s_X5_run l D k a t47 sl 119 p0 p1 z548 _ (by decide) hBt47 h3 h7 ) lkX9_355 ok_X5_run ⟨rfl, rfl, Nat.le_of_ble_eq_true rfl, Nat.le_of_ble_eq_true rfl⟩ (pw_V (ci := 5) (q0 := 119) hK hN rfl cw_119 hP hDc) rfl hl.1 rfl (Nat.le_of_ble_eq_true rfl) ⟨Nat.zero_le _, Nat.zero_le _⟩ dX9_teach_135) (fun s549 H9 locs9 hs549 hP9 hD9 hS9 => ?_)
              clear hP hD hS
              have hS := hS9
              have hP := hP9
              have hD := hD9
              clear hP9 hD9 hS9
              obtain ⟨hBs549, gs549, fs549⟩ := hs549
              have hFs549 : FR [120, 121, 122, 123, 124] st s549 := fr_ca hFt47 gs549 (sub_1 (List.mem_of_getElem? (i := 0) rfl) (sub_1 (List.mem_of_getElem? (i := 1) rfl) sub_0))
              obtain ⟨z551, ez551⟩ : ∃ z9 : Int32, z9 = v3_47 + Int32.ofInt 1 := ⟨_, rfl⟩
              have h552 : Iv 1 61 z551 := iv_inc ez551 h542 (by decide) (by decide) (by decide) (by decide) (by decide) (by decide)
              refine lv_iinc (v := z551) (lv' := [(3, .int z551), (0, .ref (a 0)), (1, .int p0), (2, .int p1)]) hx hb dX9_teach_138 hl (k := 0) rfl ez551.symm (by decide) rfl (fun ls hl => ?_)
              refine lv_goto (tgt := 47) hx hb dX9_teach_141 (by decide) ?_
              exact ih47 z551 s549 _ _ _ (iv_mono (c := 0) (d := 61) h552 (by decide) (by decide)) hBs549 (fr_ca gt47 gs549 (sub_1 (List.mem_of_getElem? (i := 0) rfl) (sub_1 (List.mem_of_getElem? (i := 1) rfl) sub_0))) hP hD hS (lv_sub hl [0, 1, 2, 3] rfl) (fu_s (lo := 0) (ti_inc ez551 h542 (by decide) (by decide) (by decide) (by decide)) (by decide) hm47)
            · skip
              have h553 : Iv 0 7 r545 := eq_l c547 h7
              refine lv_aload_n hx hb dX9_teach_84 rfl (lv_at hl 1 rfl) ?_
              refine va_get (D := D) (ci := 9) (v := .ref (a 119)) (C := RX9) (T := TX9) (N := 11) hx hb hT in_X9 hown hK hP 0 cw_0 rfl 6 (by decide) (hT _ t457) (fun _ h9 => h9) rfl dX9_teach_85 ?_
              refine lv_aload_n hx hb dX9_teach_88 rfl (lv_at hl 1 rfl) ?_
              refine va_get (D := D) (ci := 9) (v := .ref (a 17)) (C := RX9) (T := TX9) (N := 11) hx hb hT in_X9 hown hK hP 0 cw_0 rfl 2 (by decide) (hT _ t453) (fun _ h9 => h9) rfl dX9_teach_89 ?_
              refine va_get (D := D) (ci := 8) (v := .ref (a 18)) (C := RX8) (T := TX8) (N := 6) hx hb hT in_X8 hown hK hP 17 cw_17 rfl 0 (by decide) (hT _ t312) (fun _ h9 => h9) rfl dX9_teach_92 ?_
              refine lv_iload_n hx hb dX9_teach_95 rfl (lv_at hl 2 rfl) ?_
              refine lv_aload_n hx hb dX9_teach_96 rfl (lv_at hl 1 rfl) ?_
              refine va_get (D := D) (ci := 9) (v := .ref (a 17)) (C := RX9) (T := TX9) (N := 11) hx hb hT in_X9 hown hK hP 0 cw_0 rfl 2 (by decide) (hT _ t453) (fun _ h9 => h9) rfl dX9_teach_97 ?_
              refine va_get (D := D) (ci := 8) (v := .ref (a 18)) (C := RX8) (T := TX8) (N := 6) hx hb hT in_X8 hown hK hP 17 cw_17 rfl 0 (by decide) (hT _ t312) (fun _ h9 => h9) rfl dX9_teach_100 ?_
              refine va_get (D := D) (ci := 1) (v := .ref (a 20)) (C := RX1) (T := TX1) (N := 14) hx hb hT in_X1 hown hK hP 18 cw_18 rfl 8 (by decide) (hT _ t227) (fun _ h9 => h9) rfl dX9_teach_103 ?_
              refine lv_iload_n hx hb dX9_teach_106 rfl (lv_at hl 3 rfl) ?_
              refine va_iald hx hb hK hP 20 0 cw_20 rfl (iv_in h7 (by decide) (by decide)) dX9_teach_107 ?_
              refine lv_topi (fun z554 ez554 => ?_)
              have h555 : Iv 0 5 z554 := by rw [ez554]; exact (rb_20 hBt47 (vp_in_lt (iv_in h7 (by decide) (by decide))))
              refine ro_V (As := [.ref (a 18), .int p0, .int z554]) (rest := []) S (s_X5_alone l D k a t47 sl 119 p0 z554 _ (by decide) hBt47  ) lkX9_344 ok_X5_alone ⟨rfl, rfl, Nat.le_of_ble_eq_true rfl, Nat.le_of_ble_eq_true rfl⟩ (pw_V (ci := 5) (q0 := 119) hK hN rfl cw_119 hP (hD.weaken (fun _ _ _ _ => trivial))) rfl hl.1 rfl (Nat.le_of_ble_eq_true rfl) ⟨Nat.zero_le _, Nat.zero_le _⟩ dX9_teach_108 (fun r556 er556 => ?_)
              have h557 : Iv (-1) 7 r556 := er556.1
              refine lv_iload_n hx hb dX9_teach_111 rfl (lv_at hl 3 rfl) ?_
              refine lv_icmp_ne (tgt := 117) hx hb dX9_teach_112 (by decide) (fun c558 => ?_) (fun c558 => ?_)
              · skip
                refine lv_aload_n hx hb dX9_teach_117 rfl (lv_at hl 1 rfl) ?_
                refine va_get (D := D) (ci := 9) (v := .ref (a 119)) (C := RX9) (T := TX9) (N := 11) hx hb hT in_X9 hown hK hP 0 cw_0 rfl 6 (by decide) (hT _ t457) (fun _ h9 => h9) rfl dX9_teach_118 ?_
                refine lv_iload_n hx hb dX9_teach_121 rfl (lv_at hl 2 rfl) ?_
                refine lv_iload_n hx hb dX9_teach_122 rfl (lv_at hl 3 rfl) ?_
                refine lv_aload_n hx hb dX9_teach_123 rfl (lv_at hl 1 rfl) ?_
                refine va_get (D := D) (ci := 9) (v := .ref (a 17)) (C := RX9) (T := TX9) (N := 11) hx hb hT in_X9 hown hK hP 0 cw_0 rfl 2 (by decide) (hT _ t453) (fun _ h9 => h9) rfl dX9_teach_124 ?_
                refine va_get (D := D) (ci := 8) (v := .ref (a 18)) (C := RX8) (T := TX8) (N := 6) hx hb hT in_X8 hown hK hP 17 cw_17 rfl 0 (by decide) (hT _ t312) (fun _ h9 => h9) rfl dX9_teach_127 ?_
                refine va_get (D := D) (ci := 1) (v := .ref (a 21)) (C := RX1) (T := TX1) (N := 14) hx hb hT in_X1 hown hK hP 18 cw_18 rfl 9 (by decide) (hT _ t231) (fun _ h9 => h9) rfl dX9_teach_130 ?_
                refine lv_iload_n hx hb dX9_teach_133 rfl (lv_at hl 3 rfl) ?_
                refine va_iald hx hb hK hP 21 0 cw_21 rfl (iv_in h7 (by decide) (by decide)) dX9_teach_134 ?_
                refine lv_topi (fun z559 ez559 => ?_)
                refine ca_v hP hD hS hA (fun hDc => run_V (mc := 0) (ms := 0) (As := [.int p0, .int p1, .int z559]) (rest := []) S (s_X5_run l D k a t47 sl 119 p0 p1 z559 _ (by decide) hBt47 h3 h7 ) lkX9_355 ok_X5_run ⟨rfl, rfl, Nat.le_of_ble_eq_true rfl, Nat.le_of_ble_eq_true rfl⟩ (pw_V (ci := 5) (q0 := 119) hK hN rfl cw_119 hP hDc) rfl hl.1 rfl (Nat.le_of_ble_eq_true rfl) ⟨Nat.zero_le _, Nat.zero_le _⟩ dX9_teach_135) (fun s560 H9 locs9 hs560 hP9 hD9 hS9 => ?_)
                clear hP hD hS
                have hS := hS9
                have hP := hP9
                have hD := hD9
                clear hP9 hD9 hS9
                obtain ⟨hBs560, gs560, fs560⟩ := hs560
                have hFs560 : FR [120, 121, 122, 123, 124] st s560 := fr_ca hFt47 gs560 (sub_1 (List.mem_of_getElem? (i := 0) rfl) (sub_1 (List.mem_of_getElem? (i := 1) rfl) sub_0))
                obtain ⟨z562, ez562⟩ : ∃ z9 : Int32, z9 = v3_47 + Int32.ofInt 1 := ⟨_, rfl⟩
                have h563 : Iv 1 61 z562 := iv_inc ez562 h542 (by decide) (by decide) (by decide) (by decide) (by decide) (by decide)
                refine lv_iinc (v := z562) (lv' := [(3, .int z562), (0, .ref (a 0)), (1, .int p0), (2, .int p1)]) hx hb dX9_teach_138 hl (k := 0) rfl ez562.symm (by decide) rfl (fun ls hl => ?_)
                refine lv_goto (tgt := 47) hx hb dX9_teach_141 (by decide) ?_
                exact ih47 z562 s560 _ _ _ (iv_mono (c := 0) (d := 61) h563 (by decide) (by decide)) hBs560 (fr_ca gt47 gs560 (sub_1 (List.mem_of_getElem? (i := 0) rfl) (sub_1 (List.mem_of_getElem? (i := 1) rfl) sub_0))) hP hD hS (lv_sub hl [0, 1, 2, 3] rfl) (fu_s (lo := 0) (ti_inc ez562 h542 (by decide) (by decide) (by decide) (by decide)) (by decide) hm47)
              · skip
                have h564 : Iv 0 7 r556 := eq_l c558 h7
                refine lv_iload_n hx hb dX9_teach_115 rfl (lv_at hl 0 rfl) ?_
                rw [hQ]
                exact W.iret (v := v3_47) hx hb hr (fun t ht hW => ⟨⟨v3_47, t47, rfl, ⟨hBt47, hFt47, ⟨(iv_mono (c := (-2)) (d := 60) h542 (by decide) (by decide)), trivial⟩⟩, by rw [ht]; exact hP, va_K.moved hW.alike (hK.sub (tys' := []) [] rfl), by rw [hAe]; exact hD⟩, by rw [hAe]; exact hS.F ht⟩) hS.2.2 dX9_teach_116
      exact lp47 62 0 s9 _ _ _ (iv_mono (c := 0) (d := 61) (iv_c (by decide) : Iv 0 0 0) (by decide) (by decide)) hBs9 fr_rf hP hD hS (lv_sub hl [0, 1, 2, 3] rfl) (fu_i (iv_mono (c := 0) (d := 61) (iv_c (by decide) : Iv 0 0 0) (by decide) (by decide)) (by decide))
    · skip
      have g565 := g9
      refine lv_if_ne (tgt := 31) hx hb dX9_teach_25 (by decide) (fun c566 => ?_) (fun c566 => ?_)
      · first | exact absurd c566 (by decide) | exact absurd (by decide) c566
      refine lv_bipush (v := (-2)) hx hb dX9_teach_28 (by decide) ?_
      rw [hQ]
      exact W.iret (v := (-2)) hx hb hr (fun t ht hW => ⟨⟨(-2), st, rfl, ⟨hB, fr_rf, ⟨(iv_mono (c := (-2)) (d := 60) (iv_c (by decide) : Iv (-2) (-2) (-2)) (by decide) (by decide)), trivial⟩⟩, by rw [ht]; exact hP, va_K.moved hW.alike (hK.sub (tys' := []) [] rfl), by rw [hAe]; exact hD⟩, by rw [hAe]; exact hS.F ht⟩) hS.2.2 dX9_teach_30
  · skip
    have g567 := g9
    refine lv_if_eq (tgt := 28) hx hb dX9_teach_11 (by decide) (fun c568 => ?_) (fun c568 => ?_)
    rotate_left
    · first | exact absurd c568 (by decide) | exact absurd (by decide) c568
    refine lv_bipush (v := (-2)) hx hb dX9_teach_28 (by decide) ?_
    rw [hQ]
    exact W.iret (v := (-2)) hx hb hr (fun t ht hW => ⟨⟨(-2), st, rfl, ⟨hB, fr_rf, ⟨(iv_mono (c := (-2)) (d := 60) (iv_c (by decide) : Iv (-2) (-2) (-2)) (by decide) (by decide)), trivial⟩⟩, by rw [ht]; exact hP, va_K.moved hW.alike (hK.sub (tys' := []) [] rfl), by rw [hAe]; exact hD⟩, by rw [hAe]; exact hS.F ht⟩) hS.2.2 dX9_teach_30
set_option maxHeartbeats 4000000 in
set_option maxRecDepth 100000 in
theorem s_X9_greasedSet (l : Launch) (D : va_G) (k : Nat → ClassId) (a : Nat → Nat) (st : CT) (sl : CL) (p0 : Int32) (p1 : Int32) (sz : Nat) (hB : CB st) (hp0 : Iv 0 2 p0) : Met l yX9_greasedSet (.code yX9_greasedSet cX9_greasedSet 8 (some .int) :: TB) (rmk 3) (va_Pc [.ref (a 0), .int p0, .int p1] (PW D k sz (CWS k a st sl))) (vp_Si (fun r => Iv (-1) 255 r ∧ (True))) 0 0 (fun _ => False) := by
  refine Met.ofW (cc := cX9_greasedSet) (maxL := 8) (ret := (some .int)) (by decide) rfl ?_
  intro p e s m args below meth c s₁ B hml hv
  obtain ⟨rfl, hsz, hP, hK, hD0, hN⟩ := hv
  have hx := B.exec
  have hb := B.bytes
  have hr := B.returns
  have hT : ∀ w9 ∈ TB, w9.before ([.ref (a 0), .int p0, .int p1] : List Value).toArray s = true := fun w9 h => atoms_spec (ws := .code yX9_greasedSet cX9_greasedSet 8 (some .int) :: TB) B.pre w9 (List.mem_cons_of_mem _ h)
  have hown : s.vm.findClass RX9 = some m.cls := findClass_of_methodNamed B.named
  have S : CallFix p m c cX9_greasedSet 8 s _ TB RX9 := ⟨hx, hb, hml, hown, hT⟩
  subst hsz
  have hl := lv_entry ([.ref (a 0), .int p0, .int p1]) (n := 8) (Nat.le_of_ble_eq_true rfl)
  rw [lg_entry_eq]
  generalize (lg_sl ([.ref (a 0), .int p0, .int p1]) ++ List.replicate (8 - (lg_sl ([.ref (a 0), .int p0, .int p1])).length) Slot.unset).toArray = ls at hl ⊢
  have hl : lv_has ls 8 [(0, .ref (a 0)), (1, .int p0), (2, .int p1)] := hl
  refine nameQ (fun Q hQ => ?_)
  refine lv_aload_n hx hb dX9_greasedSet_0 rfl (lv_at hl 0 rfl) ?_
  refine va_get (D := D) (ci := 9) (v := .ref (a 17)) (C := RX9) (T := TX9) (N := 11) hx hb hT in_X9 hown hK hP 0 cw_0 rfl 2 (by decide) (hT _ t453) (fun _ h9 => h9) rfl dX9_greasedSet_1 ?_
  refine va_get (D := D) (ci := 8) (v := .ref (a 31)) (C := RX8) (T := TX8) (N := 6) hx hb hT in_X8 hown hK hP 17 cw_17 rfl 1 (by decide) (hT _ t314) (fun _ h9 => h9) rfl dX9_greasedSet_4 ?_
  refine lv_iload_n hx hb dX9_greasedSet_7 rfl (lv_at hl 1 rfl) ?_
  refine ro_V (As := [.int p0]) (rest := []) S (s_X5_crewOf l D k a st sl 31 p0 _ (by decide) hB  ) lkX9_153 ok_X5_crewOf ⟨rfl, rfl, Nat.le_of_ble_eq_true rfl, Nat.le_of_ble_eq_true rfl⟩ (pw_V (ci := 5) (q0 := 31) hK hN rfl cw_31 hP hD0) rfl hl.1 rfl (Nat.le_of_ble_eq_true rfl) ⟨Nat.zero_le _, Nat.zero_le _⟩ dX9_greasedSet_8 (fun r1 er1 => ?_)
  have h2 : Iv 0 255 r1 := er1.1
  refine lv_istore_n (lv' := [(3, .int r1), (0, .ref (a 0)), (1, .int p0), (2, .int p1)]) hx hb dX9_greasedSet_11 rfl hl (by decide) rfl (fun ls hl => ?_)
  refine lv_aload_n hx hb dX9_greasedSet_12 rfl (lv_at hl 1 rfl) ?_
  refine va_get (D := D) (ci := 9) (v := .ref (a 17)) (C := RX9) (T := TX9) (N := 11) hx hb hT in_X9 hown hK hP 0 cw_0 rfl 2 (by decide) (hT _ t453) (fun _ h9 => h9) rfl dX9_greasedSet_13 ?_
  refine va_get (D := D) (ci := 8) (v := .ref (a 31)) (C := RX8) (T := TX8) (N := 6) hx hb hT in_X8 hown hK hP 17 cw_17 rfl 1 (by decide) (hT _ t314) (fun _ h9 => h9) rfl dX9_greasedSet_16 ?_
  refine va_get (D := D) (ci := 5) (v := .ref (a 35)) (C := RX5) (T := TX5) (N := 5) hx hb hT in_X5 hown hK hP 31 cw_31 rfl 3 (by decide) (hT _ t180) (fun _ h9 => h9) rfl dX9_greasedSet_19 ?_
  refine lv_iload_n hx hb dX9_greasedSet_22 rfl (lv_at hl 2 rfl) ?_
  refine va_iald hx hb hK hP 35 0 cw_35 rfl (iv_in hp0 (by decide) (by decide)) dX9_greasedSet_23 ?_
  refine lv_topi (fun z3 ez3 => ?_)
  have h4 : Iv 0 5 z3 := by rw [ez3]; exact (rb_35 hB (vp_in_lt (iv_in hp0 (by decide) (by decide))))
  refine lv_istore (lv' := [(4, .int z3), (3, .int r1), (0, .ref (a 0)), (1, .int p0), (2, .int p1)]) hx hb dX9_greasedSet_24 hl (by decide) rfl (fun ls hl => ?_)
  refine lv_iconst (v := (-1)) hx hb dX9_greasedSet_26 (by decide) ?_
  refine lv_istore (lv' := [(5, .int (-1)), (4, .int z3), (3, .int r1), (0, .ref (a 0)), (1, .int p0), (2, .int p1)]) hx hb dX9_greasedSet_27 hl (by decide) rfl (fun ls hl => ?_)
  refine lv_bipush (v := 9) hx hb dX9_greasedSet_29 (by decide) ?_
  refine lv_istore (lv' := [(6, .int 9), (5, .int (-1)), (4, .int z3), (3, .int r1), (0, .ref (a 0)), (1, .int p0), (2, .int p1)]) hx hb dX9_greasedSet_31 hl (by decide) rfl (fun ls hl => ?_)
  refine lv_iconst (v := 0) hx hb dX9_greasedSet_33 (by decide) ?_
  refine lv_istore (lv' := [(7, .int 0), (6, .int 9), (5, .int (-1)), (4, .int z3), (3, .int r1), (0, .ref (a 0)), (1, .int p0), (2, .int p1)]) hx hb dX9_greasedSet_34 hl (by decide) rfl (fun ls hl => ?_)
  have lp36 : ∀ (n9_36 : Nat) (v7_36 : Int32) (v6_36 : Int32) (v5_36 : Int32) (ls : Array Slot), Iv 0 256 v7_36 → Iv 0 63 v6_36 → Iv (-1) 255 v5_36 → lv_has ls 8 [(7, .int v7_36), (6, .int v6_36), (5, .int v5_36), (4, .int z3), (3, .int r1), (0, .ref (a 0)), (1, .int p0), (2, .int p1)] → (256 : Int) - v7_36.toInt < (n9_36 : Int) → W p l e (rmk 3) s m ([.ref (a 0), .int p0, .int p1] : List Value).toArray below meth c s.heap [] 0 0 Q (F0 m 36 ls []) := by
    clear hl
    intro n9_36
    induction n9_36 with
    | zero =>
      intro v7_36 v6_36 v5_36 ls iv7_36 iv6_36 iv5_36 hl hm36
      exact (fu_0 iv7_36 hm36).elim
    | succ n9_36 ih36 =>
      intro v7_36 v6_36 v5_36 ls iv7_36 iv6_36 iv5_36 hl hm36
      refine lv_iload hx hb dX9_greasedSet_36 (lv_at hl 0 rfl) ?_
      refine lv_sipush (v := 256) hx hb dX9_greasedSet_38 (by decide) ?_
      refine lv_icmp_ge (tgt := 109) hx hb dX9_greasedSet_41 (by decide) (fun c955 => ?_) (fun c955 => ?_)
      · skip
        have n956 : (256 : Int32).toInt ≤ v7_36.toInt := (i_le c955)
        have h957 : Iv 256 256 v7_36 := le_r (iv_c (by decide) : Iv 256 256 256) n956 iv7_36 (by decide)
        refine lv_iload hx hb dX9_greasedSet_109 (lv_at hl 2 rfl) ?_
        rw [hQ]
        exact W.iret (v := v5_36) hx hb hr (fun t ht hW => ⟨v5_36, rfl, ⟨iv5_36, trivial⟩, ht⟩) (fun _ h9 => by cases h9) dX9_greasedSet_111
      · skip
        have n958 : v7_36.toInt < (256 : Int32).toInt := (i_nle c955)
        have h959 : Iv 0 255 v7_36 := lt_l iv7_36 n958 (iv_c (by decide) : Iv 256 256 256) (by decide)
        refine lv_iload hx hb dX9_greasedSet_44 (lv_at hl 0 rfl) ?_
        refine lv_iload_n hx hb dX9_greasedSet_46 rfl (lv_at hl 4 rfl) ?_
        refine lv_iconst (v := (-1)) hx hb dX9_greasedSet_47 (by decide) ?_
        refine lv_ixor hx hb dX9_greasedSet_48 ?_
        refine lv_topi (fun z960 ez960 => ?_)
        refine lv_iand hx hb dX9_greasedSet_49 ?_
        refine lv_topi (fun z961 ez961 => ?_)
        have h962 : Iv 0 255 z961 := iv_andl ez961 h959
        refine lv_if_ne (tgt := 103) hx hb dX9_greasedSet_50 (by decide) (fun c963 => ?_) (fun c963 => ?_)
        · skip
          have h964 : Iv 1 255 z961 := ne_lo h962 (show ¬ z961 = 0 from c963) (by decide) (by decide)
          obtain ⟨z965, ez965⟩ : ∃ z9 : Int32, z9 = v7_36 + Int32.ofInt 1 := ⟨_, rfl⟩
          have h966 : Iv 1 256 z965 := iv_inc ez965 h959 (by decide) (by decide) (by decide) (by decide) (by decide) (by decide)
          refine lv_iinc (v := z965) (lv' := [(7, .int z965), (6, .int v6_36), (5, .int v5_36), (4, .int z3), (3, .int r1), (0, .ref (a 0)), (1, .int p0), (2, .int p1)]) hx hb dX9_greasedSet_103 hl (k := 0) rfl ez965.symm (by decide) rfl (fun ls hl => ?_)
          refine lv_goto (tgt := 36) hx hb dX9_greasedSet_106 (by decide) ?_
          exact ih36 z965 v6_36 v5_36 _ (iv_mono (c := 0) (d := 256) h966 (by decide) (by decide)) iv6_36 iv5_36 (lv_sub hl [0, 1, 2, 3, 4, 5, 6, 7] rfl) (fu_s (lo := 0) (ti_inc ez965 h959 (by decide) (by decide) (by decide) (by decide)) (by decide) hm36)
        · skip
          have h967 : Iv 0 0 z961 := eq_l c963 (iv_c (by decide) : Iv 0 0 0)
          refine lv_iload hx hb dX9_greasedSet_53 (lv_at hl 0 rfl) ?_
          refine ro_SX (As := [.int v7_36]) (rest := []) S (s_J6_bitCount_0f7a4 l D k a st sl  v7_36 _  hB  ) (gdC t999) t997 t998 t122 ok_J6_bitCount_0f7a4 ⟨rfl, rfl, Nat.le_of_ble_eq_true rfl, Nat.le_of_ble_eq_true rfl⟩ (pw_S hK hN hP hD0) rfl hl.1 rfl (Nat.le_of_ble_eq_true rfl) ⟨Nat.zero_le _, Nat.zero_le _⟩ dX9_greasedSet_55 (fun r968 er968 => ?_)
          have h969 : Iv 0 63 r968 := er968.1
          refine lv_iload hx hb dX9_greasedSet_58 (lv_at hl 1 rfl) ?_
          refine lv_icmp_ge (tgt := 103) hx hb dX9_greasedSet_60 (by decide) (fun c970 => ?_) (fun c970 => ?_)
          · skip
            have n971 : v6_36.toInt ≤ r968.toInt := (i_le c970)
            obtain ⟨z972, ez972⟩ : ∃ z9 : Int32, z9 = v7_36 + Int32.ofInt 1 := ⟨_, rfl⟩
            have h973 : Iv 1 256 z972 := iv_inc ez972 h959 (by decide) (by decide) (by decide) (by decide) (by decide) (by decide)
            refine lv_iinc (v := z972) (lv' := [(7, .int z972), (6, .int v6_36), (5, .int v5_36), (4, .int z3), (3, .int r1), (0, .ref (a 0)), (1, .int p0), (2, .int p1)]) hx hb dX9_greasedSet_103 hl (k := 0) rfl ez972.symm (by decide) rfl (fun ls hl => ?_)
            refine lv_goto (tgt := 36) hx hb dX9_greasedSet_106 (by decide) ?_
            exact ih36 z972 v6_36 v5_36 _ (iv_mono (c := 0) (d := 256) h973 (by decide) (by decide)) iv6_36 iv5_36 (lv_sub hl [0, 1, 2, 3, 4, 5, 6, 7] rfl) (fu_s (lo := 0) (ti_inc ez972 h959 (by decide) (by decide) (by decide) (by decide)) (by decide) hm36)
          · skip
            have n974 : r968.toInt < v6_36.toInt := (i_nle c970)
            have h975 : Iv 0 62 r968 := lt_l h969 n974 iv6_36 (by decide)
            have h976 : Iv 1 63 v6_36 := lt_r h969 n974 iv6_36 (by decide)
            refine lv_aload_n hx hb dX9_greasedSet_63 rfl (lv_at hl 5 rfl) ?_
            refine va_get (D := D) (ci := 9) (v := .ref (a 17)) (C := RX9) (T := TX9) (N := 11) hx hb hT in_X9 hown hK hP 0 cw_0 rfl 2 (by decide) (hT _ t453) (fun _ h9 => h9) rfl dX9_greasedSet_64 ?_
            refine va_get (D := D) (ci := 8) (v := .ref (a 31)) (C := RX8) (T := TX8) (N := 6) hx hb hT in_X8 hown hK hP 17 cw_17 rfl 1 (by decide) (hT _ t314) (fun _ h9 => h9) rfl dX9_greasedSet_67 ?_
            refine lv_aload_n hx hb dX9_greasedSet_70 rfl (lv_at hl 5 rfl) ?_
            refine va_get (D := D) (ci := 9) (v := .ref (a 17)) (C := RX9) (T := TX9) (N := 11) hx hb hT in_X9 hown hK hP 0 cw_0 rfl 2 (by decide) (hT _ t453) (fun _ h9 => h9) rfl dX9_greasedSet_71 ?_
            refine va_get (D := D) (ci := 8) (v := .ref (a 18)) (C := RX8) (T := TX8) (N := 6) hx hb hT in_X8 hown hK hP 17 cw_17 rfl 0 (by decide) (hT _ t312) (fun _ h9 => h9) rfl dX9_greasedSet_74 ?_
            refine lv_iload_n hx hb dX9_greasedSet_77 rfl (lv_at hl 4 rfl) ?_
            refine lv_iload hx hb dX9_greasedSet_78 (lv_at hl 0 rfl) ?_
            refine lv_iconst (v := (-1)) hx hb dX9_greasedSet_80 (by decide) ?_
            refine lv_ixor hx hb dX9_greasedSet_81 ?_
            refine lv_topi (fun z977 ez977 => ?_)
            refine lv_iand hx hb dX9_greasedSet_82 ?_
            refine lv_topi (fun z978 ez978 => ?_)
            have h979 : Iv 0 255 z978 := iv_andl ez978 h2
            refine lv_iload hx hb dX9_greasedSet_83 (lv_at hl 3 rfl) ?_
            refine ro_V (As := [.ref (a 18), .int z978, .int z3]) (rest := []) S (s_X5_favourite l D k a st sl 31 z978 z3 _ (by decide) hB  ) lkX9_194 ok_X5_favourite ⟨rfl, rfl, Nat.le_of_ble_eq_true rfl, Nat.le_of_ble_eq_true rfl⟩ (pw_V (ci := 5) (q0 := 31) hK hN rfl cw_31 hP hD0) rfl hl.1 rfl (Nat.le_of_ble_eq_true rfl) ⟨Nat.zero_le _, Nat.zero_le _⟩ dX9_greasedSet_85 (fun r980 er980 => ?_)
            have h981 : Iv (-1) 7 r980 := er980.1
            have k982 := er980.2
            refine lv_iload_n hx hb dX9_greasedSet_88 rfl (lv_at hl 7 rfl) ?_
            refine lv_icmp_ne (tgt := 103) hx hb dX9_greasedSet_89 (by decide) (fun c983 => ?_) (fun c983 => ?_)
            · skip
              obtain ⟨z984, ez984⟩ : ∃ z9 : Int32, z9 = v7_36 + Int32.ofInt 1 := ⟨_, rfl⟩
              have h985 : Iv 1 256 z984 := iv_inc ez984 h959 (by decide) (by decide) (by decide) (by decide) (by decide) (by decide)
              refine lv_iinc (v := z984) (lv' := [(7, .int z984), (6, .int v6_36), (5, .int v5_36), (4, .int z3), (3, .int r1), (0, .ref (a 0)), (1, .int p0), (2, .int p1)]) hx hb dX9_greasedSet_103 hl (k := 0) rfl ez984.symm (by decide) rfl (fun ls hl => ?_)
              refine lv_goto (tgt := 36) hx hb dX9_greasedSet_106 (by decide) ?_
              exact ih36 z984 v6_36 v5_36 _ (iv_mono (c := 0) (d := 256) h985 (by decide) (by decide)) (iv_mono (c := 0) (d := 63) h976 (by decide) (by decide)) iv5_36 (lv_sub hl [0, 1, 2, 3, 4, 5, 6, 7] rfl) (fu_s (lo := 0) (ti_inc ez984 h959 (by decide) (by decide) (by decide) (by decide)) (by decide) hm36)
            · skip
              have h986 : Iv (-1) 7 p1 := eq_l c983.symm h981
              refine lv_iload hx hb dX9_greasedSet_92 (lv_at hl 0 rfl) ?_
              refine ro_SX (As := [.int v7_36]) (rest := []) S (s_J6_bitCount_0f7a4 l D k a st sl  v7_36 _  hB  ) (gdC t999) t997 t998 t122 ok_J6_bitCount_0f7a4 ⟨rfl, rfl, Nat.le_of_ble_eq_true rfl, Nat.le_of_ble_eq_true rfl⟩ (pw_S hK hN hP hD0) rfl hl.1 rfl (Nat.le_of_ble_eq_true rfl) ⟨Nat.zero_le _, Nat.zero_le _⟩ dX9_greasedSet_94 (fun r987 er987 => ?_)
              have h988 : Iv 0 63 r987 := er987.1
              refine lv_istore (lv' := [(6, .int r987), (7, .int v7_36), (5, .int v5_36), (4, .int z3), (3, .int r1), (0, .ref (a 0)), (1, .int p0), (2, .int p1)]) hx hb dX9_greasedSet_97 hl (by decide) rfl (fun ls hl => ?_)
              refine lv_iload hx hb dX9_greasedSet_99 (lv_at hl 1 rfl) ?_
              refine lv_istore (lv' := [(5, .int v7_36), (6, .int r987), (7, .int v7_36), (4, .int z3), (3, .int r1), (0, .ref (a 0)), (1, .int p0), (2, .int p1)]) hx hb dX9_greasedSet_101 hl (by decide) rfl (fun ls hl => ?_)
              obtain ⟨z989, ez989⟩ : ∃ z9 : Int32, z9 = v7_36 + Int32.ofInt 1 := ⟨_, rfl⟩
              have h990 : Iv 1 256 z989 := iv_inc ez989 h959 (by decide) (by decide) (by decide) (by decide) (by decide) (by decide)
              refine lv_iinc (v := z989) (lv' := [(7, .int z989), (5, .int v7_36), (6, .int r987), (4, .int z3), (3, .int r1), (0, .ref (a 0)), (1, .int p0), (2, .int p1)]) hx hb dX9_greasedSet_103 hl (k := 2) rfl ez989.symm (by decide) rfl (fun ls hl => ?_)
              refine lv_goto (tgt := 36) hx hb dX9_greasedSet_106 (by decide) ?_
              exact ih36 z989 r987 v7_36 _ (iv_mono (c := 0) (d := 256) h990 (by decide) (by decide)) h988 (iv_mono (c := (-1)) (d := 255) h959 (by decide) (by decide)) (lv_sub hl [0, 2, 1, 3, 4, 5, 6, 7] rfl) (fu_s (lo := 0) (ti_inc ez989 h959 (by decide) (by decide) (by decide) (by decide)) (by decide) hm36)
  exact lp36 257 0 9 (-1) _ (iv_mono (c := 0) (d := 256) (iv_c (by decide) : Iv 0 0 0) (by decide) (by decide)) (iv_mono (c := 0) (d := 63) (iv_c (by decide) : Iv 9 9 9) (by decide) (by decide)) (iv_mono (c := (-1)) (d := 255) (iv_c (by decide) : Iv (-1) (-1) (-1)) (by decide) (by decide)) (lv_sub hl [0, 1, 2, 3, 4, 5, 6, 7] rfl) (fu_i (iv_mono (c := 0) (d := 256) (iv_c (by decide) : Iv 0 0 0) (by decide) (by decide)) (by decide))
set_option maxHeartbeats 4000000 in
set_option maxRecDepth 100000 in
theorem s_X9_blind (l : Launch) (D : va_G) (k : Nat → ClassId) (a : Nat → Nat) (st : CT) (sl : CL) (p0 : Int32) (p1 : Int32) (sz : Nat) (hB : CB st)  : Met l yX9_blind (.code yX9_blind cX9_blind 4 (some .int) :: TB) (rmk 4) (va_Pc [.ref (a 0), .int p0, .int p1] (PW D k sz (CWS k a st sl))) (vp_Si (fun r => Iv (-2) 63 r ∧ (True))) 0 0 (fun _ => False) := by
  refine Met.ofW (cc := cX9_blind) (maxL := 4) (ret := (some .int)) (by decide) rfl ?_
  intro p e s m args below meth c s₁ B hml hv
  obtain ⟨rfl, hsz, hP, hK, hD0, hN⟩ := hv
  have hx := B.exec
  have hb := B.bytes
  have hr := B.returns
  have hT : ∀ w9 ∈ TB, w9.before ([.ref (a 0), .int p0, .int p1] : List Value).toArray s = true := fun w9 h => atoms_spec (ws := .code yX9_blind cX9_blind 4 (some .int) :: TB) B.pre w9 (List.mem_cons_of_mem _ h)
  have hown : s.vm.findClass RX9 = some m.cls := findClass_of_methodNamed B.named
  have S : CallFix p m c cX9_blind 4 s _ TB RX9 := ⟨hx, hb, hml, hown, hT⟩
  subst hsz
  have hl := lv_entry ([.ref (a 0), .int p0, .int p1]) (n := 4) (Nat.le_of_ble_eq_true rfl)
  rw [lg_entry_eq]
  generalize (lg_sl ([.ref (a 0), .int p0, .int p1]) ++ List.replicate (4 - (lg_sl ([.ref (a 0), .int p0, .int p1])).length) Slot.unset).toArray = ls at hl ⊢
  have hl : lv_has ls 4 [(0, .ref (a 0)), (1, .int p0), (2, .int p1)] := hl
  refine nameQ (fun Q hQ => ?_)
  refine lv_aload_n hx hb dX9_blind_0 rfl (lv_at hl 0 rfl) ?_
  refine lv_iload_n hx hb dX9_blind_1 rfl (lv_at hl 1 rfl) ?_
  refine lv_iload_n hx hb dX9_blind_2 rfl (lv_at hl 2 rfl) ?_
  refine ro_V (As := [.int p0, .int p1]) (rest := []) S (s_X9_isByCart l D k a st sl  p0 p1 _  hB  ) lkX9_191 ok_X9_isByCart ⟨rfl, rfl, Nat.le_of_ble_eq_true rfl, Nat.le_of_ble_eq_true rfl⟩ (pw_V (ci := 9) (q0 := 0) hK hN rfl cw_0 hP hD0) rfl hl.1 rfl (Nat.le_of_ble_eq_true rfl) ⟨Nat.zero_le _, Nat.zero_le _⟩ dX9_blind_3 (fun r1 er1 => ?_)
  rcases er1 with ⟨rfl, g9⟩ | ⟨rfl, g9⟩
  · skip
    have g2 := g9
    have h3 : Iv 0 2 p0 := g2.1
    have h4 : Iv 0 7 p1 := g2.2.1
    refine lv_if_ne (tgt := 12) hx hb dX9_blind_6 (by decide) (fun c5 => ?_) (fun c5 => ?_)
    rotate_left
    · first | exact absurd c5 (by decide) | exact absurd (by decide) c5
    refine lv_aload_n hx hb dX9_blind_12 rfl (lv_at hl 0 rfl) ?_
    refine lv_iload_n hx hb dX9_blind_13 rfl (lv_at hl 1 rfl) ?_
    refine lv_iload_n hx hb dX9_blind_14 rfl (lv_at hl 2 rfl) ?_
    refine ro_V (As := [.int p0, .int p1]) (rest := []) S (s_X9_greasedSet l D k a st sl  p0 p1 _  hB h3 ) lkX9_358 ok_X9_greasedSet ⟨rfl, rfl, Nat.le_of_ble_eq_true rfl, Nat.le_of_ble_eq_true rfl⟩ (pw_V (ci := 9) (q0 := 0) hK hN rfl cw_0 hP hD0) rfl hl.1 rfl (Nat.le_of_ble_eq_true rfl) ⟨Nat.zero_le _, Nat.zero_le _⟩ dX9_blind_15 (fun r6 er6 => ?_)
    have h7 : Iv (-1) 255 r6 := er6.1
    refine lv_istore_n (lv' := [(3, .int r6), (0, .ref (a 0)), (1, .int p0), (2, .int p1)]) hx hb dX9_blind_18 rfl hl (by decide) rfl (fun ls hl => ?_)
    refine lv_iload_n hx hb dX9_blind_19 rfl (lv_at hl 0 rfl) ?_
    refine lv_iconst (v := (-1)) hx hb dX9_blind_20 (by decide) ?_
    refine lv_icmp_ne (tgt := 28) hx hb dX9_blind_21 (by decide) (fun c8 => ?_) (fun c8 => ?_)
    · skip
      have h9 : Iv 0 255 r6 := ne_lo h7 (show ¬ r6 = (-1) from c8) (by decide) (by decide)
      refine lv_iload_n hx hb dX9_blind_28 rfl (lv_at hl 0 rfl) ?_
      refine ro_SX (As := [.int r6]) (rest := []) S (s_J6_bitCount_0f7a4 l D k a st sl  r6 _  hB  ) (gdC t999) t997 t998 t122 ok_J6_bitCount_0f7a4 ⟨rfl, rfl, Nat.le_of_ble_eq_true rfl, Nat.le_of_ble_eq_true rfl⟩ (pw_S hK hN hP hD0) rfl hl.1 rfl (Nat.le_of_ble_eq_true rfl) ⟨Nat.zero_le _, Nat.zero_le _⟩ dX9_blind_29 (fun r10 er10 => ?_)
      have h11 : Iv 0 63 r10 := er10.1
      rw [hQ]
      exact W.iret (v := r10) hx hb hr (fun t ht hW => ⟨r10, rfl, ⟨(iv_mono (c := (-2)) (d := 63) h11 (by decide) (by decide)), trivial⟩, ht⟩) (fun _ h9 => by cases h9) dX9_blind_32
    · skip
      have h12 : Iv (-1) (-1) r6 := eq_l c8 (iv_c (by decide) : Iv (-1) (-1) (-1))
      refine lv_iconst (v := (-1)) hx hb dX9_blind_24 (by decide) ?_
      refine lv_goto (tgt := 32) hx hb dX9_blind_25 (by decide) ?_
      rw [hQ]
      exact W.iret (v := (-1)) hx hb hr (fun t ht hW => ⟨(-1), rfl, ⟨(iv_mono (c := (-2)) (d := 63) (iv_c (by decide) : Iv (-1) (-1) (-1)) (by decide) (by decide)), trivial⟩, ht⟩) (fun _ h9 => by cases h9) dX9_blind_32
  · skip
    have g13 := g9
    refine lv_if_ne (tgt := 12) hx hb dX9_blind_6 (by decide) (fun c14 => ?_) (fun c14 => ?_)
    · first | exact absurd c14 (by decide) | exact absurd (by decide) c14
    refine lv_bipush (v := (-2)) hx hb dX9_blind_9 (by decide) ?_
    rw [hQ]
    exact W.iret (v := (-2)) hx hb hr (fun t ht hW => ⟨(-2), rfl, ⟨(iv_mono (c := (-2)) (d := 63) (iv_c (by decide) : Iv (-2) (-2) (-2)) (by decide) (by decide)), trivial⟩, ht⟩) (fun _ h9 => by cases h9) dX9_blind_11
set_option maxHeartbeats 4000000 in
set_option maxRecDepth 100000 in
theorem s_X9_blinds (l : Launch) (D : va_G) (k : Nat → ClassId) (a : Nat → Nat) (st : CT) (sl : CL) (p0 : Int32) (p1 : Int32) (sz : Nat) (hB : CB st)  : Met l yX9_blinds (.code yX9_blinds cX9_blinds 3 (some .int) :: TB) (rmk 4) (va_Pc [.ref (a 0), .int p0, .int p1] (PW D k sz (CWS k a st sl))) (vp_Si (fun r => Iv (-2) 255 r ∧ (True))) 0 0 (fun _ => False) := by
  refine Met.ofW (cc := cX9_blinds) (maxL := 3) (ret := (some .int)) (by decide) rfl ?_
  intro p e s m args below meth c s₁ B hml hv
  obtain ⟨rfl, hsz, hP, hK, hD0, hN⟩ := hv
  have hx := B.exec
  have hb := B.bytes
  have hr := B.returns
  have hT : ∀ w9 ∈ TB, w9.before ([.ref (a 0), .int p0, .int p1] : List Value).toArray s = true := fun w9 h => atoms_spec (ws := .code yX9_blinds cX9_blinds 3 (some .int) :: TB) B.pre w9 (List.mem_cons_of_mem _ h)
  have hown : s.vm.findClass RX9 = some m.cls := findClass_of_methodNamed B.named
  have S : CallFix p m c cX9_blinds 3 s _ TB RX9 := ⟨hx, hb, hml, hown, hT⟩
  subst hsz
  have hl := lv_entry ([.ref (a 0), .int p0, .int p1]) (n := 3) (Nat.le_of_ble_eq_true rfl)
  rw [lg_entry_eq]
  generalize (lg_sl ([.ref (a 0), .int p0, .int p1]) ++ List.replicate (3 - (lg_sl ([.ref (a 0), .int p0, .int p1])).length) Slot.unset).toArray = ls at hl ⊢
  have hl : lv_has ls 3 [(0, .ref (a 0)), (1, .int p0), (2, .int p1)] := hl
  refine nameQ (fun Q hQ => ?_)
  refine lv_aload_n hx hb dX9_blinds_0 rfl (lv_at hl 0 rfl) ?_
  refine lv_iload_n hx hb dX9_blinds_1 rfl (lv_at hl 1 rfl) ?_
  refine lv_iload_n hx hb dX9_blinds_2 rfl (lv_at hl 2 rfl) ?_
  refine ro_V (As := [.int p0, .int p1]) (rest := []) S (s_X9_isByCart l D k a st sl  p0 p1 _  hB  ) lkX9_191 ok_X9_isByCart ⟨rfl, rfl, Nat.le_of_ble_eq_true rfl, Nat.le_of_ble_eq_true rfl⟩ (pw_V (ci := 9) (q0 := 0) hK hN rfl cw_0 hP hD0) rfl hl.1 rfl (Nat.le_of_ble_eq_true rfl) ⟨Nat.zero_le _, Nat.zero_le _⟩ dX9_blinds_3 (fun r1 er1 => ?_)
  rcases er1 with ⟨rfl, g9⟩ | ⟨rfl, g9⟩
  · skip
    have g2 := g9
    have h3 : Iv 0 2 p0 := g2.1
    have h4 : Iv 0 7 p1 := g2.2.1
    refine lv_if_eq (tgt := 18) hx hb dX9_blinds_6 (by decide) (fun c5 => ?_) (fun c5 => ?_)
    · first | exact absurd c5 (by decide) | exact absurd (by decide) c5
    refine lv_aload_n hx hb dX9_blinds_9 rfl (lv_at hl 0 rfl) ?_
    refine lv_iload_n hx hb dX9_blinds_10 rfl (lv_at hl 1 rfl) ?_
    refine lv_iload_n hx hb dX9_blinds_11 rfl (lv_at hl 2 rfl) ?_
    refine ro_V (As := [.int p0, .int p1]) (rest := []) S (s_X9_greasedSet l D k a st sl  p0 p1 _  hB h3 ) lkX9_358 ok_X9_greasedSet ⟨rfl, rfl, Nat.le_of_ble_eq_true rfl, Nat.le_of_ble_eq_true rfl⟩ (pw_V (ci := 9) (q0 := 0) hK hN rfl cw_0 hP hD0) rfl hl.1 rfl (Nat.le_of_ble_eq_true rfl) ⟨Nat.zero_le _, Nat.zero_le _⟩ dX9_blinds_12 (fun r6 er6 => ?_)
    have h7 : Iv (-1) 255 r6 := er6.1
    refine lv_goto (tgt := 20) hx hb dX9_blinds_15 (by decide) ?_
    rw [hQ]
    exact W.iret (v := r6) hx hb hr (fun t ht hW => ⟨r6, rfl, ⟨(iv_mono (c := (-2)) (d := 255) h7 (by decide) (by decide)), trivial⟩, ht⟩) (fun _ h9 => by cases h9) dX9_blinds_20
  · skip
    have g8 := g9
    refine lv_if_eq (tgt := 18) hx hb dX9_blinds_6 (by decide) (fun c9 => ?_) (fun c9 => ?_)
    rotate_left
    · first | exact absurd c9 (by decide) | exact absurd (by decide) c9
    refine lv_bipush (v := (-2)) hx hb dX9_blinds_18 (by decide) ?_
    rw [hQ]
    exact W.iret (v := (-2)) hx hb hr (fun t ht hW => ⟨(-2), rfl, ⟨(iv_mono (c := (-2)) (d := 255) (iv_c (by decide) : Iv (-2) (-2) (-2)) (by decide) (by decide)), trivial⟩, ht⟩) (fun _ h9 => by cases h9) dX9_blinds_20
set_option maxHeartbeats 4000000 in
set_option maxRecDepth 100000 in
theorem s_X9_lasts (l : Launch) (D : va_G) (k : Nat → ClassId) (a : Nat → Nat) (st : CT) (sl : CL) (p0 : Int32) (p1 : Int32) (sz : Nat) (hB : CB st)  : Met l yX9_lasts (.code yX9_lasts cX9_lasts 3 (some .int) :: TB) (rmk 2) (va_Pc [.ref (a 0), .int p0, .int p1] (PW D k sz (CWS k a st sl))) (vp_Si (fun r => (True))) 0 0 (fun _ => False) := by
  refine Met.ofW (cc := cX9_lasts) (maxL := 3) (ret := (some .int)) (by decide) rfl ?_
  intro p e s m args below meth c s₁ B hml hv
  obtain ⟨rfl, hsz, hP, hK, hD0, hN⟩ := hv
  have hx := B.exec
  have hb := B.bytes
  have hr := B.returns
  have hT : ∀ w9 ∈ TB, w9.before ([.ref (a 0), .int p0, .int p1] : List Value).toArray s = true := fun w9 h => atoms_spec (ws := .code yX9_lasts cX9_lasts 3 (some .int) :: TB) B.pre w9 (List.mem_cons_of_mem _ h)
  have hown : s.vm.findClass RX9 = some m.cls := findClass_of_methodNamed B.named
  have S : CallFix p m c cX9_lasts 3 s _ TB RX9 := ⟨hx, hb, hml, hown, hT⟩
  subst hsz
  have hl := lv_entry ([.ref (a 0), .int p0, .int p1]) (n := 3) (Nat.le_of_ble_eq_true rfl)
  rw [lg_entry_eq]
  generalize (lg_sl ([.ref (a 0), .int p0, .int p1]) ++ List.replicate (3 - (lg_sl ([.ref (a 0), .int p0, .int p1])).length) Slot.unset).toArray = ls at hl ⊢
  have hl : lv_has ls 3 [(0, .ref (a 0)), (1, .int p0), (2, .int p1)] := hl
  refine nameQ (fun Q hQ => ?_)
  refine lv_aload_n hx hb dX9_lasts_0 rfl (lv_at hl 0 rfl) ?_
  refine va_get (D := D) (ci := 9) (v := .ref (a 17)) (C := RX9) (T := TX9) (N := 11) hx hb hT in_X9 hown hK hP 0 cw_0 rfl 2 (by decide) (hT _ t453) (fun _ h9 => h9) rfl dX9_lasts_1 ?_
  refine va_get (D := D) (ci := 8) (v := .ref (a 18)) (C := RX8) (T := TX8) (N := 6) hx hb hT in_X8 hown hK hP 17 cw_17 rfl 0 (by decide) (hT _ t312) (fun _ h9 => h9) rfl dX9_lasts_4 ?_
  refine lv_iload_n hx hb dX9_lasts_7 rfl (lv_at hl 1 rfl) ?_
  refine ro_V (As := [.int p0]) (rest := []) S (s_X1_isWheel l D k a st sl  p0 _  hB  ) lkX9_127 ok_X1_isWheel ⟨rfl, rfl, Nat.le_of_ble_eq_true rfl, Nat.le_of_ble_eq_true rfl⟩ (pw_V (ci := 1) (q0 := 18) hK hN rfl cw_18 hP hD0) rfl hl.1 rfl (Nat.le_of_ble_eq_true rfl) ⟨Nat.zero_le _, Nat.zero_le _⟩ dX9_lasts_8 (fun r1 er1 => ?_)
  rcases er1 with ⟨rfl, g9⟩ | ⟨rfl, g9⟩
  · skip
    have g2 := g9
    have h3 : Iv 0 7 p0 := g2.1
    refine lv_if_eq (tgt := 25) hx hb dX9_lasts_11 (by decide) (fun c4 => ?_) (fun c4 => ?_)
    · first | exact absurd c4 (by decide) | exact absurd (by decide) c4
    refine lv_iload_n hx hb dX9_lasts_14 rfl (lv_at hl 2 rfl) ?_
    refine lv_iconst (v := 1) hx hb dX9_lasts_15 (by decide) ?_
    refine lv_icmp_lt (tgt := 25) hx hb dX9_lasts_16 (by decide) (fun c5 => ?_) (fun c5 => ?_)
    · skip
      have n6 : p1.toInt < (1 : Int32).toInt := (i_lt c5)
      have h7 : Iv (-2147483648) 0 p1 := lt_l (iv_full p1) n6 (iv_c (by decide) : Iv 1 1 1) (by decide)
      refine lv_bipush (v := (-2)) hx hb dX9_lasts_25 (by decide) ?_
      rw [hQ]
      exact W.iret (v := (-2)) hx hb hr (fun t ht hW => ⟨(-2), rfl, trivial, ht⟩) (fun _ h9 => by cases h9) dX9_lasts_27
    · skip
      have n8 : (1 : Int32).toInt ≤ p1.toInt := (i_nlt c5)
      have h9 : Iv 1 2147483647 p1 := le_r (iv_c (by decide) : Iv 1 1 1) n8 (iv_full p1) (by decide)
      refine lv_iload_n hx hb dX9_lasts_19 rfl (lv_at hl 2 rfl) ?_
      refine lv_bipush (v := 20) hx hb dX9_lasts_20 (by decide) ?_
      refine lv_icmp_le (tgt := 28) hx hb dX9_lasts_22 (by decide) (fun c10 => ?_) (fun c10 => ?_)
      · skip
        have n11 : p1.toInt ≤ (20 : Int32).toInt := (i_le c10)
        have h12 : Iv 1 20 p1 := le_l h9 n11 (iv_c (by decide) : Iv 20 20 20) (by decide)
        refine lv_aload_n hx hb dX9_lasts_28 rfl (lv_at hl 0 rfl) ?_
        refine va_get (D := D) (ci := 9) (v := .ref (a 17)) (C := RX9) (T := TX9) (N := 11) hx hb hT in_X9 hown hK hP 0 cw_0 rfl 2 (by decide) (hT _ t453) (fun _ h9 => h9) rfl dX9_lasts_29 ?_
        refine va_get (D := D) (ci := 8) (v := .ref (a 31)) (C := RX8) (T := TX8) (N := 6) hx hb hT in_X8 hown hK hP 17 cw_17 rfl 1 (by decide) (hT _ t314) (fun _ h9 => h9) rfl dX9_lasts_32 ?_
        refine va_get (D := D) (ci := 5) (v := .ref (a 33)) (C := RX5) (T := TX5) (N := 5) hx hb hT in_X5 hown hK hP 31 cw_31 rfl 1 (by decide) (hT _ t171) (fun _ h9 => h9) rfl dX9_lasts_35 ?_
        refine lv_iload_n hx hb dX9_lasts_38 rfl (lv_at hl 1 rfl) ?_
        refine va_iald hx hb hK hP 33 0 cw_33 rfl (iv_in h3 (by decide) (by decide)) dX9_lasts_39 ?_
        refine lv_topi (fun z13 ez13 => ?_)
        refine lv_iload_n hx hb dX9_lasts_40 rfl (lv_at hl 2 rfl) ?_
        refine lv_idiv hx hb dX9_lasts_41 (iv_nz h12 (by decide)) ?_
        refine lv_topi (fun z14 ez14 => ?_)
        refine lv_iconst (v := 1) hx hb dX9_lasts_42 (by decide) ?_
        refine lv_iadd hx hb dX9_lasts_43 ?_
        refine lv_topi (fun z15 ez15 => ?_)
        rw [hQ]
        exact W.iret (v := z15) hx hb hr (fun t ht hW => ⟨z15, rfl, trivial, ht⟩) (fun _ h9 => by cases h9) dX9_lasts_44
      · skip
        have n16 : (20 : Int32).toInt < p1.toInt := (i_nle c10)
        have h17 : Iv 21 2147483647 p1 := lt_r (iv_c (by decide) : Iv 20 20 20) n16 h9 (by decide)
        refine lv_bipush (v := (-2)) hx hb dX9_lasts_25 (by decide) ?_
        rw [hQ]
        exact W.iret (v := (-2)) hx hb hr (fun t ht hW => ⟨(-2), rfl, trivial, ht⟩) (fun _ h9 => by cases h9) dX9_lasts_27
  · skip
    have g18 := g9
    refine lv_if_eq (tgt := 25) hx hb dX9_lasts_11 (by decide) (fun c19 => ?_) (fun c19 => ?_)
    rotate_left
    · first | exact absurd c19 (by decide) | exact absurd (by decide) c19
    refine lv_bipush (v := (-2)) hx hb dX9_lasts_25 (by decide) ?_
    rw [hQ]
    exact W.iret (v := (-2)) hx hb hr (fun t ht hW => ⟨(-2), rfl, trivial, ht⟩) (fun _ h9 => by cases h9) dX9_lasts_27
set_option maxHeartbeats 4000000 in
set_option maxRecDepth 100000 in
theorem s_X9_cutShare (l : Launch) (D : va_G) (k : Nat → ClassId) (a : Nat → Nat) (st : CT) (sl : CL) (p0 : Int32) (p1 : Int32) (p2 : Int32) (p3 : Int32) (sz : Nat) (hB : CB st) (hp1 : Iv 0 7 p1) : Met l yX9_cutShare (.code yX9_cutShare cX9_cutShare 5 (some .int) :: TB) (rmk 2) (va_Pc [.ref (a 0), .int p0, .int p1, .int p2, .int p3] (PW D k sz (CWS k a st sl))) (vp_Si (fun r => (True))) 0 0 (fun _ => False) := by
  refine Met.ofW (cc := cX9_cutShare) (maxL := 5) (ret := (some .int)) (by decide) rfl ?_
  intro p e s m args below meth c s₁ B hml hv
  obtain ⟨rfl, hsz, hP, hK, hD0, hN⟩ := hv
  have hx := B.exec
  have hb := B.bytes
  have hr := B.returns
  have hT : ∀ w9 ∈ TB, w9.before ([.ref (a 0), .int p0, .int p1, .int p2, .int p3] : List Value).toArray s = true := fun w9 h => atoms_spec (ws := .code yX9_cutShare cX9_cutShare 5 (some .int) :: TB) B.pre w9 (List.mem_cons_of_mem _ h)
  have hown : s.vm.findClass RX9 = some m.cls := findClass_of_methodNamed B.named
  have S : CallFix p m c cX9_cutShare 5 s _ TB RX9 := ⟨hx, hb, hml, hown, hT⟩
  subst hsz
  have hl := lv_entry ([.ref (a 0), .int p0, .int p1, .int p2, .int p3]) (n := 5) (Nat.le_of_ble_eq_true rfl)
  rw [lg_entry_eq]
  generalize (lg_sl ([.ref (a 0), .int p0, .int p1, .int p2, .int p3]) ++ List.replicate (5 - (lg_sl ([.ref (a 0), .int p0, .int p1, .int p2, .int p3])).length) Slot.unset).toArray = ls at hl ⊢
  have hl : lv_has ls 5 [(0, .ref (a 0)), (1, .int p0), (2, .int p1), (3, .int p2), (4, .int p3)] := hl
  refine nameQ (fun Q hQ => ?_)
  refine lv_iload_n hx hb dX9_cutShare_0 rfl (lv_at hl 3 rfl) ?_
  refine lv_if_le (tgt := 20) hx hb dX9_cutShare_1 (by decide) (fun c1 => ?_) (fun c1 => ?_)
  · skip
    have n2 : p2.toInt ≤ (0 : Int32).toInt := (i_le c1)
    have h3 : Iv (-2147483648) 0 p2 := le_l (iv_full p2) n2 (iv_c (by decide) : Iv 0 0 0) (by decide)
    refine lv_iload_n hx hb dX9_cutShare_20 rfl (lv_at hl 1 rfl) ?_
    refine lv_iconst (v := 1) hx hb dX9_cutShare_21 (by decide) ?_
    refine lv_iload hx hb dX9_cutShare_22 (lv_at hl 4 rfl) ?_
    refine ro_SX (As := [.int p3]) (rest := [.int 1, .int p0]) S (s_J6_bitCount_0f7a4 l D k a st sl  p3 _  hB  ) (gdC t999) t997 t998 t122 ok_J6_bitCount_0f7a4 ⟨rfl, rfl, Nat.le_of_ble_eq_true rfl, Nat.le_of_ble_eq_true rfl⟩ (pw_S hK hN hP hD0) rfl hl.1 rfl (Nat.le_of_ble_eq_true rfl) ⟨Nat.zero_le _, Nat.zero_le _⟩ dX9_cutShare_24 (fun r4 er4 => ?_)
    have h5 : Iv 0 63 r4 := er4.1
    refine va_mmax hx hb (hml.trans hl.1.symm) hown (hT _ t1069) (hT _ t1070) (hT _ t116) (hT _ t1071) (Nat.le_of_ble_eq_true rfl) (Nat.le_of_ble_eq_true rfl) (Nat.zero_le _) (Nat.zero_le _) dX9_cutShare_27 ?_
    refine lv_topi (fun z6 ez6 => ?_)
    have h7 : Iv 1 63 z6 := iv_max ez6 (iv_c (by decide) : Iv 1 1 1) h5 (by decide) (by decide) (by decide)
    refine lv_idiv hx hb dX9_cutShare_30 (iv_nz h7 (by decide)) ?_
    refine lv_topi (fun z8 ez8 => ?_)
    rw [hQ]
    exact W.iret (v := z8) hx hb hr (fun t ht hW => ⟨z8, rfl, trivial, ht⟩) (fun _ h9 => by cases h9) dX9_cutShare_31
  · skip
    have n9 : (0 : Int32).toInt < p2.toInt := (i_nle c1)
    have h10 : Iv 1 2147483647 p2 := lt_r (iv_c (by decide) : Iv 0 0 0) n9 (iv_full p2) (by decide)
    refine lv_iload_n hx hb dX9_cutShare_4 rfl (lv_at hl 1 rfl) ?_
    refine lv_aload_n hx hb dX9_cutShare_5 rfl (lv_at hl 0 rfl) ?_
    refine va_get (D := D) (ci := 9) (v := .ref (a 17)) (C := RX9) (T := TX9) (N := 11) hx hb hT in_X9 hown hK hP 0 cw_0 rfl 2 (by decide) (hT _ t453) (fun _ h9 => h9) rfl dX9_cutShare_6 ?_
    refine va_get (D := D) (ci := 8) (v := .ref (a 31)) (C := RX8) (T := TX8) (N := 6) hx hb hT in_X8 hown hK hP 17 cw_17 rfl 1 (by decide) (hT _ t314) (fun _ h9 => h9) rfl dX9_cutShare_9 ?_
    refine lv_iload_n hx hb dX9_cutShare_12 rfl (lv_at hl 2 rfl) ?_
    refine ro_V (As := [.int p1]) (rest := [.int p0]) S (s_X5_likesAll l D k a st sl 31 p1 _ (by decide) hB hp1 ) lkX9_143 ok_X5_likesAll ⟨rfl, rfl, Nat.le_of_ble_eq_true rfl, Nat.le_of_ble_eq_true rfl⟩ (pw_V (ci := 5) (q0 := 31) hK hN rfl cw_31 hP hD0) rfl hl.1 rfl (Nat.le_of_ble_eq_true rfl) ⟨Nat.zero_le _, Nat.zero_le _⟩ dX9_cutShare_13 (fun r11 er11 => ?_)
    refine lv_imul hx hb dX9_cutShare_16 ?_
    refine lv_topi (fun z12 ez12 => ?_)
    refine lv_iload_n hx hb dX9_cutShare_17 rfl (lv_at hl 3 rfl) ?_
    refine lv_idiv hx hb dX9_cutShare_18 (iv_nz h10 (by decide)) ?_
    refine lv_topi (fun z13 ez13 => ?_)
    rw [hQ]
    exact W.iret (v := z13) hx hb hr (fun t ht hW => ⟨z13, rfl, trivial, ht⟩) (fun _ h9 => by cases h9) dX9_cutShare_19
set_option maxHeartbeats 4000000 in
set_option maxRecDepth 100000 in
theorem s_X9_share (l : Launch) (D : va_G) (k : Nat → ClassId) (a : Nat → Nat) (st : CT) (sl : CL) (p0 : Int32) (p1 : Int32) (p2 : Int32) (sz : Nat) (hB : CB st)  : Met l yX9_share (.code yX9_share cX9_share 9 (some .int) :: TB) (rmk 3) (va_Pc [.ref (a 0), .int p0, .int p1, .int p2] (PW D k sz (CWS k a st sl))) (vp_Si (fun r => (True))) 0 0 (fun _ => False) := by
  refine Met.ofW (cc := cX9_share) (maxL := 9) (ret := (some .int)) (by decide) rfl ?_
  intro p e s m args below meth c s₁ B hml hv
  obtain ⟨rfl, hsz, hP, hK, hD0, hN⟩ := hv
  have hx := B.exec
  have hb := B.bytes
  have hr := B.returns
  have hT : ∀ w9 ∈ TB, w9.before ([.ref (a 0), .int p0, .int p1, .int p2] : List Value).toArray s = true := fun w9 h => atoms_spec (ws := .code yX9_share cX9_share 9 (some .int) :: TB) B.pre w9 (List.mem_cons_of_mem _ h)
  have hown : s.vm.findClass RX9 = some m.cls := findClass_of_methodNamed B.named
  have S : CallFix p m c cX9_share 9 s _ TB RX9 := ⟨hx, hb, hml, hown, hT⟩
  subst hsz
  have hl := lv_entry ([.ref (a 0), .int p0, .int p1, .int p2]) (n := 9) (Nat.le_of_ble_eq_true rfl)
  rw [lg_entry_eq]
  generalize (lg_sl ([.ref (a 0), .int p0, .int p1, .int p2]) ++ List.replicate (9 - (lg_sl ([.ref (a 0), .int p0, .int p1, .int p2])).length) Slot.unset).toArray = ls at hl ⊢
  have hl : lv_has ls 9 [(0, .ref (a 0)), (1, .int p0), (2, .int p1), (3, .int p2)] := hl
  refine nameQ (fun Q hQ => ?_)
  refine lv_aload_n hx hb dX9_share_0 rfl (lv_at hl 0 rfl) ?_
  refine va_get (D := D) (ci := 9) (v := .ref (a 17)) (C := RX9) (T := TX9) (N := 11) hx hb hT in_X9 hown hK hP 0 cw_0 rfl 2 (by decide) (hT _ t453) (fun _ h9 => h9) rfl dX9_share_1 ?_
  refine va_get (D := D) (ci := 8) (v := .ref (a 18)) (C := RX8) (T := TX8) (N := 6) hx hb hT in_X8 hown hK hP 17 cw_17 rfl 0 (by decide) (hT _ t312) (fun _ h9 => h9) rfl dX9_share_4 ?_
  refine lv_iload_n hx hb dX9_share_7 rfl (lv_at hl 1 rfl) ?_
  refine ro_V (As := [.int p0]) (rest := []) S (s_X1_isCart l D k a st sl  p0 _  hB  ) lkX9_147 ok_X1_isCart ⟨rfl, rfl, Nat.le_of_ble_eq_true rfl, Nat.le_of_ble_eq_true rfl⟩ (pw_V (ci := 1) (q0 := 18) hK hN rfl cw_18 hP hD0) rfl hl.1 rfl (Nat.le_of_ble_eq_true rfl) ⟨Nat.zero_le _, Nat.zero_le _⟩ dX9_share_8 (fun r1 er1 => ?_)
  rcases er1 with ⟨rfl, g9⟩ | ⟨rfl, g9⟩
  · skip
    have g2 := g9
    have h3 : Iv 0 2 p0 := g2.1
    refine lv_if_eq (tgt := 55) hx hb dX9_share_11 (by decide) (fun c4 => ?_) (fun c4 => ?_)
    · first | exact absurd c4 (by decide) | exact absurd (by decide) c4
    refine lv_iload_n hx hb dX9_share_14 rfl (lv_at hl 2 rfl) ?_
    refine lv_if_lt (tgt := 55) hx hb dX9_share_15 (by decide) (fun c5 => ?_) (fun c5 => ?_)
    · skip
      have n6 : p1.toInt < (0 : Int32).toInt := (i_lt c5)
      have h7 : Iv (-2147483648) (-1) p1 := lt_l (iv_full p1) n6 (iv_c (by decide) : Iv 0 0 0) (by decide)
      refine lv_bipush (v := (-2)) hx hb dX9_share_55 (by decide) ?_
      rw [hQ]
      exact W.iret (v := (-2)) hx hb hr (fun t ht hW => ⟨(-2), rfl, trivial, ht⟩) (fun _ h9 => by cases h9) dX9_share_57
    · skip
      have n8 : (0 : Int32).toInt ≤ p1.toInt := (i_nlt c5)
      have h9 : Iv 0 2147483647 p1 := le_r (iv_c (by decide) : Iv 0 0 0) n8 (iv_full p1) (by decide)
      refine lv_iload_n hx hb dX9_share_18 rfl (lv_at hl 2 rfl) ?_
      refine lv_sipush (v := 10000) hx hb dX9_share_19 (by decide) ?_
      refine lv_icmp_gt (tgt := 55) hx hb dX9_share_22 (by decide) (fun c10 => ?_) (fun c10 => ?_)
      · skip
        have n11 : (10000 : Int32).toInt < p1.toInt := (i_lt c10)
        have h12 : Iv 10001 2147483647 p1 := lt_r (iv_c (by decide) : Iv 10000 10000 10000) n11 h9 (by decide)
        refine lv_bipush (v := (-2)) hx hb dX9_share_55 (by decide) ?_
        rw [hQ]
        exact W.iret (v := (-2)) hx hb hr (fun t ht hW => ⟨(-2), rfl, trivial, ht⟩) (fun _ h9 => by cases h9) dX9_share_57
      · skip
        have n13 : p1.toInt ≤ (10000 : Int32).toInt := (i_nlt c10)
        have h14 : Iv 0 10000 p1 := le_l h9 n13 (iv_c (by decide) : Iv 10000 10000 10000) (by decide)
        refine lv_aload_n hx hb dX9_share_25 rfl (lv_at hl 0 rfl) ?_
        refine va_get (D := D) (ci := 9) (v := .ref (a 17)) (C := RX9) (T := TX9) (N := 11) hx hb hT in_X9 hown hK hP 0 cw_0 rfl 2 (by decide) (hT _ t453) (fun _ h9 => h9) rfl dX9_share_26 ?_
        refine va_get (D := D) (ci := 8) (v := .ref (a 18)) (C := RX8) (T := TX8) (N := 6) hx hb hT in_X8 hown hK hP 17 cw_17 rfl 0 (by decide) (hT _ t312) (fun _ h9 => h9) rfl dX9_share_29 ?_
        refine lv_iload_n hx hb dX9_share_32 rfl (lv_at hl 3 rfl) ?_
        refine ro_V (As := [.int p2]) (rest := []) S (s_X1_isWheel l D k a st sl  p2 _  hB  ) lkX9_127 ok_X1_isWheel ⟨rfl, rfl, Nat.le_of_ble_eq_true rfl, Nat.le_of_ble_eq_true rfl⟩ (pw_V (ci := 1) (q0 := 18) hK hN rfl cw_18 hP hD0) rfl hl.1 rfl (Nat.le_of_ble_eq_true rfl) ⟨Nat.zero_le _, Nat.zero_le _⟩ dX9_share_33 (fun r15 er15 => ?_)
        rcases er15 with ⟨rfl, g9⟩ | ⟨rfl, g9⟩
        · skip
          have g16 := g9
          have h17 : Iv 0 7 p2 := g16.1
          refine lv_if_eq (tgt := 55) hx hb dX9_share_36 (by decide) (fun c18 => ?_) (fun c18 => ?_)
          · first | exact absurd c18 (by decide) | exact absurd (by decide) c18
          refine lv_aload_n hx hb dX9_share_39 rfl (lv_at hl 0 rfl) ?_
          refine va_get (D := D) (ci := 9) (v := .ref (a 17)) (C := RX9) (T := TX9) (N := 11) hx hb hT in_X9 hown hK hP 0 cw_0 rfl 2 (by decide) (hT _ t453) (fun _ h9 => h9) rfl dX9_share_40 ?_
          refine va_get (D := D) (ci := 8) (v := .ref (a 31)) (C := RX8) (T := TX8) (N := 6) hx hb hT in_X8 hown hK hP 17 cw_17 rfl 1 (by decide) (hT _ t314) (fun _ h9 => h9) rfl dX9_share_43 ?_
          refine va_get (D := D) (ci := 5) (v := .ref (a 34)) (C := RX5) (T := TX5) (N := 5) hx hb hT in_X5 hown hK hP 31 cw_31 rfl 2 (by decide) (hT _ t175) (fun _ h9 => h9) rfl dX9_share_46 ?_
          refine lv_iload_n hx hb dX9_share_49 rfl (lv_at hl 3 rfl) ?_
          refine va_iald hx hb hK hP 34 0 cw_34 rfl (iv_in h17 (by decide) (by decide)) dX9_share_50 ?_
          refine lv_topi (fun z19 ez19 => ?_)
          refine lv_iload_n hx hb dX9_share_51 rfl (lv_at hl 1 rfl) ?_
          refine lv_icmp_eq (tgt := 58) hx hb dX9_share_52 (by decide) (fun c20 => ?_) (fun c20 => ?_)
          · skip
            have h21 : Iv 0 2 z19 := eq_l c20 h3
            refine lv_aload_n hx hb dX9_share_58 rfl (lv_at hl 0 rfl) ?_
            refine va_get (D := D) (ci := 9) (v := .ref (a 17)) (C := RX9) (T := TX9) (N := 11) hx hb hT in_X9 hown hK hP 0 cw_0 rfl 2 (by decide) (hT _ t453) (fun _ h9 => h9) rfl dX9_share_59 ?_
            refine va_get (D := D) (ci := 8) (v := .ref (a 31)) (C := RX8) (T := TX8) (N := 6) hx hb hT in_X8 hown hK hP 17 cw_17 rfl 1 (by decide) (hT _ t314) (fun _ h9 => h9) rfl dX9_share_62 ?_
            refine lv_iload_n hx hb dX9_share_65 rfl (lv_at hl 1 rfl) ?_
            refine ro_V (As := [.int p0]) (rest := []) S (s_X5_crewOf l D k a st sl 31 p0 _ (by decide) hB  ) lkX9_153 ok_X5_crewOf ⟨rfl, rfl, Nat.le_of_ble_eq_true rfl, Nat.le_of_ble_eq_true rfl⟩ (pw_V (ci := 5) (q0 := 31) hK hN rfl cw_31 hP hD0) rfl hl.1 rfl (Nat.le_of_ble_eq_true rfl) ⟨Nat.zero_le _, Nat.zero_le _⟩ dX9_share_66 (fun r22 er22 => ?_)
            have h23 : Iv 0 255 r22 := er22.1
            refine lv_istore (lv' := [(4, .int r22), (0, .ref (a 0)), (1, .int p0), (2, .int p1), (3, .int p2)]) hx hb dX9_share_69 hl (by decide) rfl (fun ls hl => ?_)
            refine lv_iconst (v := 0) hx hb dX9_share_71 (by decide) ?_
            refine lv_istore (lv' := [(5, .int 0), (4, .int r22), (0, .ref (a 0)), (1, .int p0), (2, .int p1), (3, .int p2)]) hx hb dX9_share_72 hl (by decide) rfl (fun ls hl => ?_)
            refine lv_iconst (v := 0) hx hb dX9_share_74 (by decide) ?_
            refine lv_istore (lv' := [(6, .int 0), (5, .int 0), (4, .int r22), (0, .ref (a 0)), (1, .int p0), (2, .int p1), (3, .int p2)]) hx hb dX9_share_75 hl (by decide) rfl (fun ls hl => ?_)
            have lp77 : ∀ (n9_77 : Nat) (v6_77 : Int32) (v5_77 : Int32) (ls : Array Slot), Iv 0 8 v6_77 → lv_has ls 9 [(6, .int v6_77), (5, .int v5_77), (4, .int r22), (0, .ref (a 0)), (1, .int p0), (2, .int p1), (3, .int p2)] → (8 : Int) - v6_77.toInt < (n9_77 : Int) → W p l e (rmk 3) s m ([.ref (a 0), .int p0, .int p1, .int p2] : List Value).toArray below meth c s.heap [] 0 0 Q (F0 m 77 ls []) := by
              clear hl
              intro n9_77
              induction n9_77 with
              | zero =>
                intro v6_77 v5_77 ls iv6_77 hl hm77
                exact (fu_0 iv6_77 hm77).elim
              | succ n9_77 ih77 =>
                intro v6_77 v5_77 ls iv6_77 hl hm77
                refine lv_iload hx hb dX9_share_77 (lv_at hl 0 rfl) ?_
                refine lv_bipush (v := 8) hx hb dX9_share_79 (by decide) ?_
                refine lv_icmp_ge (tgt := 115) hx hb dX9_share_81 (by decide) (fun c125 => ?_) (fun c125 => ?_)
                · skip
                  have n126 : (8 : Int32).toInt ≤ v6_77.toInt := (i_le c125)
                  have h127 : Iv 8 8 v6_77 := le_r (iv_c (by decide) : Iv 8 8 8) n126 iv6_77 (by decide)
                  refine lv_iload_n hx hb dX9_share_115 rfl (lv_at hl 5 rfl) ?_
                  refine lv_istore (lv' := [(6, .int p1), (5, .int v5_77), (4, .int r22), (0, .ref (a 0)), (1, .int p0), (2, .int p1), (3, .int p2)]) hx hb dX9_share_116 hl (by decide) rfl (fun ls hl => ?_)
                  refine lv_iconst (v := 0) hx hb dX9_share_118 (by decide) ?_
                  refine lv_istore (lv' := [(7, .int 0), (6, .int p1), (5, .int v5_77), (4, .int r22), (0, .ref (a 0)), (1, .int p0), (2, .int p1), (3, .int p2)]) hx hb dX9_share_119 hl (by decide) rfl (fun ls hl => ?_)
                  refine lv_iconst (v := 0) hx hb dX9_share_121 (by decide) ?_
                  refine lv_istore (lv' := [(8, .int 0), (7, .int 0), (6, .int p1), (5, .int v5_77), (4, .int r22), (0, .ref (a 0)), (1, .int p0), (2, .int p1), (3, .int p2)]) hx hb dX9_share_122 hl (by decide) rfl (fun ls hl => ?_)
                  have lp124 : ∀ (n9_124 : Nat) (v8_124 : Int32) (v7_124 : Int32) (v6_124 : Int32) (ls : Array Slot), Iv 0 8 v8_124 → lv_has ls 9 [(8, .int v8_124), (7, .int v7_124), (6, .int v6_124), (5, .int v5_77), (4, .int r22), (0, .ref (a 0)), (1, .int p0), (2, .int p1), (3, .int p2)] → (8 : Int) - v8_124.toInt < (n9_124 : Int) → W p l e (rmk 3) s m ([.ref (a 0), .int p0, .int p1, .int p2] : List Value).toArray below meth c s.heap [] 0 0 Q (F0 m 124 ls []) := by
                    clear hl
                    intro n9_124
                    induction n9_124 with
                    | zero =>
                      intro v8_124 v7_124 v6_124 ls iv8_124 hl hm124
                      exact (fu_0 iv8_124 hm124).elim
                    | succ n9_124 ih124 =>
                      intro v8_124 v7_124 v6_124 ls iv8_124 hl hm124
                      refine lv_iload hx hb dX9_share_124 (lv_at hl 0 rfl) ?_
                      refine lv_bipush (v := 8) hx hb dX9_share_126 (by decide) ?_
                      refine lv_icmp_ge (tgt := 179) hx hb dX9_share_128 (by decide) (fun c1061 => ?_) (fun c1061 => ?_)
                      · skip
                        have n1062 : (8 : Int32).toInt ≤ v8_124.toInt := (i_le c1061)
                        have h1063 : Iv 8 8 v8_124 := le_r (iv_c (by decide) : Iv 8 8 8) n1062 iv8_124 (by decide)
                        refine lv_aload_n hx hb dX9_share_179 rfl (lv_at hl 5 rfl) ?_
                        refine lv_iload_n hx hb dX9_share_180 rfl (lv_at hl 7 rfl) ?_
                        refine lv_iload_n hx hb dX9_share_181 rfl (lv_at hl 8 rfl) ?_
                        refine lv_iload hx hb dX9_share_182 (lv_at hl 3 rfl) ?_
                        refine lv_iload hx hb dX9_share_184 (lv_at hl 4 rfl) ?_
                        refine ro_V (As := [.int p1, .int p2, .int v5_77, .int r22]) (rest := []) S (s_X9_cutShare l D k a st sl  p1 p2 v5_77 r22 _  hB h17 ) lkX9_361 ok_X9_cutShare ⟨rfl, rfl, Nat.le_of_ble_eq_true rfl, Nat.le_of_ble_eq_true rfl⟩ (pw_V (ci := 9) (q0 := 0) hK hN rfl cw_0 hP hD0) rfl hl.1 rfl (Nat.le_of_ble_eq_true rfl) ⟨Nat.zero_le _, Nat.zero_le _⟩ dX9_share_186 (fun r1064 er1064 => ?_)
                        refine lv_iload hx hb dX9_share_189 (lv_at hl 1 rfl) ?_
                        refine lv_iload hx hb dX9_share_191 (lv_at hl 2 rfl) ?_
                        refine lv_icmp_ge (tgt := 200) hx hb dX9_share_193 (by decide) (fun c1065 => ?_) (fun c1065 => ?_)
                        · skip
                          have n1066 : v6_124.toInt ≤ v7_124.toInt := (i_le c1065)
                          refine lv_iconst (v := 0) hx hb dX9_share_200 (by decide) ?_
                          refine lv_iadd hx hb dX9_share_201 ?_
                          refine lv_topi (fun z1067 ez1067 => ?_)
                          rw [hQ]
                          exact W.iret (v := z1067) hx hb hr (fun t ht hW => ⟨z1067, rfl, trivial, ht⟩) (fun _ h9 => by cases h9) dX9_share_202
                        · skip
                          have n1068 : v7_124.toInt < v6_124.toInt := (i_nle c1065)
                          have h1069 : Iv (-2147483648) 2147483646 v7_124 := lt_l (iv_full v7_124) n1068 (iv_full v6_124) (by decide)
                          have h1070 : Iv (-2147483647) 2147483647 v6_124 := lt_r (iv_full v7_124) n1068 (iv_full v6_124) (by decide)
                          refine lv_iconst (v := 1) hx hb dX9_share_196 (by decide) ?_
                          refine lv_goto (tgt := 201) hx hb dX9_share_197 (by decide) ?_
                          refine lv_iadd hx hb dX9_share_201 ?_
                          refine lv_topi (fun z1071 ez1071 => ?_)
                          rw [hQ]
                          exact W.iret (v := z1071) hx hb hr (fun t ht hW => ⟨z1071, rfl, trivial, ht⟩) (fun _ h9 => by cases h9) dX9_share_202
                      · skip
                        have n1072 : v8_124.toInt < (8 : Int32).toInt := (i_nle c1061)
                        have h1073 : Iv 0 7 v8_124 := lt_l iv8_124 n1072 (iv_c (by decide) : Iv 8 8 8) (by decide)
                        refine lv_iload hx hb dX9_share_131 (lv_at hl 4 rfl) ?_
                        refine lv_iload hx hb dX9_share_133 (lv_at hl 0 rfl) ?_
                        refine lv_ishr hx hb dX9_share_135 ?_
                        refine lv_topi (fun z1074 ez1074 => ?_)
                        refine lv_iconst (v := 1) hx hb dX9_share_136 (by decide) ?_
                        refine lv_iand hx hb dX9_share_137 ?_
                        refine lv_topi (fun z1075 ez1075 => ?_)
                        have h1076 : Iv 0 1 z1075 := iv_andr ez1075 (iv_mono (c := 0) (d := 1) (iv_c (by decide) : Iv 1 1 1) (by decide) (by decide))
                        refine lv_if_eq (tgt := 173) hx hb dX9_share_138 (by decide) (fun c1077 => ?_) (fun c1077 => ?_)
                        · skip
                          have h1078 : Iv 0 0 z1075 := eq_l c1077 (iv_c (by decide) : Iv 0 0 0)
                          obtain ⟨z1079, ez1079⟩ : ∃ z9 : Int32, z9 = v8_124 + Int32.ofInt 1 := ⟨_, rfl⟩
                          have h1080 : Iv 1 8 z1079 := iv_inc ez1079 h1073 (by decide) (by decide) (by decide) (by decide) (by decide) (by decide)
                          refine lv_iinc (v := z1079) (lv' := [(8, .int z1079), (7, .int v7_124), (6, .int v6_124), (5, .int v5_77), (4, .int r22), (0, .ref (a 0)), (1, .int p0), (2, .int p1), (3, .int p2)]) hx hb dX9_share_173 hl (k := 0) rfl ez1079.symm (by decide) rfl (fun ls hl => ?_)
                          refine lv_goto (tgt := 124) hx hb dX9_share_176 (by decide) ?_
                          exact ih124 z1079 v7_124 v6_124 _ (iv_mono (c := 0) (d := 8) h1080 (by decide) (by decide)) (lv_sub hl [0, 1, 2, 3, 4, 5, 6, 7, 8] rfl) (fu_s (lo := 0) (ti_inc ez1079 h1073 (by decide) (by decide) (by decide) (by decide)) (by decide) hm124)
                        · skip
                          have h1081 : Iv 1 1 z1075 := ne_lo h1076 c1077 (by decide) (by decide)
                          refine lv_iload hx hb dX9_share_141 (lv_at hl 2 rfl) ?_
                          refine lv_aload_n hx hb dX9_share_143 rfl (lv_at hl 5 rfl) ?_
                          refine lv_iload_n hx hb dX9_share_144 rfl (lv_at hl 7 rfl) ?_
                          refine lv_iload hx hb dX9_share_145 (lv_at hl 0 rfl) ?_
                          refine lv_iload hx hb dX9_share_147 (lv_at hl 3 rfl) ?_
                          refine lv_iload hx hb dX9_share_149 (lv_at hl 4 rfl) ?_
                          refine ro_V (As := [.int p1, .int v8_124, .int v5_77, .int r22]) (rest := [.int v6_124]) S (s_X9_cutShare l D k a st sl  p1 v8_124 v5_77 r22 _  hB h1073 ) lkX9_361 ok_X9_cutShare ⟨rfl, rfl, Nat.le_of_ble_eq_true rfl, Nat.le_of_ble_eq_true rfl⟩ (pw_V (ci := 9) (q0 := 0) hK hN rfl cw_0 hP hD0) rfl hl.1 rfl (Nat.le_of_ble_eq_true rfl) ⟨Nat.zero_le _, Nat.zero_le _⟩ dX9_share_151 (fun r1082 er1082 => ?_)
                          refine lv_isub hx hb dX9_share_154 ?_
                          refine lv_topi (fun z1083 ez1083 => ?_)
                          refine lv_istore (lv' := [(6, .int z1083), (8, .int v8_124), (7, .int v7_124), (5, .int v5_77), (4, .int r22), (0, .ref (a 0)), (1, .int p0), (2, .int p1), (3, .int p2)]) hx hb dX9_share_155 hl (by decide) rfl (fun ls hl => ?_)
                          refine lv_iload hx hb dX9_share_157 (lv_at hl 2 rfl) ?_
                          refine lv_iload hx hb dX9_share_159 (lv_at hl 1 rfl) ?_
                          refine lv_iload_n hx hb dX9_share_161 rfl (lv_at hl 8 rfl) ?_
                          refine lv_icmp_ge (tgt := 169) hx hb dX9_share_162 (by decide) (fun c1084 => ?_) (fun c1084 => ?_)
                          · skip
                            have n1085 : p2.toInt ≤ v8_124.toInt := (i_le c1084)
                            refine lv_iconst (v := 0) hx hb dX9_share_169 (by decide) ?_
                            refine lv_iadd hx hb dX9_share_170 ?_
                            refine lv_topi (fun z1086 ez1086 => ?_)
                            refine lv_istore (lv' := [(7, .int z1086), (6, .int z1083), (8, .int v8_124), (5, .int v5_77), (4, .int r22), (0, .ref (a 0)), (1, .int p0), (2, .int p1), (3, .int p2)]) hx hb dX9_share_171 hl (by decide) rfl (fun ls hl => ?_)
                            obtain ⟨z1087, ez1087⟩ : ∃ z9 : Int32, z9 = v8_124 + Int32.ofInt 1 := ⟨_, rfl⟩
                            have h1088 : Iv 1 8 z1087 := iv_inc ez1087 h1073 (by decide) (by decide) (by decide) (by decide) (by decide) (by decide)
                            refine lv_iinc (v := z1087) (lv' := [(8, .int z1087), (7, .int z1086), (6, .int z1083), (5, .int v5_77), (4, .int r22), (0, .ref (a 0)), (1, .int p0), (2, .int p1), (3, .int p2)]) hx hb dX9_share_173 hl (k := 2) rfl ez1087.symm (by decide) rfl (fun ls hl => ?_)
                            refine lv_goto (tgt := 124) hx hb dX9_share_176 (by decide) ?_
                            exact ih124 z1087 z1086 z1083 _ (iv_mono (c := 0) (d := 8) h1088 (by decide) (by decide)) (lv_sub hl [0, 1, 2, 3, 4, 5, 6, 7, 8] rfl) (fu_s (lo := 0) (ti_inc ez1087 h1073 (by decide) (by decide) (by decide) (by decide)) (by decide) hm124)
                          · skip
                            have n1089 : v8_124.toInt < p2.toInt := (i_nle c1084)
                            have h1090 : Iv 0 6 v8_124 := lt_l h1073 n1089 h17 (by decide)
                            have h1091 : Iv 1 7 p2 := lt_r h1073 n1089 h17 (by decide)
                            refine lv_iconst (v := 1) hx hb dX9_share_165 (by decide) ?_
                            refine lv_goto (tgt := 170) hx hb dX9_share_166 (by decide) ?_
                            refine lv_iadd hx hb dX9_share_170 ?_
                            refine lv_topi (fun z1092 ez1092 => ?_)
                            refine lv_istore (lv' := [(7, .int z1092), (6, .int z1083), (8, .int v8_124), (5, .int v5_77), (4, .int r22), (0, .ref (a 0)), (1, .int p0), (2, .int p1), (3, .int p2)]) hx hb dX9_share_171 hl (by decide) rfl (fun ls hl => ?_)
                            obtain ⟨z1093, ez1093⟩ : ∃ z9 : Int32, z9 = v8_124 + Int32.ofInt 1 := ⟨_, rfl⟩
                            have h1094 : Iv 1 7 z1093 := iv_inc ez1093 h1090 (by decide) (by decide) (by decide) (by decide) (by decide) (by decide)
                            refine lv_iinc (v := z1093) (lv' := [(8, .int z1093), (7, .int z1092), (6, .int z1083), (5, .int v5_77), (4, .int r22), (0, .ref (a 0)), (1, .int p0), (2, .int p1), (3, .int p2)]) hx hb dX9_share_173 hl (k := 2) rfl ez1093.symm (by decide) rfl (fun ls hl => ?_)
                            refine lv_goto (tgt := 124) hx hb dX9_share_176 (by decide) ?_
                            exact ih124 z1093 z1092 z1083 _ (iv_mono (c := 0) (d := 8) h1094 (by decide) (by decide)) (lv_sub hl [0, 1, 2, 3, 4, 5, 6, 7, 8] rfl) (fu_s (lo := 0) (ti_inc ez1093 h1090 (by decide) (by decide) (by decide) (by decide)) (by decide) hm124)
                  exact lp124 9 0 0 p1 _ (iv_mono (c := 0) (d := 8) (iv_c (by decide) : Iv 0 0 0) (by decide) (by decide)) (lv_sub hl [0, 1, 2, 3, 4, 5, 6, 7, 8] rfl) (fu_i (iv_mono (c := 0) (d := 8) (iv_c (by decide) : Iv 0 0 0) (by decide) (by decide)) (by decide))
                · skip
                  have n1095 : v6_77.toInt < (8 : Int32).toInt := (i_nle c125)
                  have h1096 : Iv 0 7 v6_77 := lt_l iv6_77 n1095 (iv_c (by decide) : Iv 8 8 8) (by decide)
                  refine lv_iload hx hb dX9_share_84 (lv_at hl 1 rfl) ?_
                  refine lv_iload hx hb dX9_share_86 (lv_at hl 2 rfl) ?_
                  refine lv_iload hx hb dX9_share_88 (lv_at hl 0 rfl) ?_
                  refine lv_ishr hx hb dX9_share_90 ?_
                  refine lv_topi (fun z1097 ez1097 => ?_)
                  refine lv_iconst (v := 1) hx hb dX9_share_91 (by decide) ?_
                  refine lv_iand hx hb dX9_share_92 ?_
                  refine lv_topi (fun z1098 ez1098 => ?_)
                  have h1099 : Iv 0 1 z1098 := iv_andr ez1098 (iv_mono (c := 0) (d := 1) (iv_c (by decide) : Iv 1 1 1) (by decide) (by decide))
                  refine lv_aload_n hx hb dX9_share_93 rfl (lv_at hl 3 rfl) ?_
                  refine va_get (D := D) (ci := 9) (v := .ref (a 17)) (C := RX9) (T := TX9) (N := 11) hx hb hT in_X9 hown hK hP 0 cw_0 rfl 2 (by decide) (hT _ t453) (fun _ h9 => h9) rfl dX9_share_94 ?_
                  refine va_get (D := D) (ci := 8) (v := .ref (a 31)) (C := RX8) (T := TX8) (N := 6) hx hb hT in_X8 hown hK hP 17 cw_17 rfl 1 (by decide) (hT _ t314) (fun _ h9 => h9) rfl dX9_share_97 ?_
                  refine lv_iload hx hb dX9_share_100 (lv_at hl 0 rfl) ?_
                  refine ro_V (As := [.int v6_77]) (rest := [.int z1098, .int v5_77]) S (s_X5_likesAll l D k a st sl 31 v6_77 _ (by decide) hB h1096 ) lkX9_143 ok_X5_likesAll ⟨rfl, rfl, Nat.le_of_ble_eq_true rfl, Nat.le_of_ble_eq_true rfl⟩ (pw_V (ci := 5) (q0 := 31) hK hN rfl cw_31 hP hD0) rfl hl.1 rfl (Nat.le_of_ble_eq_true rfl) ⟨Nat.zero_le _, Nat.zero_le _⟩ dX9_share_102 (fun r1100 er1100 => ?_)
                  refine lv_imul hx hb dX9_share_105 ?_
                  refine lv_topi (fun z1101 ez1101 => ?_)
                  refine lv_iadd hx hb dX9_share_106 ?_
                  refine lv_topi (fun z1102 ez1102 => ?_)
                  refine lv_istore (lv' := [(5, .int z1102), (6, .int v6_77), (4, .int r22), (0, .ref (a 0)), (1, .int p0), (2, .int p1), (3, .int p2)]) hx hb dX9_share_107 hl (by decide) rfl (fun ls hl => ?_)
                  obtain ⟨z1103, ez1103⟩ : ∃ z9 : Int32, z9 = v6_77 + Int32.ofInt 1 := ⟨_, rfl⟩
                  have h1104 : Iv 1 8 z1103 := iv_inc ez1103 h1096 (by decide) (by decide) (by decide) (by decide) (by decide) (by decide)
                  refine lv_iinc (v := z1103) (lv' := [(6, .int z1103), (5, .int z1102), (4, .int r22), (0, .ref (a 0)), (1, .int p0), (2, .int p1), (3, .int p2)]) hx hb dX9_share_109 hl (k := 1) rfl ez1103.symm (by decide) rfl (fun ls hl => ?_)
                  refine lv_goto (tgt := 77) hx hb dX9_share_112 (by decide) ?_
                  exact ih77 z1103 z1102 _ (iv_mono (c := 0) (d := 8) h1104 (by decide) (by decide)) (lv_sub hl [0, 1, 2, 3, 4, 5, 6] rfl) (fu_s (lo := 0) (ti_inc ez1103 h1096 (by decide) (by decide) (by decide) (by decide)) (by decide) hm77)
            exact lp77 9 0 0 _ (iv_mono (c := 0) (d := 8) (iv_c (by decide) : Iv 0 0 0) (by decide) (by decide)) (lv_sub hl [0, 1, 2, 3, 4, 5, 6] rfl) (fu_i (iv_mono (c := 0) (d := 8) (iv_c (by decide) : Iv 0 0 0) (by decide) (by decide)) (by decide))
          · skip
            refine lv_bipush (v := (-2)) hx hb dX9_share_55 (by decide) ?_
            rw [hQ]
            exact W.iret (v := (-2)) hx hb hr (fun t ht hW => ⟨(-2), rfl, trivial, ht⟩) (fun _ h9 => by cases h9) dX9_share_57
        · skip
          have g1105 := g9
          refine lv_if_eq (tgt := 55) hx hb dX9_share_36 (by decide) (fun c1106 => ?_) (fun c1106 => ?_)
          rotate_left
          · first | exact absurd c1106 (by decide) | exact absurd (by decide) c1106
          refine lv_bipush (v := (-2)) hx hb dX9_share_55 (by decide) ?_
          rw [hQ]
          exact W.iret (v := (-2)) hx hb hr (fun t ht hW => ⟨(-2), rfl, trivial, ht⟩) (fun _ h9 => by cases h9) dX9_share_57
  · skip
    have g1107 := g9
    refine lv_if_eq (tgt := 55) hx hb dX9_share_11 (by decide) (fun c1108 => ?_) (fun c1108 => ?_)
    rotate_left
    · first | exact absurd c1108 (by decide) | exact absurd (by decide) c1108
    refine lv_bipush (v := (-2)) hx hb dX9_share_55 (by decide) ?_
    rw [hQ]
    exact W.iret (v := (-2)) hx hb hr (fun t ht hW => ⟨(-2), rfl, trivial, ht⟩) (fun _ h9 => by cases h9) dX9_share_57
set_option maxHeartbeats 4000000 in
set_option maxRecDepth 100000 in
theorem s_X9_worth (l : Launch) (D : va_G) (k : Nat → ClassId) (a : Nat → Nat) (st : CT) (sl : CL) (p0 : Int32) (sz : Nat) (hB : CB st)  : Met l yX9_worth (.code yX9_worth cX9_worth 2 (some .int) :: TB) (rmk 3) (va_Pc [.ref (a 0), .int p0] (PW D k sz (CWS k a st sl))) (vp_Si (fun r => (True))) 0 0 (fun _ => False) := by
  refine Met.ofW (cc := cX9_worth) (maxL := 2) (ret := (some .int)) (by decide) rfl ?_
  intro p e s m args below meth c s₁ B hml hv
  obtain ⟨rfl, hsz, hP, hK, hD0, hN⟩ := hv
  have hx := B.exec
  have hb := B.bytes
  have hr := B.returns
  have hT : ∀ w9 ∈ TB, w9.before ([.ref (a 0), .int p0] : List Value).toArray s = true := fun w9 h => atoms_spec (ws := .code yX9_worth cX9_worth 2 (some .int) :: TB) B.pre w9 (List.mem_cons_of_mem _ h)
  have hown : s.vm.findClass RX9 = some m.cls := findClass_of_methodNamed B.named
  have S : CallFix p m c cX9_worth 2 s _ TB RX9 := ⟨hx, hb, hml, hown, hT⟩
  subst hsz
  have hl := lv_entry ([.ref (a 0), .int p0]) (n := 2) (Nat.le_of_ble_eq_true rfl)
  rw [lg_entry_eq]
  generalize (lg_sl ([.ref (a 0), .int p0]) ++ List.replicate (2 - (lg_sl ([.ref (a 0), .int p0])).length) Slot.unset).toArray = ls at hl ⊢
  have hl : lv_has ls 2 [(0, .ref (a 0)), (1, .int p0)] := hl
  refine nameQ (fun Q hQ => ?_)
  refine lv_aload_n hx hb dX9_worth_0 rfl (lv_at hl 0 rfl) ?_
  refine va_get (D := D) (ci := 9) (v := .ref (a 17)) (C := RX9) (T := TX9) (N := 11) hx hb hT in_X9 hown hK hP 0 cw_0 rfl 2 (by decide) (hT _ t453) (fun _ h9 => h9) rfl dX9_worth_1 ?_
  refine va_get (D := D) (ci := 8) (v := .ref (a 18)) (C := RX8) (T := TX8) (N := 6) hx hb hT in_X8 hown hK hP 17 cw_17 rfl 0 (by decide) (hT _ t312) (fun _ h9 => h9) rfl dX9_worth_4 ?_
  refine lv_iload_n hx hb dX9_worth_7 rfl (lv_at hl 1 rfl) ?_
  refine ro_V (As := [.int p0]) (rest := []) S (s_X1_isWheel l D k a st sl  p0 _  hB  ) lkX9_127 ok_X1_isWheel ⟨rfl, rfl, Nat.le_of_ble_eq_true rfl, Nat.le_of_ble_eq_true rfl⟩ (pw_V (ci := 1) (q0 := 18) hK hN rfl cw_18 hP hD0) rfl hl.1 rfl (Nat.le_of_ble_eq_true rfl) ⟨Nat.zero_le _, Nat.zero_le _⟩ dX9_worth_8 (fun r1 er1 => ?_)
  rcases er1 with ⟨rfl, g9⟩ | ⟨rfl, g9⟩
  · skip
    have g2 := g9
    have h3 : Iv 0 7 p0 := g2.1
    refine lv_if_eq (tgt := 35) hx hb dX9_worth_11 (by decide) (fun c4 => ?_) (fun c4 => ?_)
    · first | exact absurd c4 (by decide) | exact absurd (by decide) c4
    refine lv_aload_n hx hb dX9_worth_14 rfl (lv_at hl 0 rfl) ?_
    refine va_get (D := D) (ci := 9) (v := .ref (a 17)) (C := RX9) (T := TX9) (N := 11) hx hb hT in_X9 hown hK hP 0 cw_0 rfl 2 (by decide) (hT _ t453) (fun _ h9 => h9) rfl dX9_worth_15 ?_
    refine va_get (D := D) (ci := 8) (v := .ref (a 31)) (C := RX8) (T := TX8) (N := 6) hx hb hT in_X8 hown hK hP 17 cw_17 rfl 1 (by decide) (hT _ t314) (fun _ h9 => h9) rfl dX9_worth_18 ?_
    refine lv_aload_n hx hb dX9_worth_21 rfl (lv_at hl 0 rfl) ?_
    refine va_get (D := D) (ci := 9) (v := .ref (a 17)) (C := RX9) (T := TX9) (N := 11) hx hb hT in_X9 hown hK hP 0 cw_0 rfl 2 (by decide) (hT _ t453) (fun _ h9 => h9) rfl dX9_worth_22 ?_
    refine va_get (D := D) (ci := 8) (v := .ref (a 18)) (C := RX8) (T := TX8) (N := 6) hx hb hT in_X8 hown hK hP 17 cw_17 rfl 0 (by decide) (hT _ t312) (fun _ h9 => h9) rfl dX9_worth_25 ?_
    refine lv_iload_n hx hb dX9_worth_28 rfl (lv_at hl 1 rfl) ?_
    refine ro_V (As := [.ref (a 18), .int p0]) (rest := []) S (s_X5_worthOf l D k a st sl 31 p0 _ (by decide) hB h3 ) lkX9_364 ok_X5_worthOf ⟨rfl, rfl, Nat.le_of_ble_eq_true rfl, Nat.le_of_ble_eq_true rfl⟩ (pw_V (ci := 5) (q0 := 31) hK hN rfl cw_31 hP hD0) rfl hl.1 rfl (Nat.le_of_ble_eq_true rfl) ⟨Nat.zero_le _, Nat.zero_le _⟩ dX9_worth_29 (fun r5 er5 => ?_)
    refine lv_goto (tgt := 37) hx hb dX9_worth_32 (by decide) ?_
    rw [hQ]
    exact W.iret (v := r5) hx hb hr (fun t ht hW => ⟨r5, rfl, trivial, ht⟩) (fun _ h9 => by cases h9) dX9_worth_37
  · skip
    have g6 := g9
    refine lv_if_eq (tgt := 35) hx hb dX9_worth_11 (by decide) (fun c7 => ?_) (fun c7 => ?_)
    rotate_left
    · first | exact absurd c7 (by decide) | exact absurd (by decide) c7
    refine lv_bipush (v := (-2)) hx hb dX9_worth_35 (by decide) ?_
    rw [hQ]
    exact W.iret (v := (-2)) hx hb hr (fun t ht hW => ⟨(-2), rfl, trivial, ht⟩) (fun _ h9 => by cases h9) dX9_worth_37
