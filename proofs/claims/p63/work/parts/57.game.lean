set_option maxHeartbeats 4000000 in
set_option maxRecDepth 100000 in
theorem s_J6_bitCount_0f7a4 (l : Launch) (D : va_G) (k : Nat → ClassId) (a : Nat → Nat) (st : CT) (sl : CL) (p0 : Int32) (sz : Nat) (hB : CB st)  : Met l yJ6_bitCount_0f7a4 (.code yJ6_bitCount_0f7a4 cJ6_bitCount_0f7a4 1 (some .int) :: TB) (rmk 1) (va_Pc [.int p0] (PW D k sz (CWS k a st sl))) (vp_Si (fun r => Iv 0 63 r ∧ (True))) 0 0 (fun _ => False) := by
  refine Met.ofW (cc := cJ6_bitCount_0f7a4) (maxL := 1) (ret := (some .int)) (by decide) rfl ?_
  intro p e s m args below meth c s₁ B hml hv
  obtain ⟨rfl, hsz, hP, hK, hD0, hN⟩ := hv
  have hx := B.exec
  have hb := B.bytes
  have hr := B.returns
  have hT : ∀ w9 ∈ TB, w9.before ([.int p0] : List Value).toArray s = true := fun w9 h => atoms_spec (ws := .code yJ6_bitCount_0f7a4 cJ6_bitCount_0f7a4 1 (some .int) :: TB) B.pre w9 (List.mem_cons_of_mem _ h)
  have hown : s.vm.findClass RJ6 = some m.cls := findClass_of_methodNamed B.named
  have S : CallFix p m c cJ6_bitCount_0f7a4 1 s _ TB RJ6 := ⟨hx, hb, hml, hown, hT⟩
  subst hsz
  have hl := lv_entry ([.int p0]) (n := 1) (Nat.le_of_ble_eq_true rfl)
  rw [lg_entry_eq]
  generalize (lg_sl ([.int p0]) ++ List.replicate (1 - (lg_sl ([.int p0])).length) Slot.unset).toArray = ls at hl ⊢
  have hl : lv_has ls 1 [(0, .int p0)] := hl
  refine nameQ (fun Q hQ => ?_)
  refine lv_iload_n hx hb dJ6_bitCount_0f7a4_0 rfl (lv_at hl 0 rfl) ?_
  refine lv_iload_n hx hb dJ6_bitCount_0f7a4_1 rfl (lv_at hl 0 rfl) ?_
  refine lv_iconst (v := 1) hx hb dJ6_bitCount_0f7a4_2 (by decide) ?_
  refine lv_iushr hx hb dJ6_bitCount_0f7a4_3 rfl ?_
  refine lv_topi (fun z1 ez1 => ?_)
  refine lv_ldcw (v := 1431655765) hx hb hown (hT _ t1000) dJ6_bitCount_0f7a4_4 ?_
  refine lv_iand hx hb dJ6_bitCount_0f7a4_7 ?_
  refine lv_topi (fun z2 ez2 => ?_)
  have h3 : Iv 0 1431655765 z2 := iv_andr ez2 (iv_mono (c := 0) (d := 1431655765) (iv_c (by decide) : Iv 1431655765 1431655765 1431655765) (by decide) (by decide))
  refine lv_isub hx hb dJ6_bitCount_0f7a4_8 ?_
  refine lv_topi (fun z4 ez4 => ?_)
  refine lv_istore_n (lv' := [(0, .int z4)]) hx hb dJ6_bitCount_0f7a4_9 rfl hl (by decide) rfl (fun ls hl => ?_)
  refine lv_iload_n hx hb dJ6_bitCount_0f7a4_10 rfl (lv_at hl 0 rfl) ?_
  refine lv_ldcw (v := 858993459) hx hb hown (hT _ t1001) dJ6_bitCount_0f7a4_11 ?_
  refine lv_iand hx hb dJ6_bitCount_0f7a4_14 ?_
  refine lv_topi (fun z5 ez5 => ?_)
  have h6 : Iv 0 858993459 z5 := iv_andr ez5 (iv_mono (c := 0) (d := 858993459) (iv_c (by decide) : Iv 858993459 858993459 858993459) (by decide) (by decide))
  refine lv_iload_n hx hb dJ6_bitCount_0f7a4_15 rfl (lv_at hl 0 rfl) ?_
  refine lv_iconst (v := 2) hx hb dJ6_bitCount_0f7a4_16 (by decide) ?_
  refine lv_iushr hx hb dJ6_bitCount_0f7a4_17 rfl ?_
  refine lv_topi (fun z7 ez7 => ?_)
  refine lv_ldcw (v := 858993459) hx hb hown (hT _ t1001) dJ6_bitCount_0f7a4_18 ?_
  refine lv_iand hx hb dJ6_bitCount_0f7a4_21 ?_
  refine lv_topi (fun z8 ez8 => ?_)
  have h9 : Iv 0 858993459 z8 := iv_andr ez8 (iv_mono (c := 0) (d := 858993459) (iv_c (by decide) : Iv 858993459 858993459 858993459) (by decide) (by decide))
  refine lv_iadd hx hb dJ6_bitCount_0f7a4_22 ?_
  refine lv_topi (fun z10 ez10 => ?_)
  have h11 : Iv 0 1717986918 z10 := iv_add ez10 h6 h9 (by decide) (by decide) (by decide) (by decide)
  refine lv_istore_n (lv' := [(0, .int z10)]) hx hb dJ6_bitCount_0f7a4_23 rfl hl (by decide) rfl (fun ls hl => ?_)
  refine lv_iload_n hx hb dJ6_bitCount_0f7a4_24 rfl (lv_at hl 0 rfl) ?_
  refine lv_iload_n hx hb dJ6_bitCount_0f7a4_25 rfl (lv_at hl 0 rfl) ?_
  refine lv_iconst (v := 4) hx hb dJ6_bitCount_0f7a4_26 (by decide) ?_
  refine lv_iushr hx hb dJ6_bitCount_0f7a4_27 rfl ?_
  refine lv_topi (fun z12 ez12 => ?_)
  refine lv_iadd hx hb dJ6_bitCount_0f7a4_28 ?_
  refine lv_topi (fun z13 ez13 => ?_)
  refine lv_ldcw (v := 252645135) hx hb hown (hT _ t1002) dJ6_bitCount_0f7a4_29 ?_
  refine lv_iand hx hb dJ6_bitCount_0f7a4_32 ?_
  refine lv_topi (fun z14 ez14 => ?_)
  have h15 : Iv 0 252645135 z14 := iv_andr ez14 (iv_mono (c := 0) (d := 252645135) (iv_c (by decide) : Iv 252645135 252645135 252645135) (by decide) (by decide))
  refine lv_istore_n (lv' := [(0, .int z14)]) hx hb dJ6_bitCount_0f7a4_33 rfl hl (by decide) rfl (fun ls hl => ?_)
  refine lv_iload_n hx hb dJ6_bitCount_0f7a4_34 rfl (lv_at hl 0 rfl) ?_
  refine lv_iload_n hx hb dJ6_bitCount_0f7a4_35 rfl (lv_at hl 0 rfl) ?_
  refine lv_bipush (v := 8) hx hb dJ6_bitCount_0f7a4_36 (by decide) ?_
  refine lv_iushr hx hb dJ6_bitCount_0f7a4_38 rfl ?_
  refine lv_topi (fun z16 ez16 => ?_)
  refine lv_iadd hx hb dJ6_bitCount_0f7a4_39 ?_
  refine lv_topi (fun z17 ez17 => ?_)
  refine lv_istore_n (lv' := [(0, .int z17)]) hx hb dJ6_bitCount_0f7a4_40 rfl hl (by decide) rfl (fun ls hl => ?_)
  refine lv_iload_n hx hb dJ6_bitCount_0f7a4_41 rfl (lv_at hl 0 rfl) ?_
  refine lv_iload_n hx hb dJ6_bitCount_0f7a4_42 rfl (lv_at hl 0 rfl) ?_
  refine lv_bipush (v := 16) hx hb dJ6_bitCount_0f7a4_43 (by decide) ?_
  refine lv_iushr hx hb dJ6_bitCount_0f7a4_45 rfl ?_
  refine lv_topi (fun z18 ez18 => ?_)
  refine lv_iadd hx hb dJ6_bitCount_0f7a4_46 ?_
  refine lv_topi (fun z19 ez19 => ?_)
  refine lv_istore_n (lv' := [(0, .int z19)]) hx hb dJ6_bitCount_0f7a4_47 rfl hl (by decide) rfl (fun ls hl => ?_)
  refine lv_iload_n hx hb dJ6_bitCount_0f7a4_48 rfl (lv_at hl 0 rfl) ?_
  refine lv_bipush (v := 63) hx hb dJ6_bitCount_0f7a4_49 (by decide) ?_
  refine lv_iand hx hb dJ6_bitCount_0f7a4_51 ?_
  refine lv_topi (fun z20 ez20 => ?_)
  have h21 : Iv 0 63 z20 := iv_andr ez20 (iv_mono (c := 0) (d := 63) (iv_c (by decide) : Iv 63 63 63) (by decide) (by decide))
  rw [hQ]
  exact W.iret (v := z20) hx hb hr (fun t ht hW => ⟨z20, rfl, ⟨h21, trivial⟩, ht⟩) (fun _ h9 => by cases h9) dJ6_bitCount_0f7a4_52
set_option maxHeartbeats 4000000 in
set_option maxRecDepth 100000 in
theorem s_X0_isBetter (l : Launch) (D : va_G) (k : Nat → ClassId) (a : Nat → Nat) (st : CT) (sl : CL) (p0 : Int32) (p1 : Int32) (p2 : Int32) (sz : Nat) (hB : CB st)  : Met l yX0_isBetter (.code yX0_isBetter cX0_isBetter 3 (some .boolean) :: TB) (rmk 1) (va_Pc [.int p0, .int p1, .int p2] (PW D k sz (CWS k a st sl))) (vp_Si (fun r => (r = 1 ∧ (True)) ∨ (r = 0 ∧ (True)))) 0 0 (fun _ => False) := by
  refine Met.ofW (cc := cX0_isBetter) (maxL := 3) (ret := (some .boolean)) (by decide) rfl ?_
  intro p e s m args below meth c s₁ B hml hv
  obtain ⟨rfl, hsz, hP, hK, hD0, hN⟩ := hv
  have hx := B.exec
  have hb := B.bytes
  have hr := B.returns
  have hT : ∀ w9 ∈ TB, w9.before ([.int p0, .int p1, .int p2] : List Value).toArray s = true := fun w9 h => atoms_spec (ws := .code yX0_isBetter cX0_isBetter 3 (some .boolean) :: TB) B.pre w9 (List.mem_cons_of_mem _ h)
  have hown : s.vm.findClass RX0 = some m.cls := findClass_of_methodNamed B.named
  have S : CallFix p m c cX0_isBetter 3 s _ TB RX0 := ⟨hx, hb, hml, hown, hT⟩
  subst hsz
  have hl := lv_entry ([.int p0, .int p1, .int p2]) (n := 3) (Nat.le_of_ble_eq_true rfl)
  rw [lg_entry_eq]
  generalize (lg_sl ([.int p0, .int p1, .int p2]) ++ List.replicate (3 - (lg_sl ([.int p0, .int p1, .int p2])).length) Slot.unset).toArray = ls at hl ⊢
  have hl : lv_has ls 3 [(0, .int p0), (1, .int p1), (2, .int p2)] := hl
  refine nameQ (fun Q hQ => ?_)
  refine lv_iload_n hx hb dX0_isBetter_0 rfl (lv_at hl 2 rfl) ?_
  refine lv_if_eq (tgt := 17) hx hb dX0_isBetter_1 (by decide) (fun c1 => ?_) (fun c1 => ?_)
  · skip
    have h2 : Iv 0 0 p2 := eq_l c1 (iv_c (by decide) : Iv 0 0 0)
    refine lv_iload_n hx hb dX0_isBetter_17 rfl (lv_at hl 0 rfl) ?_
    refine lv_iload_n hx hb dX0_isBetter_18 rfl (lv_at hl 1 rfl) ?_
    refine lv_icmp_ge (tgt := 26) hx hb dX0_isBetter_19 (by decide) (fun c3 => ?_) (fun c3 => ?_)
    · skip
      have n4 : p1.toInt ≤ p0.toInt := (i_le c3)
      refine lv_iconst (v := 0) hx hb dX0_isBetter_26 (by decide) ?_
      rw [hQ]
      exact W.zret (v := 0) (ty := .boolean) hx hb hr rfl (fun t ht hW => ⟨0, rfl, Or.inr ⟨rfl, trivial⟩, ht⟩) (fun _ h9 => by cases h9) dX0_isBetter_27
    · skip
      have n5 : p0.toInt < p1.toInt := (i_nle c3)
      have h6 : Iv (-2147483648) 2147483646 p0 := lt_l (iv_full p0) n5 (iv_full p1) (by decide)
      have h7 : Iv (-2147483647) 2147483647 p1 := lt_r (iv_full p0) n5 (iv_full p1) (by decide)
      refine lv_iconst (v := 1) hx hb dX0_isBetter_22 (by decide) ?_
      refine lv_goto (tgt := 27) hx hb dX0_isBetter_23 (by decide) ?_
      rw [hQ]
      exact W.zret (v := 1) (ty := .boolean) hx hb hr rfl (fun t ht hW => ⟨1, rfl, Or.inl ⟨rfl, trivial⟩, ht⟩) (fun _ h9 => by cases h9) dX0_isBetter_27
  · skip
    refine lv_iload_n hx hb dX0_isBetter_4 rfl (lv_at hl 0 rfl) ?_
    refine lv_iload_n hx hb dX0_isBetter_5 rfl (lv_at hl 1 rfl) ?_
    refine lv_icmp_le (tgt := 13) hx hb dX0_isBetter_6 (by decide) (fun c8 => ?_) (fun c8 => ?_)
    · skip
      have n9 : p0.toInt ≤ p1.toInt := (i_le c8)
      refine lv_iconst (v := 0) hx hb dX0_isBetter_13 (by decide) ?_
      refine lv_goto (tgt := 27) hx hb dX0_isBetter_14 (by decide) ?_
      rw [hQ]
      exact W.zret (v := 0) (ty := .boolean) hx hb hr rfl (fun t ht hW => ⟨0, rfl, Or.inr ⟨rfl, trivial⟩, ht⟩) (fun _ h9 => by cases h9) dX0_isBetter_27
    · skip
      have n10 : p1.toInt < p0.toInt := (i_nle c8)
      have h11 : Iv (-2147483648) 2147483646 p1 := lt_l (iv_full p1) n10 (iv_full p0) (by decide)
      have h12 : Iv (-2147483647) 2147483647 p0 := lt_r (iv_full p1) n10 (iv_full p0) (by decide)
      refine lv_iconst (v := 1) hx hb dX0_isBetter_9 (by decide) ?_
      refine lv_goto (tgt := 27) hx hb dX0_isBetter_10 (by decide) ?_
      rw [hQ]
      exact W.zret (v := 1) (ty := .boolean) hx hb hr rfl (fun t ht hW => ⟨1, rfl, Or.inl ⟨rfl, trivial⟩, ht⟩) (fun _ h9 => by cases h9) dX0_isBetter_27
set_option maxHeartbeats 4000000 in
set_option maxRecDepth 100000 in
theorem s_X0_picked (l : Launch) (D : va_G) (k : Nat → ClassId) (a : Nat → Nat) (st : CT) (sl : CL) (p0 : Int32) (p1 : Int32) (p2 : Int32) (sz : Nat) (hB : CB st) (hp1 : Iv 0 7 p1) : Met l yX0_picked (.code yX0_picked cX0_picked 5 (some .int) :: TB) (rmk 1) (va_Pc [.ref (a 162), .int p0, .int p1, .int p2] (PW D k sz (CWS k a st sl))) (vp_Si (fun r => (True))) 0 0 (fun _ => False) := by
  refine Met.ofW (cc := cX0_picked) (maxL := 5) (ret := (some .int)) (by decide) rfl ?_
  intro p e s m args below meth c s₁ B hml hv
  obtain ⟨rfl, hsz, hP, hK, hD0, hN⟩ := hv
  have hx := B.exec
  have hb := B.bytes
  have hr := B.returns
  have hT : ∀ w9 ∈ TB, w9.before ([.ref (a 162), .int p0, .int p1, .int p2] : List Value).toArray s = true := fun w9 h => atoms_spec (ws := .code yX0_picked cX0_picked 5 (some .int) :: TB) B.pre w9 (List.mem_cons_of_mem _ h)
  have hown : s.vm.findClass RX0 = some m.cls := findClass_of_methodNamed B.named
  have S : CallFix p m c cX0_picked 5 s _ TB RX0 := ⟨hx, hb, hml, hown, hT⟩
  subst hsz
  have hl := lv_entry ([.ref (a 162), .int p0, .int p1, .int p2]) (n := 5) (Nat.le_of_ble_eq_true rfl)
  rw [lg_entry_eq]
  generalize (lg_sl ([.ref (a 162), .int p0, .int p1, .int p2]) ++ List.replicate (5 - (lg_sl ([.ref (a 162), .int p0, .int p1, .int p2])).length) Slot.unset).toArray = ls at hl ⊢
  have hl : lv_has ls 5 [(0, .ref (a 162)), (1, .int p0), (2, .int p1), (3, .int p2)] := hl
  refine nameQ (fun Q hQ => ?_)
  refine lv_iload_n hx hb dX0_picked_0 rfl (lv_at hl 3 rfl) ?_
  refine lv_if_eq (tgt := 13) hx hb dX0_picked_1 (by decide) (fun c1 => ?_) (fun c1 => ?_)
  · skip
    have h2 : Iv 0 0 p2 := eq_l c1 (iv_c (by decide) : Iv 0 0 0)
    refine lv_aload_n hx hb dX0_picked_13 rfl (lv_at hl 0 rfl) ?_
    refine va_get (D := D) (ci := 0) (v := .ref (a 165)) (C := RX0) (T := TX0) (N := 3) hx hb hT in_X0 hown hK hP 162 cw_162 rfl 2 (by decide) (hT _ t443) (fun _ h9 => h9) rfl dX0_picked_14 ?_
    refine lv_iload_n hx hb dX0_picked_17 rfl (lv_at hl 2 rfl) ?_
    refine va_iald hx hb hK hP 165 0 cw_165 rfl (iv_in hp1 (by decide) (by decide)) dX0_picked_18 ?_
    refine lv_topi (fun z3 ez3 => ?_)
    refine lv_ineg hx hb dX0_picked_19 ?_
    refine lv_topi (fun z4 ez4 => ?_)
    refine lv_istore (lv' := [(4, .int z4), (0, .ref (a 162)), (1, .int p0), (2, .int p1), (3, .int p2)]) hx hb dX0_picked_20 hl (by decide) rfl (fun ls hl => ?_)
    refine lv_iload hx hb dX0_picked_22 (lv_at hl 0 rfl) ?_
    refine lv_aload_n hx hb dX0_picked_24 rfl (lv_at hl 1 rfl) ?_
    refine va_get (D := D) (ci := 0) (v := .ref (a 163)) (C := RX0) (T := TX0) (N := 3) hx hb hT in_X0 hown hK hP 162 cw_162 rfl 0 (by decide) (hT _ t441) (fun _ h9 => h9) rfl dX0_picked_25 ?_
    refine lv_iload_n hx hb dX0_picked_28 rfl (lv_at hl 2 rfl) ?_
    refine lv_iconst (v := 1) hx hb dX0_picked_29 (by decide) ?_
    refine lv_iload_n hx hb dX0_picked_30 rfl (lv_at hl 3 rfl) ?_
    refine lv_ishl hx hb dX0_picked_31 ?_
    refine lv_topi (fun z5 ez5 => ?_)
    have h6 : Iv 1 128 z5 := iv_shl 7 ez5 hp1 (by decide) (by decide) (by decide)
    refine lv_iconst (v := (-1)) hx hb dX0_picked_32 (by decide) ?_
    refine lv_ixor hx hb dX0_picked_33 ?_
    refine lv_topi (fun z7 ez7 => ?_)
    refine lv_iand hx hb dX0_picked_34 ?_
    refine lv_topi (fun z8 ez8 => ?_)
    refine lv_sipush (v := 255) hx hb dX0_picked_35 (by decide) ?_
    refine lv_iand hx hb dX0_picked_38 ?_
    refine lv_topi (fun z9 ez9 => ?_)
    have h10 : Iv 0 255 z9 := iv_andr ez9 (iv_mono (c := 0) (d := 255) (iv_c (by decide) : Iv 255 255 255) (by decide) (by decide))
    refine va_iald hx hb hK hP 163 0 cw_163 rfl (iv_in h10 (by decide) (by decide)) dX0_picked_39 ?_
    refine lv_topi (fun z11 ez11 => ?_)
    refine lv_iadd hx hb dX0_picked_40 ?_
    refine lv_topi (fun z12 ez12 => ?_)
    rw [hQ]
    exact W.iret (v := z12) hx hb hr (fun t ht hW => ⟨z12, rfl, trivial, ht⟩) (fun _ h9 => by cases h9) dX0_picked_41
  · skip
    refine lv_aload_n hx hb dX0_picked_4 rfl (lv_at hl 0 rfl) ?_
    refine va_get (D := D) (ci := 0) (v := .ref (a 164)) (C := RX0) (T := TX0) (N := 3) hx hb hT in_X0 hown hK hP 162 cw_162 rfl 1 (by decide) (hT _ t442) (fun _ h9 => h9) rfl dX0_picked_5 ?_
    refine lv_iload_n hx hb dX0_picked_8 rfl (lv_at hl 2 rfl) ?_
    refine va_iald hx hb hK hP 164 0 cw_164 rfl (iv_in hp1 (by decide) (by decide)) dX0_picked_9 ?_
    refine lv_topi (fun z13 ez13 => ?_)
    refine lv_goto (tgt := 20) hx hb dX0_picked_10 (by decide) ?_
    refine lv_istore (lv' := [(4, .int z13), (0, .ref (a 162)), (1, .int p0), (2, .int p1), (3, .int p2)]) hx hb dX0_picked_20 hl (by decide) rfl (fun ls hl => ?_)
    refine lv_iload hx hb dX0_picked_22 (lv_at hl 0 rfl) ?_
    refine lv_aload_n hx hb dX0_picked_24 rfl (lv_at hl 1 rfl) ?_
    refine va_get (D := D) (ci := 0) (v := .ref (a 163)) (C := RX0) (T := TX0) (N := 3) hx hb hT in_X0 hown hK hP 162 cw_162 rfl 0 (by decide) (hT _ t441) (fun _ h9 => h9) rfl dX0_picked_25 ?_
    refine lv_iload_n hx hb dX0_picked_28 rfl (lv_at hl 2 rfl) ?_
    refine lv_iconst (v := 1) hx hb dX0_picked_29 (by decide) ?_
    refine lv_iload_n hx hb dX0_picked_30 rfl (lv_at hl 3 rfl) ?_
    refine lv_ishl hx hb dX0_picked_31 ?_
    refine lv_topi (fun z14 ez14 => ?_)
    have h15 : Iv 1 128 z14 := iv_shl 7 ez14 hp1 (by decide) (by decide) (by decide)
    refine lv_iconst (v := (-1)) hx hb dX0_picked_32 (by decide) ?_
    refine lv_ixor hx hb dX0_picked_33 ?_
    refine lv_topi (fun z16 ez16 => ?_)
    refine lv_iand hx hb dX0_picked_34 ?_
    refine lv_topi (fun z17 ez17 => ?_)
    refine lv_sipush (v := 255) hx hb dX0_picked_35 (by decide) ?_
    refine lv_iand hx hb dX0_picked_38 ?_
    refine lv_topi (fun z18 ez18 => ?_)
    have h19 : Iv 0 255 z18 := iv_andr ez18 (iv_mono (c := 0) (d := 255) (iv_c (by decide) : Iv 255 255 255) (by decide) (by decide))
    refine va_iald hx hb hK hP 163 0 cw_163 rfl (iv_in h19 (by decide) (by decide)) dX0_picked_39 ?_
    refine lv_topi (fun z20 ez20 => ?_)
    refine lv_iadd hx hb dX0_picked_40 ?_
    refine lv_topi (fun z21 ez21 => ?_)
    rw [hQ]
    exact W.iret (v := z21) hx hb hr (fun t ht hW => ⟨z21, rfl, trivial, ht⟩) (fun _ h9 => by cases h9) dX0_picked_41
set_option maxHeartbeats 4000000 in
set_option maxRecDepth 100000 in
theorem s_X0_bestPick (l : Launch) (D : va_G) (k : Nat → ClassId) (a : Nat → Nat) (st : CT) (sl : CL) (p0 : Int32) (p1 : Int32) (sz : Nat) (hB : CB st)  : Met l yX0_bestPick (.code yX0_bestPick cX0_bestPick 5 (some .int) :: TB) (rmk 2) (va_Pc [.ref (a 162), .int p0, .int p1] (PW D k sz (CWS k a st sl))) (vp_Si (fun r => Iv (-1) 7 r ∧ (True))) 0 0 (fun _ => False) := by
  refine Met.ofW (cc := cX0_bestPick) (maxL := 5) (ret := (some .int)) (by decide) rfl ?_
  intro p e s m args below meth c s₁ B hml hv
  obtain ⟨rfl, hsz, hP, hK, hD0, hN⟩ := hv
  have hx := B.exec
  have hb := B.bytes
  have hr := B.returns
  have hT : ∀ w9 ∈ TB, w9.before ([.ref (a 162), .int p0, .int p1] : List Value).toArray s = true := fun w9 h => atoms_spec (ws := .code yX0_bestPick cX0_bestPick 5 (some .int) :: TB) B.pre w9 (List.mem_cons_of_mem _ h)
  have hown : s.vm.findClass RX0 = some m.cls := findClass_of_methodNamed B.named
  have S : CallFix p m c cX0_bestPick 5 s _ TB RX0 := ⟨hx, hb, hml, hown, hT⟩
  subst hsz
  have hl := lv_entry ([.ref (a 162), .int p0, .int p1]) (n := 5) (Nat.le_of_ble_eq_true rfl)
  rw [lg_entry_eq]
  generalize (lg_sl ([.ref (a 162), .int p0, .int p1]) ++ List.replicate (5 - (lg_sl ([.ref (a 162), .int p0, .int p1])).length) Slot.unset).toArray = ls at hl ⊢
  have hl : lv_has ls 5 [(0, .ref (a 162)), (1, .int p0), (2, .int p1)] := hl
  refine nameQ (fun Q hQ => ?_)
  refine lv_iconst (v := (-1)) hx hb dX0_bestPick_0 (by decide) ?_
  refine lv_istore_n (lv' := [(3, .int (-1)), (0, .ref (a 162)), (1, .int p0), (2, .int p1)]) hx hb dX0_bestPick_1 rfl hl (by decide) rfl (fun ls hl => ?_)
  refine lv_iconst (v := 0) hx hb dX0_bestPick_2 (by decide) ?_
  refine lv_istore (lv' := [(4, .int 0), (3, .int (-1)), (0, .ref (a 162)), (1, .int p0), (2, .int p1)]) hx hb dX0_bestPick_3 hl (by decide) rfl (fun ls hl => ?_)
  have lp5 : ∀ (n9_5 : Nat) (v4_5 : Int32) (v3_5 : Int32) (ls : Array Slot), Iv 0 8 v4_5 → Iv (-1) 7 v3_5 → lv_has ls 5 [(4, .int v4_5), (3, .int v3_5), (0, .ref (a 162)), (1, .int p0), (2, .int p1)] → (8 : Int) - v4_5.toInt < (n9_5 : Int) → W p l e (rmk 2) s m ([.ref (a 162), .int p0, .int p1] : List Value).toArray below meth c s.heap [] 0 0 Q (F0 m 5 ls []) := by
    clear hl
    intro n9_5
    induction n9_5 with
    | zero =>
      intro v4_5 v3_5 ls iv4_5 iv3_5 hl hm5
      exact (fu_0 iv4_5 hm5).elim
    | succ n9_5 ih5 =>
      intro v4_5 v3_5 ls iv4_5 iv3_5 hl hm5
      refine lv_iload hx hb dX0_bestPick_5 (lv_at hl 0 rfl) ?_
      refine lv_bipush (v := 8) hx hb dX0_bestPick_7 (by decide) ?_
      refine lv_icmp_ge (tgt := 57) hx hb dX0_bestPick_9 (by decide) (fun c233 => ?_) (fun c233 => ?_)
      · skip
        have n234 : (8 : Int32).toInt ≤ v4_5.toInt := (i_le c233)
        have h235 : Iv 8 8 v4_5 := le_r (iv_c (by decide) : Iv 8 8 8) n234 iv4_5 (by decide)
        refine lv_iload_n hx hb dX0_bestPick_57 rfl (lv_at hl 1 rfl) ?_
        rw [hQ]
        exact W.iret (v := v3_5) hx hb hr (fun t ht hW => ⟨v3_5, rfl, ⟨iv3_5, trivial⟩, ht⟩) (fun _ h9 => by cases h9) dX0_bestPick_58
      · skip
        have n236 : v4_5.toInt < (8 : Int32).toInt := (i_nle c233)
        have h237 : Iv 0 7 v4_5 := lt_l iv4_5 n236 (iv_c (by decide) : Iv 8 8 8) (by decide)
        refine lv_iload_n hx hb dX0_bestPick_12 rfl (lv_at hl 3 rfl) ?_
        refine lv_iload hx hb dX0_bestPick_13 (lv_at hl 0 rfl) ?_
        refine lv_ishr hx hb dX0_bestPick_15 ?_
        refine lv_topi (fun z238 ez238 => ?_)
        refine lv_iconst (v := 1) hx hb dX0_bestPick_16 (by decide) ?_
        refine lv_iand hx hb dX0_bestPick_17 ?_
        refine lv_topi (fun z239 ez239 => ?_)
        have h240 : Iv 0 1 z239 := iv_andr ez239 (iv_mono (c := 0) (d := 1) (iv_c (by decide) : Iv 1 1 1) (by decide) (by decide))
        refine lv_if_eq (tgt := 51) hx hb dX0_bestPick_18 (by decide) (fun c241 => ?_) (fun c241 => ?_)
        · skip
          have h242 : Iv 0 0 z239 := eq_l c241 (iv_c (by decide) : Iv 0 0 0)
          obtain ⟨z243, ez243⟩ : ∃ z9 : Int32, z9 = v4_5 + Int32.ofInt 1 := ⟨_, rfl⟩
          have h244 : Iv 1 8 z243 := iv_inc ez243 h237 (by decide) (by decide) (by decide) (by decide) (by decide) (by decide)
          refine lv_iinc (v := z243) (lv' := [(4, .int z243), (3, .int v3_5), (0, .ref (a 162)), (1, .int p0), (2, .int p1)]) hx hb dX0_bestPick_51 hl (k := 0) rfl ez243.symm (by decide) rfl (fun ls hl => ?_)
          refine lv_goto (tgt := 5) hx hb dX0_bestPick_54 (by decide) ?_
          exact ih5 z243 v3_5 _ (iv_mono (c := 0) (d := 8) h244 (by decide) (by decide)) iv3_5 (lv_sub hl [0, 1, 2, 3, 4] rfl) (fu_s (lo := 0) (ti_inc ez243 h237 (by decide) (by decide) (by decide) (by decide)) (by decide) hm5)
        · skip
          have h245 : Iv 1 1 z239 := ne_lo h240 c241 (by decide) (by decide)
          refine lv_iload_n hx hb dX0_bestPick_21 rfl (lv_at hl 1 rfl) ?_
          refine lv_iconst (v := (-1)) hx hb dX0_bestPick_22 (by decide) ?_
          refine lv_icmp_eq (tgt := 48) hx hb dX0_bestPick_23 (by decide) (fun c246 => ?_) (fun c246 => ?_)
          · skip
            have h247 : Iv (-1) (-1) v3_5 := eq_l c246 (iv_c (by decide) : Iv (-1) (-1) (-1))
            refine lv_iload hx hb dX0_bestPick_48 (lv_at hl 0 rfl) ?_
            refine lv_istore_n (lv' := [(3, .int v4_5), (4, .int v4_5), (0, .ref (a 162)), (1, .int p0), (2, .int p1)]) hx hb dX0_bestPick_50 rfl hl (by decide) rfl (fun ls hl => ?_)
            obtain ⟨z248, ez248⟩ : ∃ z9 : Int32, z9 = v4_5 + Int32.ofInt 1 := ⟨_, rfl⟩
            have h249 : Iv 1 8 z248 := iv_inc ez248 h237 (by decide) (by decide) (by decide) (by decide) (by decide) (by decide)
            refine lv_iinc (v := z248) (lv' := [(4, .int z248), (3, .int v4_5), (0, .ref (a 162)), (1, .int p0), (2, .int p1)]) hx hb dX0_bestPick_51 hl (k := 1) rfl ez248.symm (by decide) rfl (fun ls hl => ?_)
            refine lv_goto (tgt := 5) hx hb dX0_bestPick_54 (by decide) ?_
            exact ih5 z248 v4_5 _ (iv_mono (c := 0) (d := 8) h249 (by decide) (by decide)) (iv_mono (c := (-1)) (d := 7) h237 (by decide) (by decide)) (lv_sub hl [0, 1, 2, 3, 4] rfl) (fu_s (lo := 0) (ti_inc ez248 h237 (by decide) (by decide) (by decide) (by decide)) (by decide) hm5)
          · skip
            have h250 : Iv 0 7 v3_5 := ne_lo iv3_5 c246 (by decide) (by decide)
            refine lv_aload_n hx hb dX0_bestPick_26 rfl (lv_at hl 2 rfl) ?_
            refine lv_iload_n hx hb dX0_bestPick_27 rfl (lv_at hl 3 rfl) ?_
            refine lv_iload hx hb dX0_bestPick_28 (lv_at hl 0 rfl) ?_
            refine lv_iload_n hx hb dX0_bestPick_30 rfl (lv_at hl 4 rfl) ?_
            refine ro_V (As := [.int p0, .int v4_5, .int p1]) (rest := []) S (s_X0_picked l D k a st sl  p0 v4_5 p1 _  hB h237 ) lkX0_44 ok_X0_picked ⟨rfl, rfl, Nat.le_of_ble_eq_true rfl, Nat.le_of_ble_eq_true rfl⟩ (pw_V (ci := 0) (q0 := 162) hK hN rfl cw_162 hP hD0) rfl hl.1 rfl (Nat.le_of_ble_eq_true rfl) ⟨Nat.zero_le _, Nat.zero_le _⟩ dX0_bestPick_31 (fun r251 er251 => ?_)
            refine lv_aload_n hx hb dX0_bestPick_34 rfl (lv_at hl 2 rfl) ?_
            refine lv_iload_n hx hb dX0_bestPick_35 rfl (lv_at hl 3 rfl) ?_
            refine lv_iload_n hx hb dX0_bestPick_36 rfl (lv_at hl 1 rfl) ?_
            refine lv_iload_n hx hb dX0_bestPick_37 rfl (lv_at hl 4 rfl) ?_
            refine ro_V (As := [.int p0, .int v3_5, .int p1]) (rest := [.int r251]) S (s_X0_picked l D k a st sl  p0 v3_5 p1 _  hB h250 ) lkX0_44 ok_X0_picked ⟨rfl, rfl, Nat.le_of_ble_eq_true rfl, Nat.le_of_ble_eq_true rfl⟩ (pw_V (ci := 0) (q0 := 162) hK hN rfl cw_162 hP hD0) rfl hl.1 rfl (Nat.le_of_ble_eq_true rfl) ⟨Nat.zero_le _, Nat.zero_le _⟩ dX0_bestPick_38 (fun r252 er252 => ?_)
            refine lv_iload_n hx hb dX0_bestPick_41 rfl (lv_at hl 4 rfl) ?_
            refine ro_S (As := [.int r251, .int r252, .int p1]) (rest := []) S (s_X0_isBetter l D k a st sl  r251 r252 p1 _  hB  ) lkX0_52 ok_X0_isBetter ⟨rfl, rfl, Nat.le_of_ble_eq_true rfl, Nat.le_of_ble_eq_true rfl⟩ (pw_S hK hN hP hD0) rfl hl.1 rfl (Nat.le_of_ble_eq_true rfl) ⟨Nat.zero_le _, Nat.zero_le _⟩ dX0_bestPick_42 (fun r253 er253 => ?_)
            rcases er253 with ⟨rfl, g9⟩ | ⟨rfl, g9⟩
            · skip
              have g254 := g9
              refine lv_if_eq (tgt := 51) hx hb dX0_bestPick_45 (by decide) (fun c255 => ?_) (fun c255 => ?_)
              · first | exact absurd c255 (by decide) | exact absurd (by decide) c255
              refine lv_iload hx hb dX0_bestPick_48 (lv_at hl 0 rfl) ?_
              refine lv_istore_n (lv' := [(3, .int v4_5), (4, .int v4_5), (0, .ref (a 162)), (1, .int p0), (2, .int p1)]) hx hb dX0_bestPick_50 rfl hl (by decide) rfl (fun ls hl => ?_)
              obtain ⟨z256, ez256⟩ : ∃ z9 : Int32, z9 = v4_5 + Int32.ofInt 1 := ⟨_, rfl⟩
              have h257 : Iv 1 8 z256 := iv_inc ez256 h237 (by decide) (by decide) (by decide) (by decide) (by decide) (by decide)
              refine lv_iinc (v := z256) (lv' := [(4, .int z256), (3, .int v4_5), (0, .ref (a 162)), (1, .int p0), (2, .int p1)]) hx hb dX0_bestPick_51 hl (k := 1) rfl ez256.symm (by decide) rfl (fun ls hl => ?_)
              refine lv_goto (tgt := 5) hx hb dX0_bestPick_54 (by decide) ?_
              exact ih5 z256 v4_5 _ (iv_mono (c := 0) (d := 8) h257 (by decide) (by decide)) (iv_mono (c := (-1)) (d := 7) h237 (by decide) (by decide)) (lv_sub hl [0, 1, 2, 3, 4] rfl) (fu_s (lo := 0) (ti_inc ez256 h237 (by decide) (by decide) (by decide) (by decide)) (by decide) hm5)
            · skip
              have g258 := g9
              refine lv_if_eq (tgt := 51) hx hb dX0_bestPick_45 (by decide) (fun c259 => ?_) (fun c259 => ?_)
              rotate_left
              · first | exact absurd c259 (by decide) | exact absurd (by decide) c259
              obtain ⟨z260, ez260⟩ : ∃ z9 : Int32, z9 = v4_5 + Int32.ofInt 1 := ⟨_, rfl⟩
              have h261 : Iv 1 8 z260 := iv_inc ez260 h237 (by decide) (by decide) (by decide) (by decide) (by decide) (by decide)
              refine lv_iinc (v := z260) (lv' := [(4, .int z260), (3, .int v3_5), (0, .ref (a 162)), (1, .int p0), (2, .int p1)]) hx hb dX0_bestPick_51 hl (k := 0) rfl ez260.symm (by decide) rfl (fun ls hl => ?_)
              refine lv_goto (tgt := 5) hx hb dX0_bestPick_54 (by decide) ?_
              exact ih5 z260 v3_5 _ (iv_mono (c := 0) (d := 8) h261 (by decide) (by decide)) (iv_mono (c := (-1)) (d := 7) h250 (by decide) (by decide)) (lv_sub hl [0, 1, 2, 3, 4] rfl) (fu_s (lo := 0) (ti_inc ez260 h237 (by decide) (by decide) (by decide) (by decide)) (by decide) hm5)
  exact lp5 9 0 (-1) _ (iv_mono (c := 0) (d := 8) (iv_c (by decide) : Iv 0 0 0) (by decide) (by decide)) (iv_mono (c := (-1)) (d := 7) (iv_c (by decide) : Iv (-1) (-1) (-1)) (by decide) (by decide)) (lv_sub hl [0, 1, 2, 3, 4] rfl) (fu_i (iv_mono (c := 0) (d := 8) (iv_c (by decide) : Iv 0 0 0) (by decide) (by decide)) (by decide))
set_option maxHeartbeats 4000000 in
set_option maxRecDepth 100000 in
theorem s_X0_outcome (l : Launch) (D : va_G) (k : Nat → ClassId) (a : Nat → Nat) (st : CT) (sl : CL) (p0 : Int32) (sz : Nat) (hB : CB st)  : Met l yX0_outcome (.code yX0_outcome cX0_outcome 7 (some .int) :: TB) (rmw 3 0 0) (va_Pc [.ref (a 162), .ref (a 18), .ref (a 31), .int p0] (PW D k sz (CWS k a st sl))) (QI D (S := CT) (fun r u => CB u ∧ FR [164, 165, 163] st u ∧ ((True))) (fun u => CWS k a u sl) (fun _ => []) (CWS k a st sl) sz) 0 0 (va_A (CWS k a st sl) sz) := by
  refine Met.ofW (cc := cX0_outcome) (maxL := 7) (ret := (some .int)) (by decide) rfl ?_
  intro p e s m args below meth c s₁ B hml hv
  obtain ⟨rfl, hsz, hP, hK, hD0, hN⟩ := hv
  have hx := B.exec
  have hb := B.bytes
  have hr := B.returns
  have hT : ∀ w9 ∈ TB, w9.before ([.ref (a 162), .ref (a 18), .ref (a 31), .int p0] : List Value).toArray s = true := fun w9 h => atoms_spec (ws := .code yX0_outcome cX0_outcome 7 (some .int) :: TB) B.pre w9 (List.mem_cons_of_mem _ h)
  have hown : s.vm.findClass RX0 = some m.cls := findClass_of_methodNamed B.named
  have S : CallFix p m c cX0_outcome 7 s _ TB RX0 := ⟨hx, hb, hml, hown, hT⟩
  subst hsz
  have hD := hD0.self (sz := s.heap.size)
  generalize hAe : va_A (CWS k a st sl) s.heap.size = A at hD ⊢
  have hA : ∀ q : Nat, s.heap.size ≤ q → A q := fun q h => by rw [← hAe]; exact Or.inr h
  have hS : va_S A s.heap s.heap [] := va_S.rf
  have hl := lv_entry ([.ref (a 162), .ref (a 18), .ref (a 31), .int p0]) (n := 7) (Nat.le_of_ble_eq_true rfl)
  rw [lg_entry_eq]
  generalize (lg_sl ([.ref (a 162), .ref (a 18), .ref (a 31), .int p0]) ++ List.replicate (7 - (lg_sl ([.ref (a 162), .ref (a 18), .ref (a 31), .int p0])).length) Slot.unset).toArray = ls at hl ⊢
  have hl : lv_has ls 7 [(0, .ref (a 162)), (1, .ref (a 18)), (2, .ref (a 31)), (3, .int p0)] := hl
  refine nameQ (fun Q hQ => ?_)
  refine lv_iconst (v := 0) hx hb dX0_outcome_0 (by decide) ?_
  refine lv_istore (lv' := [(4, .int 0), (0, .ref (a 162)), (1, .ref (a 18)), (2, .ref (a 31)), (3, .int p0)]) hx hb dX0_outcome_1 hl (by decide) rfl (fun ls hl => ?_)
  have lp3 : ∀ (n9_3 : Nat) (v4_3 : Int32) (t3 : CT) (H9 : Heap) (locs9 : List Loc) (ls : Array Slot), Iv 0 8 v4_3 → CB t3 → FR [164, 165] st t3 → va_P D vwCl (CWS k a t3 sl) H9 → va_D A (CWS k a t3 sl) → va_S A s.heap H9 locs9 → lv_has ls 7 [(4, .int v4_3), (0, .ref (a 162)), (1, .ref (a 18)), (2, .ref (a 31)), (3, .int p0)] → (8 : Int) - v4_3.toInt < (n9_3 : Int) → W p l e (rmw 3 0 0) s m ([.ref (a 162), .ref (a 18), .ref (a 31), .int p0] : List Value).toArray below meth c H9 locs9 0 0 Q (F0 m 3 ls []) := by
    clear hl hP hD hS
    intro n9_3
    induction n9_3 with
    | zero =>
      intro v4_3 t3 H9 locs9 ls iv4_3 hBt3 gt3 hP hD hS hl hm3
      exact (fu_0 iv4_3 hm3).elim
    | succ n9_3 ih3 =>
      intro v4_3 t3 H9 locs9 ls iv4_3 hBt3 gt3 hP hD hS hl hm3
      have hFt3 : FR [164, 165, 163] st t3 := fr_ca fr_rf gt3 (sub_1 (List.mem_of_getElem? (i := 0) rfl) (sub_1 (List.mem_of_getElem? (i := 1) rfl) sub_0))
      refine lv_iload hx hb dX0_outcome_3 (lv_at hl 0 rfl) ?_
      refine lv_aload_n hx hb dX0_outcome_5 rfl (lv_at hl 2 rfl) ?_
      refine va_get (D := D) (ci := 1) (v := .int (t3 18 4)) (C := RX1) (T := TX1) (N := 14) hx hb hT in_X1 hown hK hP 18 cw_18 rfl 4 (by decide) (hT _ t212) (fun _ h9 => h9) rfl dX0_outcome_6 ?_
      refine k_top (y := (st 18 4)) (congrFun (hFt3 18 (nm_1 (by decide) (nm_1 (by decide) (nm_1 (by decide) nm_0)))) 4) ?_
      have h109 : Iv 0 8 (st 18 4) := (rb_18_4 hB)
      refine lv_icmp_ge (tgt := 46) hx hb dX0_outcome_9 (by decide) (fun c110 => ?_) (fun c110 => ?_)
      · skip
        have n111 : (st 18 4).toInt ≤ v4_3.toInt := (i_le c110)
        refine lv_aload_n hx hb dX0_outcome_46 rfl (lv_at hl 1 rfl) ?_
        refine va_get (D := D) (ci := 0) (v := .ref (a 163)) (C := RX0) (T := TX0) (N := 3) hx hb hT in_X0 hown hK hP 162 cw_162 rfl 0 (by decide) (hT _ t441) (fun _ h9 => h9) rfl dX0_outcome_47 ?_
        refine lv_iconst (v := 0) hx hb dX0_outcome_50 (by decide) ?_
        refine lv_iconst (v := 0) hx hb dX0_outcome_51 (by decide) ?_
        refine c_ist hx hb hK hP hD hS cw_163 cs_163 (by unfold vp_in; decide) dX0_outcome_52 (fun s112 H9 locs9 es112 hP9 hD9 hS9 => ?_)
        clear hP hD hS
        have hS := hS9
        have hP := hP9
        have hD := hD9
        clear hP9 hD9 hS9
        have hBs112 : CB s112 := by rw [es112]; exact cb_sw hBt3 trivial
        have hFs112 : FR [164, 165, 163] st s112 := fr_sw hFt3 (List.mem_of_getElem? (i := 2) rfl) es112
        refine lv_iconst (v := 1) hx hb dX0_outcome_53 (by decide) ?_
        refine lv_istore (lv' := [(4, .int 1), (0, .ref (a 162)), (1, .ref (a 18)), (2, .ref (a 31)), (3, .int p0)]) hx hb dX0_outcome_54 hl (by decide) rfl (fun ls hl => ?_)
        have lp56 : ∀ (n9_56 : Nat) (v4_56 : Int32) (t56 : CT) (H9 : Heap) (locs9 : List Loc) (ls : Array Slot), Iv 1 256 v4_56 → CB t56 → FR [163] s112 t56 → va_P D vwCl (CWS k a t56 sl) H9 → va_D A (CWS k a t56 sl) → va_S A s.heap H9 locs9 → lv_has ls 7 [(4, .int v4_56), (0, .ref (a 162)), (1, .ref (a 18)), (2, .ref (a 31)), (3, .int p0)] → (256 : Int) - v4_56.toInt < (n9_56 : Int) → W p l e (rmw 3 0 0) s m ([.ref (a 162), .ref (a 18), .ref (a 31), .int p0] : List Value).toArray below meth c H9 locs9 0 0 Q (F0 m 56 ls []) := by
          clear hl hP hD hS
          intro n9_56
          induction n9_56 with
          | zero =>
            intro v4_56 t56 H9 locs9 ls iv4_56 hBt56 gt56 hP hD hS hl hm56
            exact (fu_0 iv4_56 hm56).elim
          | succ n9_56 ih56 =>
            intro v4_56 t56 H9 locs9 ls iv4_56 hBt56 gt56 hP hD hS hl hm56
            have hFt56 : FR [164, 165, 163] st t56 := fr_ca hFs112 gt56 (sub_1 (List.mem_of_getElem? (i := 2) rfl) sub_0)
            refine lv_iload hx hb dX0_outcome_56 (lv_at hl 0 rfl) ?_
            refine lv_iload_n hx hb dX0_outcome_58 rfl (lv_at hl 4 rfl) ?_
            refine lv_icmp_gt (tgt := 143) hx hb dX0_outcome_59 (by decide) (fun c1465 => ?_) (fun c1465 => ?_)
            · skip
              have n1466 : p0.toInt < v4_56.toInt := (i_lt c1465)
              have h1467 : Iv (-2147483648) 255 p0 := lt_l (iv_full p0) n1466 iv4_56 (by decide)
              refine lv_aload_n hx hb dX0_outcome_143 rfl (lv_at hl 1 rfl) ?_
              refine va_get (D := D) (ci := 0) (v := .ref (a 163)) (C := RX0) (T := TX0) (N := 3) hx hb hT in_X0 hown hK hP 162 cw_162 rfl 0 (by decide) (hT _ t441) (fun _ h9 => h9) rfl dX0_outcome_144 ?_
              refine lv_iload_n hx hb dX0_outcome_147 rfl (lv_at hl 4 rfl) ?_
              refine lv_sipush (v := 255) hx hb dX0_outcome_148 (by decide) ?_
              refine lv_iand hx hb dX0_outcome_151 ?_
              refine lv_topi (fun z1468 ez1468 => ?_)
              have h1469 : Iv 0 255 z1468 := iv_andr ez1468 (iv_mono (c := 0) (d := 255) (iv_c (by decide) : Iv 255 255 255) (by decide) (by decide))
              refine va_iald hx hb hK hP 163 0 cw_163 rfl (iv_in h1469 (by decide) (by decide)) dX0_outcome_152 ?_
              refine lv_topi (fun z1470 ez1470 => ?_)
              rw [hQ]
              exact W.iret (v := z1470) hx hb hr (fun t ht hW => ⟨⟨z1470, t56, rfl, ⟨hBt56, hFt56, trivial⟩, by rw [ht]; exact hP, va_K.moved hW.alike (hK.sub (tys' := []) [] rfl), by rw [hAe]; exact hD⟩, by rw [hAe]; exact hS.F ht⟩) hS.2.2 dX0_outcome_153
            · skip
              have n1471 : v4_56.toInt ≤ p0.toInt := (i_nlt c1465)
              have h1472 : Iv 1 2147483647 p0 := le_r iv4_56 n1471 (iv_full p0) (by decide)
              refine lv_iload hx hb dX0_outcome_62 (lv_at hl 0 rfl) ?_
              refine lv_sipush (v := 256) hx hb dX0_outcome_64 (by decide) ?_
              refine lv_icmp_ge (tgt := 143) hx hb dX0_outcome_67 (by decide) (fun c1473 => ?_) (fun c1473 => ?_)
              · skip
                have n1474 : (256 : Int32).toInt ≤ v4_56.toInt := (i_le c1473)
                have h1475 : Iv 256 256 v4_56 := le_r (iv_c (by decide) : Iv 256 256 256) n1474 iv4_56 (by decide)
                refine lv_aload_n hx hb dX0_outcome_143 rfl (lv_at hl 1 rfl) ?_
                refine va_get (D := D) (ci := 0) (v := .ref (a 163)) (C := RX0) (T := TX0) (N := 3) hx hb hT in_X0 hown hK hP 162 cw_162 rfl 0 (by decide) (hT _ t441) (fun _ h9 => h9) rfl dX0_outcome_144 ?_
                refine lv_iload_n hx hb dX0_outcome_147 rfl (lv_at hl 4 rfl) ?_
                refine lv_sipush (v := 255) hx hb dX0_outcome_148 (by decide) ?_
                refine lv_iand hx hb dX0_outcome_151 ?_
                refine lv_topi (fun z1476 ez1476 => ?_)
                have h1477 : Iv 0 255 z1476 := iv_andr ez1476 (iv_mono (c := 0) (d := 255) (iv_c (by decide) : Iv 255 255 255) (by decide) (by decide))
                refine va_iald hx hb hK hP 163 0 cw_163 rfl (iv_in h1477 (by decide) (by decide)) dX0_outcome_152 ?_
                refine lv_topi (fun z1478 ez1478 => ?_)
                rw [hQ]
                exact W.iret (v := z1478) hx hb hr (fun t ht hW => ⟨⟨z1478, t56, rfl, ⟨hBt56, hFt56, trivial⟩, by rw [ht]; exact hP, va_K.moved hW.alike (hK.sub (tys' := []) [] rfl), by rw [hAe]; exact hD⟩, by rw [hAe]; exact hS.F ht⟩) hS.2.2 dX0_outcome_153
              · skip
                have n1479 : v4_56.toInt < (256 : Int32).toInt := (i_nle c1473)
                have h1480 : Iv 1 255 v4_56 := lt_l iv4_56 n1479 (iv_c (by decide) : Iv 256 256 256) (by decide)
                refine lv_iload hx hb dX0_outcome_70 (lv_at hl 0 rfl) ?_
                refine lv_iload_n hx hb dX0_outcome_72 rfl (lv_at hl 4 rfl) ?_
                refine lv_iconst (v := (-1)) hx hb dX0_outcome_73 (by decide) ?_
                refine lv_ixor hx hb dX0_outcome_74 ?_
                refine lv_topi (fun z1481 ez1481 => ?_)
                refine lv_iand hx hb dX0_outcome_75 ?_
                refine lv_topi (fun z1482 ez1482 => ?_)
                have h1483 : Iv 0 255 z1482 := iv_andl ez1482 (iv_mono (c := 0) (d := 255) h1480 (by decide) (by decide))
                refine lv_if_ne (tgt := 137) hx hb dX0_outcome_76 (by decide) (fun c1484 => ?_) (fun c1484 => ?_)
                · skip
                  have h1485 : Iv 1 255 z1482 := ne_lo h1483 (show ¬ z1482 = 0 from c1484) (by decide) (by decide)
                  obtain ⟨z1486, ez1486⟩ : ∃ z9 : Int32, z9 = v4_56 + Int32.ofInt 1 := ⟨_, rfl⟩
                  have h1487 : Iv 2 256 z1486 := iv_inc ez1486 h1480 (by decide) (by decide) (by decide) (by decide) (by decide) (by decide)
                  refine lv_iinc (v := z1486) (lv' := [(4, .int z1486), (0, .ref (a 162)), (1, .ref (a 18)), (2, .ref (a 31)), (3, .int p0)]) hx hb dX0_outcome_137 hl (k := 0) rfl ez1486.symm (by decide) rfl (fun ls hl => ?_)
                  refine lv_goto (tgt := 56) hx hb dX0_outcome_140 (by decide) ?_
                  exact ih56 z1486 t56 _ _ _ (iv_mono (c := 1) (d := 256) h1487 (by decide) (by decide)) hBt56 gt56 hP hD hS (lv_sub hl [0, 1, 2, 3, 4] rfl) (fu_s (lo := 0) (ti_inc ez1486 h1480 (by decide) (by decide) (by decide) (by decide)) (by decide) hm56)
                · skip
                  have h1488 : Iv 0 0 z1482 := eq_l c1484 (iv_c (by decide) : Iv 0 0 0)
                  refine lv_iload_n hx hb dX0_outcome_79 rfl (lv_at hl 4 rfl) ?_
                  refine lv_iload hx hb dX0_outcome_80 (lv_at hl 0 rfl) ?_
                  refine lv_iconst (v := (-1)) hx hb dX0_outcome_82 (by decide) ?_
                  refine lv_ixor hx hb dX0_outcome_83 ?_
                  refine lv_topi (fun z1489 ez1489 => ?_)
                  refine lv_iand hx hb dX0_outcome_84 ?_
                  refine lv_topi (fun z1490 ez1490 => ?_)
                  have h1491 : Iv 0 2147483647 z1490 := iv_andl ez1490 (iv_mono (c := 0) (d := 2147483647) h1472 (by decide) (by decide))
                  refine ro_SX (As := [.int z1490]) (rest := []) S (s_J6_bitCount_0f7a4 l D k a t56 sl  z1490 _  hBt56  ) (gdC t999) t1147 t998 t122 ok_J6_bitCount_0f7a4 ⟨rfl, rfl, Nat.le_of_ble_eq_true rfl, Nat.le_of_ble_eq_true rfl⟩ (pw_S hK hN hP (hD.weaken (fun _ _ _ _ => trivial))) rfl hl.1 rfl (Nat.le_of_ble_eq_true rfl) ⟨Nat.zero_le _, Nat.zero_le _⟩ dX0_outcome_85 (fun r1492 er1492 => ?_)
                  have h1493 : Iv 0 63 r1492 := er1492.1
                  refine lv_iconst (v := 2) hx hb dX0_outcome_88 (by decide) ?_
                  refine lv_irem hx hb dX0_outcome_89 (iv_nz (iv_c (by decide) : Iv 2 2 2) (by decide)) ?_
                  refine lv_topi (fun z1494 ez1494 => ?_)
                  have h1495 : Iv 0 1 z1494 := iv_rem ez1494 h1493 (y := 2) (k := 2) (by decide) (by decide) (by decide) (by decide)
                  refine lv_if_ne (tgt := 97) hx hb dX0_outcome_90 (by decide) (fun c1496 => ?_) (fun c1496 => ?_)
                  · skip
                    have h1497 : Iv 1 1 z1494 := ne_lo h1495 (show ¬ z1494 = 0 from c1496) (by decide) (by decide)
                    refine lv_iconst (v := 0) hx hb dX0_outcome_97 (by decide) ?_
                    refine lv_istore (lv' := [(5, .int 0), (4, .int v4_56), (0, .ref (a 162)), (1, .ref (a 18)), (2, .ref (a 31)), (3, .int p0)]) hx hb dX0_outcome_98 hl (by decide) rfl (fun ls hl => ?_)
                    refine lv_aload_n hx hb dX0_outcome_100 rfl (lv_at hl 2 rfl) ?_
                    refine lv_iload hx hb dX0_outcome_101 (lv_at hl 1 rfl) ?_
                    refine lv_iload hx hb dX0_outcome_103 (lv_at hl 0 rfl) ?_
                    refine ro_V (As := [.int v4_56, .int 0]) (rest := []) S (s_X0_bestPick l D k a t56 sl  v4_56 0 _  hBt56  ) lkX0_40 ok_X0_bestPick ⟨rfl, rfl, Nat.le_of_ble_eq_true rfl, Nat.le_of_ble_eq_true rfl⟩ (pw_V (ci := 0) (q0 := 162) hK hN rfl cw_162 hP (hD.weaken (fun _ _ _ _ => trivial))) rfl hl.1 rfl (Nat.le_of_ble_eq_true rfl) ⟨Nat.zero_le _, Nat.zero_le _⟩ dX0_outcome_105 (fun r1498 er1498 => ?_)
                    have h1499 : Iv (-1) 7 r1498 := er1498.1
                    refine lv_istore (lv' := [(6, .int r1498), (5, .int 0), (4, .int v4_56), (0, .ref (a 162)), (1, .ref (a 18)), (2, .ref (a 31)), (3, .int p0)]) hx hb dX0_outcome_108 hl (by decide) rfl (fun ls hl => ?_)
                    refine lv_aload_n hx hb dX0_outcome_110 rfl (lv_at hl 3 rfl) ?_
                    refine va_get (D := D) (ci := 0) (v := .ref (a 163)) (C := RX0) (T := TX0) (N := 3) hx hb hT in_X0 hown hK hP 162 cw_162 rfl 0 (by decide) (hT _ t441) (fun _ h9 => h9) rfl dX0_outcome_111 ?_
                    refine lv_iload hx hb dX0_outcome_114 (lv_at hl 2 rfl) ?_
                    refine lv_iload hx hb dX0_outcome_116 (lv_at hl 0 rfl) ?_
                    refine lv_iconst (v := (-1)) hx hb dX0_outcome_118 (by decide) ?_
                    refine lv_icmp_ne (tgt := 126) hx hb dX0_outcome_119 (by decide) (fun c1500 => ?_) (fun c1500 => ?_)
                    · skip
                      have h1501 : Iv 0 7 r1498 := ne_lo h1499 (show ¬ r1498 = (-1) from c1500) (by decide) (by decide)
                      refine lv_aload_n hx hb dX0_outcome_126 rfl (lv_at hl 3 rfl) ?_
                      refine lv_iload hx hb dX0_outcome_127 (lv_at hl 2 rfl) ?_
                      refine lv_iload hx hb dX0_outcome_129 (lv_at hl 0 rfl) ?_
                      refine lv_iload hx hb dX0_outcome_131 (lv_at hl 1 rfl) ?_
                      refine ro_V (As := [.int v4_56, .int r1498, .int 0]) (rest := [.int v4_56, .ref (a 163)]) S (s_X0_picked l D k a t56 sl  v4_56 r1498 0 _  hBt56 h1501 ) lkX0_44 ok_X0_picked ⟨rfl, rfl, Nat.le_of_ble_eq_true rfl, Nat.le_of_ble_eq_true rfl⟩ (pw_V (ci := 0) (q0 := 162) hK hN rfl cw_162 hP (hD.weaken (fun _ _ _ _ => trivial))) rfl hl.1 rfl (Nat.le_of_ble_eq_true rfl) ⟨Nat.zero_le _, Nat.zero_le _⟩ dX0_outcome_133 (fun r1502 er1502 => ?_)
                      refine c_ist hx hb hK hP hD hS cw_163 cs_163 (iv_in h1480 (by decide) (by decide)) dX0_outcome_136 (fun s1503 H9 locs9 es1503 hP9 hD9 hS9 => ?_)
                      clear hP hD hS
                      have hS := hS9
                      have hP := hP9
                      have hD := hD9
                      clear hP9 hD9 hS9
                      have hBs1503 : CB s1503 := by rw [es1503]; exact cb_sw hBt56 trivial
                      have hFs1503 : FR [164, 165, 163] st s1503 := fr_sw hFt56 (List.mem_of_getElem? (i := 2) rfl) es1503
                      obtain ⟨z1504, ez1504⟩ : ∃ z9 : Int32, z9 = v4_56 + Int32.ofInt 1 := ⟨_, rfl⟩
                      have h1505 : Iv 2 256 z1504 := iv_inc ez1504 h1480 (by decide) (by decide) (by decide) (by decide) (by decide) (by decide)
                      refine lv_iinc (v := z1504) (lv' := [(4, .int z1504), (6, .int r1498), (5, .int 0), (0, .ref (a 162)), (1, .ref (a 18)), (2, .ref (a 31)), (3, .int p0)]) hx hb dX0_outcome_137 hl (k := 2) rfl ez1504.symm (by decide) rfl (fun ls hl => ?_)
                      refine lv_goto (tgt := 56) hx hb dX0_outcome_140 (by decide) ?_
                      exact ih56 z1504 s1503 _ _ _ (iv_mono (c := 1) (d := 256) h1505 (by decide) (by decide)) hBs1503 (fr_sw gt56 (List.mem_of_getElem? (i := 0) rfl) es1503) hP hD hS (lv_sub hl [0, 3, 4, 5, 6] rfl) (fu_s (lo := 0) (ti_inc ez1504 h1480 (by decide) (by decide) (by decide) (by decide)) (by decide) hm56)
                    · skip
                      have h1506 : Iv (-1) (-1) r1498 := eq_l c1500 (iv_c (by decide) : Iv (-1) (-1) (-1))
                      refine lv_iconst (v := 0) hx hb dX0_outcome_122 (by decide) ?_
                      refine lv_goto (tgt := 136) hx hb dX0_outcome_123 (by decide) ?_
                      refine c_ist hx hb hK hP hD hS cw_163 cs_163 (iv_in h1480 (by decide) (by decide)) dX0_outcome_136 (fun s1507 H9 locs9 es1507 hP9 hD9 hS9 => ?_)
                      clear hP hD hS
                      have hS := hS9
                      have hP := hP9
                      have hD := hD9
                      clear hP9 hD9 hS9
                      have hBs1507 : CB s1507 := by rw [es1507]; exact cb_sw hBt56 trivial
                      have hFs1507 : FR [164, 165, 163] st s1507 := fr_sw hFt56 (List.mem_of_getElem? (i := 2) rfl) es1507
                      obtain ⟨z1508, ez1508⟩ : ∃ z9 : Int32, z9 = v4_56 + Int32.ofInt 1 := ⟨_, rfl⟩
                      have h1509 : Iv 2 256 z1508 := iv_inc ez1508 h1480 (by decide) (by decide) (by decide) (by decide) (by decide) (by decide)
                      refine lv_iinc (v := z1508) (lv' := [(4, .int z1508), (6, .int r1498), (5, .int 0), (0, .ref (a 162)), (1, .ref (a 18)), (2, .ref (a 31)), (3, .int p0)]) hx hb dX0_outcome_137 hl (k := 2) rfl ez1508.symm (by decide) rfl (fun ls hl => ?_)
                      refine lv_goto (tgt := 56) hx hb dX0_outcome_140 (by decide) ?_
                      exact ih56 z1508 s1507 _ _ _ (iv_mono (c := 1) (d := 256) h1509 (by decide) (by decide)) hBs1507 (fr_sw gt56 (List.mem_of_getElem? (i := 0) rfl) es1507) hP hD hS (lv_sub hl [0, 3, 4, 5, 6] rfl) (fu_s (lo := 0) (ti_inc ez1508 h1480 (by decide) (by decide) (by decide) (by decide)) (by decide) hm56)
                  · skip
                    have h1510 : Iv 0 0 z1494 := eq_l c1496 (iv_c (by decide) : Iv 0 0 0)
                    refine lv_iconst (v := 1) hx hb dX0_outcome_93 (by decide) ?_
                    refine lv_goto (tgt := 98) hx hb dX0_outcome_94 (by decide) ?_
                    refine lv_istore (lv' := [(5, .int 1), (4, .int v4_56), (0, .ref (a 162)), (1, .ref (a 18)), (2, .ref (a 31)), (3, .int p0)]) hx hb dX0_outcome_98 hl (by decide) rfl (fun ls hl => ?_)
                    refine lv_aload_n hx hb dX0_outcome_100 rfl (lv_at hl 2 rfl) ?_
                    refine lv_iload hx hb dX0_outcome_101 (lv_at hl 1 rfl) ?_
                    refine lv_iload hx hb dX0_outcome_103 (lv_at hl 0 rfl) ?_
                    refine ro_V (As := [.int v4_56, .int 1]) (rest := []) S (s_X0_bestPick l D k a t56 sl  v4_56 1 _  hBt56  ) lkX0_40 ok_X0_bestPick ⟨rfl, rfl, Nat.le_of_ble_eq_true rfl, Nat.le_of_ble_eq_true rfl⟩ (pw_V (ci := 0) (q0 := 162) hK hN rfl cw_162 hP (hD.weaken (fun _ _ _ _ => trivial))) rfl hl.1 rfl (Nat.le_of_ble_eq_true rfl) ⟨Nat.zero_le _, Nat.zero_le _⟩ dX0_outcome_105 (fun r1511 er1511 => ?_)
                    have h1512 : Iv (-1) 7 r1511 := er1511.1
                    refine lv_istore (lv' := [(6, .int r1511), (5, .int 1), (4, .int v4_56), (0, .ref (a 162)), (1, .ref (a 18)), (2, .ref (a 31)), (3, .int p0)]) hx hb dX0_outcome_108 hl (by decide) rfl (fun ls hl => ?_)
                    refine lv_aload_n hx hb dX0_outcome_110 rfl (lv_at hl 3 rfl) ?_
                    refine va_get (D := D) (ci := 0) (v := .ref (a 163)) (C := RX0) (T := TX0) (N := 3) hx hb hT in_X0 hown hK hP 162 cw_162 rfl 0 (by decide) (hT _ t441) (fun _ h9 => h9) rfl dX0_outcome_111 ?_
                    refine lv_iload hx hb dX0_outcome_114 (lv_at hl 2 rfl) ?_
                    refine lv_iload hx hb dX0_outcome_116 (lv_at hl 0 rfl) ?_
                    refine lv_iconst (v := (-1)) hx hb dX0_outcome_118 (by decide) ?_
                    refine lv_icmp_ne (tgt := 126) hx hb dX0_outcome_119 (by decide) (fun c1513 => ?_) (fun c1513 => ?_)
                    · skip
                      have h1514 : Iv 0 7 r1511 := ne_lo h1512 (show ¬ r1511 = (-1) from c1513) (by decide) (by decide)
                      refine lv_aload_n hx hb dX0_outcome_126 rfl (lv_at hl 3 rfl) ?_
                      refine lv_iload hx hb dX0_outcome_127 (lv_at hl 2 rfl) ?_
                      refine lv_iload hx hb dX0_outcome_129 (lv_at hl 0 rfl) ?_
                      refine lv_iload hx hb dX0_outcome_131 (lv_at hl 1 rfl) ?_
                      refine ro_V (As := [.int v4_56, .int r1511, .int 1]) (rest := [.int v4_56, .ref (a 163)]) S (s_X0_picked l D k a t56 sl  v4_56 r1511 1 _  hBt56 h1514 ) lkX0_44 ok_X0_picked ⟨rfl, rfl, Nat.le_of_ble_eq_true rfl, Nat.le_of_ble_eq_true rfl⟩ (pw_V (ci := 0) (q0 := 162) hK hN rfl cw_162 hP (hD.weaken (fun _ _ _ _ => trivial))) rfl hl.1 rfl (Nat.le_of_ble_eq_true rfl) ⟨Nat.zero_le _, Nat.zero_le _⟩ dX0_outcome_133 (fun r1515 er1515 => ?_)
                      refine c_ist hx hb hK hP hD hS cw_163 cs_163 (iv_in h1480 (by decide) (by decide)) dX0_outcome_136 (fun s1516 H9 locs9 es1516 hP9 hD9 hS9 => ?_)
                      clear hP hD hS
                      have hS := hS9
                      have hP := hP9
                      have hD := hD9
                      clear hP9 hD9 hS9
                      have hBs1516 : CB s1516 := by rw [es1516]; exact cb_sw hBt56 trivial
                      have hFs1516 : FR [164, 165, 163] st s1516 := fr_sw hFt56 (List.mem_of_getElem? (i := 2) rfl) es1516
                      obtain ⟨z1517, ez1517⟩ : ∃ z9 : Int32, z9 = v4_56 + Int32.ofInt 1 := ⟨_, rfl⟩
                      have h1518 : Iv 2 256 z1517 := iv_inc ez1517 h1480 (by decide) (by decide) (by decide) (by decide) (by decide) (by decide)
                      refine lv_iinc (v := z1517) (lv' := [(4, .int z1517), (6, .int r1511), (5, .int 1), (0, .ref (a 162)), (1, .ref (a 18)), (2, .ref (a 31)), (3, .int p0)]) hx hb dX0_outcome_137 hl (k := 2) rfl ez1517.symm (by decide) rfl (fun ls hl => ?_)
                      refine lv_goto (tgt := 56) hx hb dX0_outcome_140 (by decide) ?_
                      exact ih56 z1517 s1516 _ _ _ (iv_mono (c := 1) (d := 256) h1518 (by decide) (by decide)) hBs1516 (fr_sw gt56 (List.mem_of_getElem? (i := 0) rfl) es1516) hP hD hS (lv_sub hl [0, 3, 4, 5, 6] rfl) (fu_s (lo := 0) (ti_inc ez1517 h1480 (by decide) (by decide) (by decide) (by decide)) (by decide) hm56)
                    · skip
                      have h1519 : Iv (-1) (-1) r1511 := eq_l c1513 (iv_c (by decide) : Iv (-1) (-1) (-1))
                      refine lv_iconst (v := 0) hx hb dX0_outcome_122 (by decide) ?_
                      refine lv_goto (tgt := 136) hx hb dX0_outcome_123 (by decide) ?_
                      refine c_ist hx hb hK hP hD hS cw_163 cs_163 (iv_in h1480 (by decide) (by decide)) dX0_outcome_136 (fun s1520 H9 locs9 es1520 hP9 hD9 hS9 => ?_)
                      clear hP hD hS
                      have hS := hS9
                      have hP := hP9
                      have hD := hD9
                      clear hP9 hD9 hS9
                      have hBs1520 : CB s1520 := by rw [es1520]; exact cb_sw hBt56 trivial
                      have hFs1520 : FR [164, 165, 163] st s1520 := fr_sw hFt56 (List.mem_of_getElem? (i := 2) rfl) es1520
                      obtain ⟨z1521, ez1521⟩ : ∃ z9 : Int32, z9 = v4_56 + Int32.ofInt 1 := ⟨_, rfl⟩
                      have h1522 : Iv 2 256 z1521 := iv_inc ez1521 h1480 (by decide) (by decide) (by decide) (by decide) (by decide) (by decide)
                      refine lv_iinc (v := z1521) (lv' := [(4, .int z1521), (6, .int r1511), (5, .int 1), (0, .ref (a 162)), (1, .ref (a 18)), (2, .ref (a 31)), (3, .int p0)]) hx hb dX0_outcome_137 hl (k := 2) rfl ez1521.symm (by decide) rfl (fun ls hl => ?_)
                      refine lv_goto (tgt := 56) hx hb dX0_outcome_140 (by decide) ?_
                      exact ih56 z1521 s1520 _ _ _ (iv_mono (c := 1) (d := 256) h1522 (by decide) (by decide)) hBs1520 (fr_sw gt56 (List.mem_of_getElem? (i := 0) rfl) es1520) hP hD hS (lv_sub hl [0, 3, 4, 5, 6] rfl) (fu_s (lo := 0) (ti_inc ez1521 h1480 (by decide) (by decide) (by decide) (by decide)) (by decide) hm56)
        exact lp56 256 1 s112 _ _ _ (iv_mono (c := 1) (d := 256) (iv_c (by decide) : Iv 1 1 1) (by decide) (by decide)) hBs112 fr_rf hP hD hS (lv_sub hl [0, 1, 2, 3, 4] rfl) (fu_i (iv_mono (c := 1) (d := 256) (iv_c (by decide) : Iv 1 1 1) (by decide) (by decide)) (by decide))
      · skip
        have n1523 : v4_3.toInt < (st 18 4).toInt := (i_nle c110)
        have h1524 : Iv 0 7 v4_3 := lt_l iv4_3 n1523 h109 (by decide)
        have h1525 : Iv 1 8 (st 18 4) := lt_r iv4_3 n1523 h109 (by decide)
        refine lv_aload_n hx hb dX0_outcome_12 rfl (lv_at hl 1 rfl) ?_
        refine va_get (D := D) (ci := 0) (v := .ref (a 164)) (C := RX0) (T := TX0) (N := 3) hx hb hT in_X0 hown hK hP 162 cw_162 rfl 1 (by decide) (hT _ t442) (fun _ h9 => h9) rfl dX0_outcome_13 ?_
        refine lv_iload hx hb dX0_outcome_16 (lv_at hl 0 rfl) ?_
        refine lv_aload_n hx hb dX0_outcome_18 rfl (lv_at hl 3 rfl) ?_
        refine lv_aload_n hx hb dX0_outcome_19 rfl (lv_at hl 2 rfl) ?_
        refine lv_iload hx hb dX0_outcome_20 (lv_at hl 0 rfl) ?_
        refine ro_V (As := [.ref (a 18), .int v4_3]) (rest := [.int v4_3, .ref (a 164)]) S (s_X5_worthOf l D k a t3 sl 31 v4_3 _ (by decide) hBt3 h1524 ) lkX0_27 ok_X5_worthOf ⟨rfl, rfl, Nat.le_of_ble_eq_true rfl, Nat.le_of_ble_eq_true rfl⟩ (pw_V (ci := 5) (q0 := 31) hK hN rfl cw_31 hP (hD.weaken (fun _ _ _ _ => trivial))) rfl hl.1 rfl (Nat.le_of_ble_eq_true rfl) ⟨Nat.zero_le _, Nat.zero_le _⟩ dX0_outcome_22 (fun r1526 er1526 => ?_)
        refine c_ist hx hb hK hP hD hS cw_164 cs_164 (iv_in h1524 (by decide) (by decide)) dX0_outcome_25 (fun s1527 H9 locs9 es1527 hP9 hD9 hS9 => ?_)
        clear hP hD hS
        have hS := hS9
        have hP := hP9
        have hD := hD9
        clear hP9 hD9 hS9
        have hBs1527 : CB s1527 := by rw [es1527]; exact cb_sw hBt3 trivial
        have hFs1527 : FR [164, 165, 163] st s1527 := fr_sw hFt3 (List.mem_of_getElem? (i := 0) rfl) es1527
        refine lv_aload_n hx hb dX0_outcome_26 rfl (lv_at hl 1 rfl) ?_
        refine va_get (D := D) (ci := 0) (v := .ref (a 165)) (C := RX0) (T := TX0) (N := 3) hx hb hT in_X0 hown hK hP 162 cw_162 rfl 2 (by decide) (hT _ t443) (fun _ h9 => h9) rfl dX0_outcome_27 ?_
        refine lv_iload hx hb dX0_outcome_30 (lv_at hl 0 rfl) ?_
        refine lv_aload_n hx hb dX0_outcome_32 rfl (lv_at hl 3 rfl) ?_
        refine va_get (D := D) (ci := 5) (v := .ref (a 33)) (C := RX5) (T := TX5) (N := 5) hx hb hT in_X5 hown hK hP 31 cw_31 rfl 1 (by decide) (hT _ t169) (fun _ h9 => h9) rfl dX0_outcome_33 ?_
        refine lv_iload hx hb dX0_outcome_36 (lv_at hl 0 rfl) ?_
        refine va_iald hx hb hK hP 33 0 cw_33 rfl (iv_in h1524 (by decide) (by decide)) dX0_outcome_38 ?_
        refine lv_topi (fun z1528 ez1528 => ?_)
        refine c_ist hx hb hK hP hD hS cw_165 cs_165 (iv_in h1524 (by decide) (by decide)) dX0_outcome_39 (fun s1529 H9 locs9 es1529 hP9 hD9 hS9 => ?_)
        clear hP hD hS
        have hS := hS9
        have hP := hP9
        have hD := hD9
        clear hP9 hD9 hS9
        have hBs1529 : CB s1529 := by rw [es1529]; exact cb_sw hBs1527 trivial
        have hFs1529 : FR [164, 165, 163] st s1529 := fr_sw hFs1527 (List.mem_of_getElem? (i := 1) rfl) es1529
        obtain ⟨z1530, ez1530⟩ : ∃ z9 : Int32, z9 = v4_3 + Int32.ofInt 1 := ⟨_, rfl⟩
        have h1531 : Iv 1 8 z1530 := iv_inc ez1530 h1524 (by decide) (by decide) (by decide) (by decide) (by decide) (by decide)
        refine lv_iinc (v := z1530) (lv' := [(4, .int z1530), (0, .ref (a 162)), (1, .ref (a 18)), (2, .ref (a 31)), (3, .int p0)]) hx hb dX0_outcome_40 hl (k := 0) rfl ez1530.symm (by decide) rfl (fun ls hl => ?_)
        refine lv_goto (tgt := 3) hx hb dX0_outcome_43 (by decide) ?_
        exact ih3 z1530 s1529 _ _ _ (iv_mono (c := 0) (d := 8) h1531 (by decide) (by decide)) hBs1529 (fr_sw (fr_sw gt3 (List.mem_of_getElem? (i := 0) rfl) es1527) (List.mem_of_getElem? (i := 1) rfl) es1529) hP hD hS (lv_sub hl [0, 1, 2, 3, 4] rfl) (fu_s (lo := 0) (ti_inc ez1530 h1524 (by decide) (by decide) (by decide) (by decide)) (by decide) hm3)
  exact lp3 9 0 st _ _ _ (iv_mono (c := 0) (d := 8) (iv_c (by decide) : Iv 0 0 0) (by decide) (by decide)) hB fr_rf hP hD hS (lv_sub hl [0, 1, 2, 3, 4] rfl) (fu_i (iv_mono (c := 0) (d := 8) (iv_c (by decide) : Iv 0 0 0) (by decide) (by decide)) (by decide))
set_option maxHeartbeats 4000000 in
set_option maxRecDepth 100000 in
theorem s_X0_firstPick (l : Launch) (D : va_G) (k : Nat → ClassId) (a : Nat → Nat) (st : CT) (sl : CL) (p0 : Int32) (sz : Nat) (hB : CB st)  : Met l yX0_firstPick (.code yX0_firstPick cX0_firstPick 4 (some .int) :: TB) (rmw 4 0 0) (va_Pc [.ref (a 162), .ref (a 18), .ref (a 31), .int p0] (PW D k sz (CWS k a st sl))) (QI D (S := CT) (fun r u => CB u ∧ FR [164, 165, 163] st u ∧ (Iv (-1) 7 r ∧ (True))) (fun u => CWS k a u sl) (fun _ => []) (CWS k a st sl) sz) 0 0 (va_A (CWS k a st sl) sz) := by
  refine Met.ofW (cc := cX0_firstPick) (maxL := 4) (ret := (some .int)) (by decide) rfl ?_
  intro p e s m args below meth c s₁ B hml hv
  obtain ⟨rfl, hsz, hP, hK, hD0, hN⟩ := hv
  have hx := B.exec
  have hb := B.bytes
  have hr := B.returns
  have hT : ∀ w9 ∈ TB, w9.before ([.ref (a 162), .ref (a 18), .ref (a 31), .int p0] : List Value).toArray s = true := fun w9 h => atoms_spec (ws := .code yX0_firstPick cX0_firstPick 4 (some .int) :: TB) B.pre w9 (List.mem_cons_of_mem _ h)
  have hown : s.vm.findClass RX0 = some m.cls := findClass_of_methodNamed B.named
  have S : CallFix p m c cX0_firstPick 4 s _ TB RX0 := ⟨hx, hb, hml, hown, hT⟩
  subst hsz
  have hD := hD0.self (sz := s.heap.size)
  generalize hAe : va_A (CWS k a st sl) s.heap.size = A at hD ⊢
  have hA : ∀ q : Nat, s.heap.size ≤ q → A q := fun q h => by rw [← hAe]; exact Or.inr h
  have hS : va_S A s.heap s.heap [] := va_S.rf
  have hl := lv_entry ([.ref (a 162), .ref (a 18), .ref (a 31), .int p0]) (n := 4) (Nat.le_of_ble_eq_true rfl)
  rw [lg_entry_eq]
  generalize (lg_sl ([.ref (a 162), .ref (a 18), .ref (a 31), .int p0]) ++ List.replicate (4 - (lg_sl ([.ref (a 162), .ref (a 18), .ref (a 31), .int p0])).length) Slot.unset).toArray = ls at hl ⊢
  have hl : lv_has ls 4 [(0, .ref (a 162)), (1, .ref (a 18)), (2, .ref (a 31)), (3, .int p0)] := hl
  refine nameQ (fun Q hQ => ?_)
  refine lv_aload_n hx hb dX0_firstPick_0 rfl (lv_at hl 0 rfl) ?_
  refine lv_aload_n hx hb dX0_firstPick_1 rfl (lv_at hl 1 rfl) ?_
  refine lv_aload_n hx hb dX0_firstPick_2 rfl (lv_at hl 2 rfl) ?_
  refine lv_iload_n hx hb dX0_firstPick_3 rfl (lv_at hl 3 rfl) ?_
  refine ca_i hP hD hS hA (fun hDc => run_V (mc := 0) (ms := 0) (As := [.ref (a 18), .ref (a 31), .int p0]) (rest := []) S (s_X0_outcome l D k a st sl  p0 _  hB  ) lkX0_48 ok_X0_outcome ⟨rfl, rfl, Nat.le_of_ble_eq_true rfl, Nat.le_of_ble_eq_true rfl⟩ (pw_V (ci := 0) (q0 := 162) hK hN rfl cw_162 hP hDc) rfl hl.1 rfl (Nat.le_of_ble_eq_true rfl) ⟨Nat.zero_le _, Nat.zero_le _⟩ dX0_firstPick_4) (fun r2 s1 H9 locs9 hs1 hP9 hD9 hS9 => ?_)
  clear hP hD hS
  have hS := hS9
  have hP := hP9
  have hD := hD9
  clear hP9 hD9 hS9
  obtain ⟨hBs1, gs1, fs1⟩ := hs1
  have hFs1 : FR [164, 165, 163] st s1 := fr_ca fr_rf gs1 (sub_1 (List.mem_of_getElem? (i := 0) rfl) (sub_1 (List.mem_of_getElem? (i := 1) rfl) (sub_1 (List.mem_of_getElem? (i := 2) rfl) sub_0)))
  refine lv_pop hx hb dX0_firstPick_7 rfl ?_
  refine lv_aload_n hx hb dX0_firstPick_8 rfl (lv_at hl 0 rfl) ?_
  refine lv_iload_n hx hb dX0_firstPick_9 rfl (lv_at hl 3 rfl) ?_
  refine lv_iconst (v := 1) hx hb dX0_firstPick_10 (by decide) ?_
  refine ro_V (As := [.int p0, .int 1]) (rest := []) S (s_X0_bestPick l D k a s1 sl  p0 1 _  hBs1  ) lkX0_40 ok_X0_bestPick ⟨rfl, rfl, Nat.le_of_ble_eq_true rfl, Nat.le_of_ble_eq_true rfl⟩ (pw_V (ci := 0) (q0 := 162) hK hN rfl cw_162 hP (hD.weaken (fun _ _ _ _ => trivial))) rfl hl.1 rfl (Nat.le_of_ble_eq_true rfl) ⟨Nat.zero_le _, Nat.zero_le _⟩ dX0_firstPick_11 (fun r3 er3 => ?_)
  have h4 : Iv (-1) 7 r3 := er3.1
  rw [hQ]
  exact W.iret (v := r3) hx hb hr (fun t ht hW => ⟨⟨r3, s1, rfl, ⟨hBs1, hFs1, ⟨h4, trivial⟩⟩, by rw [ht]; exact hP, va_K.moved hW.alike (hK.sub (tys' := []) [] rfl), by rw [hAe]; exact hD⟩, by rw [hAe]; exact hS.F ht⟩) hS.2.2 dX0_firstPick_14
