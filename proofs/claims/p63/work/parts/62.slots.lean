set_option maxHeartbeats 4000000 in
set_option maxRecDepth 100000 in
theorem s_X4_isSlot (l : Launch) (D : va_G) (k : Nat → ClassId) (a : Nat → Nat) (st : CT) (sl : CL) (p0 : Int32) (sz : Nat) (hB : CB st)  : Met l yX4_isSlot (.code yX4_isSlot cX4_isSlot 2 (some .boolean) :: TB) (rmk 1) (va_Pc [.ref (a 111), .int p0] (PW D k sz (CWS k a st sl))) (vp_Si (fun r => (r = 1 ∧ Iv 0 3 p0 ∧ (True)) ∨ (r = 0 ∧ (¬ (0 ≤ p0.toInt ∧ p0.toInt ≤ 3))))) 0 0 (fun _ => False) := by
  refine Met.ofW (cc := cX4_isSlot) (maxL := 2) (ret := (some .boolean)) (by decide) rfl ?_
  intro p e s m args below meth c s₁ B hml hv
  obtain ⟨rfl, hsz, hP, hK, hD0, hN⟩ := hv
  have hx := B.exec
  have hb := B.bytes
  have hr := B.returns
  have hT : ∀ w9 ∈ TB, w9.before ([.ref (a 111), .int p0] : List Value).toArray s = true := fun w9 h => atoms_spec (ws := .code yX4_isSlot cX4_isSlot 2 (some .boolean) :: TB) B.pre w9 (List.mem_cons_of_mem _ h)
  have hown : s.vm.findClass RX4 = some m.cls := findClass_of_methodNamed B.named
  have S : CallFix p m c cX4_isSlot 2 s _ TB RX4 := ⟨hx, hb, hml, hown, hT⟩
  subst hsz
  have hl := lv_entry ([.ref (a 111), .int p0]) (n := 2) (Nat.le_of_ble_eq_true rfl)
  rw [lg_entry_eq]
  generalize (lg_sl ([.ref (a 111), .int p0]) ++ List.replicate (2 - (lg_sl ([.ref (a 111), .int p0])).length) Slot.unset).toArray = ls at hl ⊢
  have hl : lv_has ls 2 [(0, .ref (a 111)), (1, .int p0)] := hl
  refine nameQ (fun Q hQ => ?_)
  refine lv_iload_n hx hb dX4_isSlot_0 rfl (lv_at hl 1 rfl) ?_
  refine lv_if_lt (tgt := 13) hx hb dX4_isSlot_1 (by decide) (fun c1 => ?_) (fun c1 => ?_)
  · skip
    have n2 : p0.toInt < (0 : Int32).toInt := (i_lt c1)
    have h3 : Iv (-2147483648) (-1) p0 := lt_l (iv_full p0) n2 (iv_c (by decide) : Iv 0 0 0) (by decide)
    refine lv_iconst (v := 0) hx hb dX4_isSlot_13 (by decide) ?_
    rw [hQ]
    exact W.zret (v := 0) (ty := .boolean) hx hb hr rfl (fun t ht hW => ⟨0, rfl, Or.inr ⟨rfl, (by obtain ⟨y1, y2⟩ := id (h3); omega)⟩, ht⟩) (fun _ h9 => by cases h9) dX4_isSlot_14
  · skip
    have n4 : (0 : Int32).toInt ≤ p0.toInt := (i_nlt c1)
    have h5 : Iv 0 2147483647 p0 := le_r (iv_c (by decide) : Iv 0 0 0) n4 (iv_full p0) (by decide)
    refine lv_iload_n hx hb dX4_isSlot_4 rfl (lv_at hl 1 rfl) ?_
    refine lv_iconst (v := 4) hx hb dX4_isSlot_5 (by decide) ?_
    refine lv_icmp_ge (tgt := 13) hx hb dX4_isSlot_6 (by decide) (fun c6 => ?_) (fun c6 => ?_)
    · skip
      have n7 : (4 : Int32).toInt ≤ p0.toInt := (i_le c6)
      have h8 : Iv 4 2147483647 p0 := le_r (iv_c (by decide) : Iv 4 4 4) n7 h5 (by decide)
      refine lv_iconst (v := 0) hx hb dX4_isSlot_13 (by decide) ?_
      rw [hQ]
      exact W.zret (v := 0) (ty := .boolean) hx hb hr rfl (fun t ht hW => ⟨0, rfl, Or.inr ⟨rfl, (by obtain ⟨y1, y2⟩ := id (h8); omega)⟩, ht⟩) (fun _ h9 => by cases h9) dX4_isSlot_14
    · skip
      have n9 : p0.toInt < (4 : Int32).toInt := (i_nle c6)
      have h10 : Iv 0 3 p0 := lt_l h5 n9 (iv_c (by decide) : Iv 4 4 4) (by decide)
      refine lv_iconst (v := 1) hx hb dX4_isSlot_9 (by decide) ?_
      refine lv_goto (tgt := 14) hx hb dX4_isSlot_10 (by decide) ?_
      rw [hQ]
      exact W.zret (v := 1) (ty := .boolean) hx hb hr rfl (fun t ht hW => ⟨1, rfl, Or.inl ⟨rfl, h10, trivial⟩, ht⟩) (fun _ h9 => by cases h9) dX4_isSlot_14
set_option maxHeartbeats 4000000 in
set_option maxRecDepth 100000 in
theorem s_X4_isWidth (l : Launch) (D : va_G) (k : Nat → ClassId) (a : Nat → Nat) (st : CT) (sl : CL) (p0 : Int32) (sz : Nat) (hB : CB st)  : Met l yX4_isWidth (.code yX4_isWidth cX4_isWidth 1 (some .boolean) :: TB) (rmk 1) (va_Pc [.int p0] (PW D k sz (CWS k a st sl))) (vp_Si (fun r => (r = 1 ∧ Iv 0 3 p0 ∧ (True)) ∨ (r = 0 ∧ (¬ (0 ≤ p0.toInt ∧ p0.toInt ≤ 3))))) 0 0 (fun _ => False) := by
  refine Met.ofW (cc := cX4_isWidth) (maxL := 1) (ret := (some .boolean)) (by decide) rfl ?_
  intro p e s m args below meth c s₁ B hml hv
  obtain ⟨rfl, hsz, hP, hK, hD0, hN⟩ := hv
  have hx := B.exec
  have hb := B.bytes
  have hr := B.returns
  have hT : ∀ w9 ∈ TB, w9.before ([.int p0] : List Value).toArray s = true := fun w9 h => atoms_spec (ws := .code yX4_isWidth cX4_isWidth 1 (some .boolean) :: TB) B.pre w9 (List.mem_cons_of_mem _ h)
  have hown : s.vm.findClass RX4 = some m.cls := findClass_of_methodNamed B.named
  have S : CallFix p m c cX4_isWidth 1 s _ TB RX4 := ⟨hx, hb, hml, hown, hT⟩
  subst hsz
  have hl := lv_entry ([.int p0]) (n := 1) (Nat.le_of_ble_eq_true rfl)
  rw [lg_entry_eq]
  generalize (lg_sl ([.int p0]) ++ List.replicate (1 - (lg_sl ([.int p0])).length) Slot.unset).toArray = ls at hl ⊢
  have hl : lv_has ls 1 [(0, .int p0)] := hl
  refine nameQ (fun Q hQ => ?_)
  refine lv_iload_n hx hb dX4_isWidth_0 rfl (lv_at hl 0 rfl) ?_
  refine lv_if_lt (tgt := 13) hx hb dX4_isWidth_1 (by decide) (fun c1 => ?_) (fun c1 => ?_)
  · skip
    have n2 : p0.toInt < (0 : Int32).toInt := (i_lt c1)
    have h3 : Iv (-2147483648) (-1) p0 := lt_l (iv_full p0) n2 (iv_c (by decide) : Iv 0 0 0) (by decide)
    refine lv_iconst (v := 0) hx hb dX4_isWidth_13 (by decide) ?_
    rw [hQ]
    exact W.zret (v := 0) (ty := .boolean) hx hb hr rfl (fun t ht hW => ⟨0, rfl, Or.inr ⟨rfl, (by obtain ⟨y1, y2⟩ := id (h3); omega)⟩, ht⟩) (fun _ h9 => by cases h9) dX4_isWidth_14
  · skip
    have n4 : (0 : Int32).toInt ≤ p0.toInt := (i_nlt c1)
    have h5 : Iv 0 2147483647 p0 := le_r (iv_c (by decide) : Iv 0 0 0) n4 (iv_full p0) (by decide)
    refine lv_iload_n hx hb dX4_isWidth_4 rfl (lv_at hl 0 rfl) ?_
    refine lv_iconst (v := 4) hx hb dX4_isWidth_5 (by decide) ?_
    refine lv_icmp_ge (tgt := 13) hx hb dX4_isWidth_6 (by decide) (fun c6 => ?_) (fun c6 => ?_)
    · skip
      have n7 : (4 : Int32).toInt ≤ p0.toInt := (i_le c6)
      have h8 : Iv 4 2147483647 p0 := le_r (iv_c (by decide) : Iv 4 4 4) n7 h5 (by decide)
      refine lv_iconst (v := 0) hx hb dX4_isWidth_13 (by decide) ?_
      rw [hQ]
      exact W.zret (v := 0) (ty := .boolean) hx hb hr rfl (fun t ht hW => ⟨0, rfl, Or.inr ⟨rfl, (by obtain ⟨y1, y2⟩ := id (h8); omega)⟩, ht⟩) (fun _ h9 => by cases h9) dX4_isWidth_14
    · skip
      have n9 : p0.toInt < (4 : Int32).toInt := (i_nle c6)
      have h10 : Iv 0 3 p0 := lt_l h5 n9 (iv_c (by decide) : Iv 4 4 4) (by decide)
      refine lv_iconst (v := 1) hx hb dX4_isWidth_9 (by decide) ?_
      refine lv_goto (tgt := 14) hx hb dX4_isWidth_10 (by decide) ?_
      rw [hQ]
      exact W.zret (v := 1) (ty := .boolean) hx hb hr rfl (fun t ht hW => ⟨1, rfl, Or.inl ⟨rfl, h10, trivial⟩, ht⟩) (fun _ h9 => by cases h9) dX4_isWidth_14
set_option maxHeartbeats 4000000 in
set_option maxRecDepth 100000 in
theorem s_X4_hasRow (l : Launch) (D : va_G) (k : Nat → ClassId) (a : Nat → Nat) (st : CT) (sl : CL) (p0 : Int32) (sz : Nat) (hB : CB st) (hp0 : Iv 0 3 p0) : Met l yX4_hasRow (.code yX4_hasRow cX4_hasRow 2 (some .boolean) :: TB) (rmk 1) (va_Pc [.ref (a 111), .int p0] (PW D k sz (CWS k a st sl))) (vp_Si (fun r => (r = 1 ∧ (¬ st 112 p0.toNatClampNeg = -1)) ∨ (r = 0 ∧ (st 112 p0.toNatClampNeg = -1)))) 0 0 (fun _ => False) := by
  refine Met.ofW (cc := cX4_hasRow) (maxL := 2) (ret := (some .boolean)) (by decide) rfl ?_
  intro p e s m args below meth c s₁ B hml hv
  obtain ⟨rfl, hsz, hP, hK, hD0, hN⟩ := hv
  have hx := B.exec
  have hb := B.bytes
  have hr := B.returns
  have hT : ∀ w9 ∈ TB, w9.before ([.ref (a 111), .int p0] : List Value).toArray s = true := fun w9 h => atoms_spec (ws := .code yX4_hasRow cX4_hasRow 2 (some .boolean) :: TB) B.pre w9 (List.mem_cons_of_mem _ h)
  have hown : s.vm.findClass RX4 = some m.cls := findClass_of_methodNamed B.named
  have S : CallFix p m c cX4_hasRow 2 s _ TB RX4 := ⟨hx, hb, hml, hown, hT⟩
  subst hsz
  have hl := lv_entry ([.ref (a 111), .int p0]) (n := 2) (Nat.le_of_ble_eq_true rfl)
  rw [lg_entry_eq]
  generalize (lg_sl ([.ref (a 111), .int p0]) ++ List.replicate (2 - (lg_sl ([.ref (a 111), .int p0])).length) Slot.unset).toArray = ls at hl ⊢
  have hl : lv_has ls 2 [(0, .ref (a 111)), (1, .int p0)] := hl
  refine nameQ (fun Q hQ => ?_)
  refine lv_aload_n hx hb dX4_hasRow_0 rfl (lv_at hl 0 rfl) ?_
  refine va_get (D := D) (ci := 4) (v := .ref (a 112)) (C := RX4) (T := TX4) (N := 3) hx hb hT in_X4 hown hK hP 111 cw_111 rfl 0 (by decide) (hT _ t343) (fun _ h9 => h9) rfl dX4_hasRow_1 ?_
  refine lv_iload_n hx hb dX4_hasRow_4 rfl (lv_at hl 1 rfl) ?_
  refine va_iald hx hb hK hP 112 0 cw_112 rfl (iv_in hp0 (by decide) (by decide)) dX4_hasRow_5 ?_
  refine lv_topi (fun z1 ez1 => ?_)
  refine lv_iconst (v := (-1)) hx hb dX4_hasRow_6 (by decide) ?_
  refine lv_icmp_eq (tgt := 14) hx hb dX4_hasRow_7 (by decide) (fun c2 => ?_) (fun c2 => ?_)
  · skip
    have h3 : Iv (-1) (-1) z1 := eq_l c2 (iv_c (by decide) : Iv (-1) (-1) (-1))
    refine lv_iconst (v := 0) hx hb dX4_hasRow_14 (by decide) ?_
    rw [hQ]
    exact W.zret (v := 0) (ty := .boolean) hx hb hr rfl (fun t ht hW => ⟨0, rfl, Or.inr ⟨rfl, (by rw [← ez1]; exact c2)⟩, ht⟩) (fun _ h9 => by cases h9) dX4_hasRow_15
  · skip
    refine lv_iconst (v := 1) hx hb dX4_hasRow_10 (by decide) ?_
    refine lv_goto (tgt := 15) hx hb dX4_hasRow_11 (by decide) ?_
    rw [hQ]
    exact W.zret (v := 1) (ty := .boolean) hx hb hr rfl (fun t ht hW => ⟨1, rfl, Or.inl ⟨rfl, (by rw [← ez1]; exact c2)⟩, ht⟩) (fun _ h9 => by cases h9) dX4_hasRow_15
set_option maxHeartbeats 4000000 in
set_option maxRecDepth 100000 in
theorem s_X4_rowCount (l : Launch) (D : va_G) (k : Nat → ClassId) (a : Nat → Nat) (st : CT) (sl : CL) (sz : Nat) (hB : CB st)  : Met l yX4_rowCount (.code yX4_rowCount cX4_rowCount 3 (some .int) :: TB) (rmk 2) (va_Pc [.ref (a 111)] (PW D k sz (CWS k a st sl))) (vp_Si (fun r => (True))) 0 0 (fun _ => False) := by
  refine Met.ofW (cc := cX4_rowCount) (maxL := 3) (ret := (some .int)) (by decide) rfl ?_
  intro p e s m args below meth c s₁ B hml hv
  obtain ⟨rfl, hsz, hP, hK, hD0, hN⟩ := hv
  have hx := B.exec
  have hb := B.bytes
  have hr := B.returns
  have hT : ∀ w9 ∈ TB, w9.before ([.ref (a 111)] : List Value).toArray s = true := fun w9 h => atoms_spec (ws := .code yX4_rowCount cX4_rowCount 3 (some .int) :: TB) B.pre w9 (List.mem_cons_of_mem _ h)
  have hown : s.vm.findClass RX4 = some m.cls := findClass_of_methodNamed B.named
  have S : CallFix p m c cX4_rowCount 3 s _ TB RX4 := ⟨hx, hb, hml, hown, hT⟩
  subst hsz
  have hl := lv_entry ([.ref (a 111)]) (n := 3) (Nat.le_of_ble_eq_true rfl)
  rw [lg_entry_eq]
  generalize (lg_sl ([.ref (a 111)]) ++ List.replicate (3 - (lg_sl ([.ref (a 111)])).length) Slot.unset).toArray = ls at hl ⊢
  have hl : lv_has ls 3 [(0, .ref (a 111))] := hl
  refine nameQ (fun Q hQ => ?_)
  refine lv_iconst (v := 0) hx hb dX4_rowCount_0 (by decide) ?_
  refine lv_istore_n (lv' := [(1, .int 0), (0, .ref (a 111))]) hx hb dX4_rowCount_1 rfl hl (by decide) rfl (fun ls hl => ?_)
  refine lv_iconst (v := 0) hx hb dX4_rowCount_2 (by decide) ?_
  refine lv_istore_n (lv' := [(2, .int 0), (1, .int 0), (0, .ref (a 111))]) hx hb dX4_rowCount_3 rfl hl (by decide) rfl (fun ls hl => ?_)
  have lp4 : ∀ (n9_4 : Nat) (v2_4 : Int32) (v1_4 : Int32) (ls : Array Slot), Iv 0 4 v2_4 → lv_has ls 3 [(2, .int v2_4), (1, .int v1_4), (0, .ref (a 111))] → (4 : Int) - v2_4.toInt < (n9_4 : Int) → W p l e (rmk 2) s m ([.ref (a 111)] : List Value).toArray below meth c s.heap [] 0 0 Q (F0 m 4 ls []) := by
    clear hl
    intro n9_4
    induction n9_4 with
    | zero =>
      intro v2_4 v1_4 ls iv2_4 hl hm4
      exact (fu_0 iv2_4 hm4).elim
    | succ n9_4 ih4 =>
      intro v2_4 v1_4 ls iv2_4 hl hm4
      refine lv_iload_n hx hb dX4_rowCount_4 rfl (lv_at hl 0 rfl) ?_
      refine lv_iconst (v := 4) hx hb dX4_rowCount_5 (by decide) ?_
      refine lv_icmp_ge (tgt := 26) hx hb dX4_rowCount_6 (by decide) (fun c603 => ?_) (fun c603 => ?_)
      · skip
        have n604 : (4 : Int32).toInt ≤ v2_4.toInt := (i_le c603)
        have h605 : Iv 4 4 v2_4 := le_r (iv_c (by decide) : Iv 4 4 4) n604 iv2_4 (by decide)
        refine lv_iload_n hx hb dX4_rowCount_26 rfl (lv_at hl 1 rfl) ?_
        rw [hQ]
        exact W.iret (v := v1_4) hx hb hr (fun t ht hW => ⟨v1_4, rfl, trivial, ht⟩) (fun _ h9 => by cases h9) dX4_rowCount_27
      · skip
        have n606 : v2_4.toInt < (4 : Int32).toInt := (i_nle c603)
        have h607 : Iv 0 3 v2_4 := lt_l iv2_4 n606 (iv_c (by decide) : Iv 4 4 4) (by decide)
        refine lv_aload_n hx hb dX4_rowCount_9 rfl (lv_at hl 2 rfl) ?_
        refine lv_iload_n hx hb dX4_rowCount_10 rfl (lv_at hl 0 rfl) ?_
        refine ro_V (As := [.int v2_4]) (rest := []) S (s_X4_hasRow l D k a st sl  v2_4 _  hB h607 ) lkX4_29 ok_X4_hasRow ⟨rfl, rfl, Nat.le_of_ble_eq_true rfl, Nat.le_of_ble_eq_true rfl⟩ (pw_V (ci := 4) (q0 := 111) hK hN rfl cw_111 hP hD0) rfl hl.1 rfl (Nat.le_of_ble_eq_true rfl) ⟨Nat.zero_le _, Nat.zero_le _⟩ dX4_rowCount_11 (fun r608 er608 => ?_)
        rcases er608 with ⟨rfl, g9⟩ | ⟨rfl, g9⟩
        · skip
          have g609 := g9
          have k610 := g609
          refine lv_if_eq (tgt := 20) hx hb dX4_rowCount_14 (by decide) (fun c611 => ?_) (fun c611 => ?_)
          · first | exact absurd c611 (by decide) | exact absurd (by decide) c611
          obtain ⟨z612, ez612⟩ : ∃ z9 : Int32, z9 = v1_4 + Int32.ofInt 1 := ⟨_, rfl⟩
          refine lv_iinc (v := z612) (lv' := [(1, .int z612), (2, .int v2_4), (0, .ref (a 111))]) hx hb dX4_rowCount_17 hl (k := 1) rfl ez612.symm (by decide) rfl (fun ls hl => ?_)
          obtain ⟨z613, ez613⟩ : ∃ z9 : Int32, z9 = v2_4 + Int32.ofInt 1 := ⟨_, rfl⟩
          have h614 : Iv 1 4 z613 := iv_inc ez613 h607 (by decide) (by decide) (by decide) (by decide) (by decide) (by decide)
          refine lv_iinc (v := z613) (lv' := [(2, .int z613), (1, .int z612), (0, .ref (a 111))]) hx hb dX4_rowCount_20 hl (k := 1) rfl ez613.symm (by decide) rfl (fun ls hl => ?_)
          refine lv_goto (tgt := 4) hx hb dX4_rowCount_23 (by decide) ?_
          exact ih4 z613 z612 _ (iv_mono (c := 0) (d := 4) h614 (by decide) (by decide)) (lv_sub hl [0, 1, 2] rfl) (fu_s (lo := 0) (ti_inc ez613 h607 (by decide) (by decide) (by decide) (by decide)) (by decide) hm4)
        · skip
          have g615 := g9
          have k616 := g615
          refine lv_if_eq (tgt := 20) hx hb dX4_rowCount_14 (by decide) (fun c617 => ?_) (fun c617 => ?_)
          rotate_left
          · first | exact absurd c617 (by decide) | exact absurd (by decide) c617
          obtain ⟨z618, ez618⟩ : ∃ z9 : Int32, z9 = v2_4 + Int32.ofInt 1 := ⟨_, rfl⟩
          have h619 : Iv 1 4 z618 := iv_inc ez618 h607 (by decide) (by decide) (by decide) (by decide) (by decide) (by decide)
          refine lv_iinc (v := z618) (lv' := [(2, .int z618), (1, .int v1_4), (0, .ref (a 111))]) hx hb dX4_rowCount_20 hl (k := 0) rfl ez618.symm (by decide) rfl (fun ls hl => ?_)
          refine lv_goto (tgt := 4) hx hb dX4_rowCount_23 (by decide) ?_
          exact ih4 z618 v1_4 _ (iv_mono (c := 0) (d := 4) h619 (by decide) (by decide)) (lv_sub hl [0, 1, 2] rfl) (fu_s (lo := 0) (ti_inc ez618 h607 (by decide) (by decide) (by decide) (by decide)) (by decide) hm4)
  exact lp4 5 0 0 _ (iv_mono (c := 0) (d := 4) (iv_c (by decide) : Iv 0 0 0) (by decide) (by decide)) (lv_sub hl [0, 1, 2] rfl) (fu_i (iv_mono (c := 0) (d := 4) (iv_c (by decide) : Iv 0 0 0) (by decide) (by decide)) (by decide))
set_option maxHeartbeats 4000000 in
set_option maxRecDepth 100000 in
theorem s_X4_cut (l : Launch) (D : va_G) (k : Nat → ClassId) (a : Nat → Nat) (st : CT) (sl : CL) (p0 : Int32) (p1 : Int64) (sz : Nat) (hB : CB st)  : Met l yX4_cut (.code yX4_cut cX4_cut 3 (some .long) :: TB) (rmk 1) (va_Pc [.int p0, .long p1] (PW D k sz (CWS k a st sl))) (vp_Sl (fun r => True)) 0 0 (fun _ => False) := by
  refine Met.ofW (cc := cX4_cut) (maxL := 3) (ret := (some .long)) (by decide) rfl ?_
  intro p e s m args below meth c s₁ B hml hv
  obtain ⟨rfl, hsz, hP, hK, hD0, hN⟩ := hv
  have hx := B.exec
  have hb := B.bytes
  have hr := B.returns
  have hT : ∀ w9 ∈ TB, w9.before ([.int p0, .long p1] : List Value).toArray s = true := fun w9 h => atoms_spec (ws := .code yX4_cut cX4_cut 3 (some .long) :: TB) B.pre w9 (List.mem_cons_of_mem _ h)
  have hown : s.vm.findClass RX4 = some m.cls := findClass_of_methodNamed B.named
  have S : CallFix p m c cX4_cut 3 s _ TB RX4 := ⟨hx, hb, hml, hown, hT⟩
  subst hsz
  have hl := lv_entry ([.int p0, .long p1]) (n := 3) (Nat.le_of_ble_eq_true rfl)
  rw [lg_entry_eq]
  generalize (lg_sl ([.int p0, .long p1]) ++ List.replicate (3 - (lg_sl ([.int p0, .long p1])).length) Slot.unset).toArray = ls at hl ⊢
  have hl : lv_has ls 3 [(0, .int p0), (1, .long p1)] := hl
  refine nameQ (fun Q hQ => ?_)
  refine lv_iload_n hx hb dX4_cut_0 rfl (lv_at hl 0 rfl) ?_
  by_cases c1 : p0.toInt < 0 ∨ 2 < p0.toInt
  · refine lv_tableOut (tgt := 42) hx hb dX4_cut_1 c1 (by decide) ?_
    refine lv_lload_n hx hb dX4_cut_42 rfl (lv_at hl 1 rfl) ?_
    rw [hQ]
    exact W.lret (v := p1) hx hb hr (fun t ht hW => ⟨p1, rfl, trivial, ht⟩) (fun _ h9 => by cases h9) dX4_cut_43
  · skip
    have h2 : Iv 0 2 p0 := ⟨by omega, by omega⟩
    rcases iv_ca3 h2 0 1 2 (by decide) (by decide) (by decide) (by decide) with q9 | q9 | q9
    · have q3 := q9
      refine lv_tableIn (off := 27) (tgt := 28) hx hb dX4_cut_1 (by rw [q9]; decide) (by rw [q9]; decide) (by rw [q9]; decide +kernel) (by decide) ?_
      have h4 : Iv 0 0 p0 := (by rw [q9]; exact iv_c (by decide))
      refine lv_lload_n hx hb dX4_cut_28 rfl (lv_at hl 1 rfl) ?_
      refine lv_l2i hx hb dX4_cut_29 rfl ?_
      refine lv_topi (fun z5 ez5 => ?_)
      refine lv_i2b hx hb dX4_cut_30 rfl ?_
      refine lv_topi (fun z6 ez6 => ?_)
      refine lv_i2l hx hb dX4_cut_31 rfl ?_
      rw [hQ]
      exact W.lret (v := (z6.toInt64)) hx hb hr (fun t ht hW => ⟨(z6.toInt64), rfl, trivial, ht⟩) (fun _ h9 => by cases h9) dX4_cut_32
    · have q7 := q9
      refine lv_tableIn (off := 32) (tgt := 33) hx hb dX4_cut_1 (by rw [q9]; decide) (by rw [q9]; decide) (by rw [q9]; decide +kernel) (by decide) ?_
      have h8 : Iv 1 1 p0 := (by rw [q9]; exact iv_c (by decide))
      refine lv_lload_n hx hb dX4_cut_33 rfl (lv_at hl 1 rfl) ?_
      refine lv_l2i hx hb dX4_cut_34 rfl ?_
      refine lv_topi (fun z9 ez9 => ?_)
      refine lv_i2s hx hb dX4_cut_35 rfl ?_
      refine lv_topi (fun z10 ez10 => ?_)
      refine lv_i2l hx hb dX4_cut_36 rfl ?_
      rw [hQ]
      exact W.lret (v := (z10.toInt64)) hx hb hr (fun t ht hW => ⟨(z10.toInt64), rfl, trivial, ht⟩) (fun _ h9 => by cases h9) dX4_cut_37
    · have q11 := q9
      refine lv_tableIn (off := 37) (tgt := 38) hx hb dX4_cut_1 (by rw [q9]; decide) (by rw [q9]; decide) (by rw [q9]; decide +kernel) (by decide) ?_
      have h12 : Iv 2 2 p0 := (by rw [q9]; exact iv_c (by decide))
      refine lv_lload_n hx hb dX4_cut_38 rfl (lv_at hl 1 rfl) ?_
      refine lv_l2i hx hb dX4_cut_39 rfl ?_
      refine lv_topi (fun z13 ez13 => ?_)
      refine lv_i2l hx hb dX4_cut_40 rfl ?_
      rw [hQ]
      exact W.lret (v := (z13.toInt64)) hx hb hr (fun t ht hW => ⟨(z13.toInt64), rfl, trivial, ht⟩) (fun _ h9 => by cases h9) dX4_cut_41
set_option maxHeartbeats 4000000 in
set_option maxRecDepth 100000 in
theorem s_X4_put (l : Launch) (D : va_G) (k : Nat → ClassId) (a : Nat → Nat) (st : CT) (sl : CL) (p0 : Int32) (p1 : Int32) (p2 : Int64) (sz : Nat) (hB : CB st) (hp0 : Iv 0 3 p0) (hp1 : Iv 0 59 p1) : Met l yX4_put (.code yX4_put cX4_put 5 none :: TB) (rmw 2 0 0) (va_Pc [.ref (a 111), .int p0, .int p1, .long p2] (PW D k sz (CWS k a st sl))) (QV D (S := CT × CL) (fun u => CB u.1 ∧ FR [] st u.1 ∧ (True)) (fun u => CWS k a u.1 u.2) (fun _ => []) (CWS k a st sl) sz) 0 0 (va_A (CWS k a st sl) sz) := by
  refine Met.ofW (cc := cX4_put) (maxL := 5) (ret := none) (by decide) rfl ?_
  intro p e s m args below meth c s₁ B hml hv
  obtain ⟨rfl, hsz, hP, hK, hD0, hN⟩ := hv
  have hx := B.exec
  have hb := B.bytes
  have hr := B.returns
  have hT : ∀ w9 ∈ TB, w9.before ([.ref (a 111), .int p0, .int p1, .long p2] : List Value).toArray s = true := fun w9 h => atoms_spec (ws := .code yX4_put cX4_put 5 none :: TB) B.pre w9 (List.mem_cons_of_mem _ h)
  have hown : s.vm.findClass RX4 = some m.cls := findClass_of_methodNamed B.named
  have S : CallFix p m c cX4_put 5 s _ TB RX4 := ⟨hx, hb, hml, hown, hT⟩
  subst hsz
  have hD := hD0.self (sz := s.heap.size)
  generalize hAe : va_A (CWS k a st sl) s.heap.size = A at hD ⊢
  have hA : ∀ q : Nat, s.heap.size ≤ q → A q := fun q h => by rw [← hAe]; exact Or.inr h
  have hS : va_S A s.heap s.heap [] := va_S.rf
  have hl := lv_entry ([.ref (a 111), .int p0, .int p1, .long p2]) (n := 5) (Nat.le_of_ble_eq_true rfl)
  rw [lg_entry_eq]
  generalize (lg_sl ([.ref (a 111), .int p0, .int p1, .long p2]) ++ List.replicate (5 - (lg_sl ([.ref (a 111), .int p0, .int p1, .long p2])).length) Slot.unset).toArray = ls at hl ⊢
  have hl : lv_has ls 5 [(0, .ref (a 111)), (1, .int p0), (2, .int p1), (3, .long p2)] := hl
  refine nameQ (fun Q hQ => ?_)
  refine lv_aload_n hx hb dX4_put_0 rfl (lv_at hl 0 rfl) ?_
  refine va_get (D := D) (ci := 4) (v := .ref (a 114)) (C := RX4) (T := TX4) (N := 3) hx hb hT in_X4 hown hK hP 111 cw_111 rfl 2 (by decide) (hT _ t347) (fun _ h9 => h9) rfl dX4_put_1 ?_
  refine lv_iload_n hx hb dX4_put_4 rfl (lv_at hl 1 rfl) ?_
  rcases iv_ca4 hp0 0 1 2 3 (by decide) (by decide) (by decide) (by decide) (by decide) with q9 | q9 | q9 | q9
  · refine k_top (y := 0) q9 ?_
    have h1 : Iv 0 0 p0 := (by rw [q9]; exact iv_c (by decide))
    have q2 := q9
    refine a_aldl hx hb hK hP 114 6 cw_114 rfl (by unfold vp_in; decide) dX4_put_5 ?_
    refine W.eq (g2 := F0 m 6 ls [.ref (a 115)]) rfl ?_
    refine lv_iload_n hx hb dX4_put_6 rfl (lv_at hl 2 rfl) ?_
    refine lv_aload_n hx hb dX4_put_7 rfl (lv_at hl 0 rfl) ?_
    refine va_get (D := D) (ci := 4) (v := .ref (a 112)) (C := RX4) (T := TX4) (N := 3) hx hb hT in_X4 hown hK hP 111 cw_111 rfl 0 (by decide) (hT _ t343) (fun _ h9 => h9) rfl dX4_put_8 ?_
    refine lv_iload_n hx hb dX4_put_11 rfl (lv_at hl 1 rfl) ?_
    refine va_iald hx hb hK hP 112 0 cw_112 rfl (iv_in h1 (by decide) (by decide)) dX4_put_12 ?_
    refine lv_topi (fun z3 ez3 => ?_)
    refine lv_lload_n hx hb dX4_put_13 rfl (lv_at hl 3 rfl) ?_
    refine ro_SL (As := [.int z3, .long p2]) (rest := [.int p1, .ref (a 115)]) S (s_X4_cut l D k a st sl  z3 p2 _  hB  ) lkX4_36 ok_X4_cut ⟨rfl, rfl, Nat.le_of_ble_eq_true rfl, Nat.le_of_ble_eq_true rfl⟩ (pw_S hK hN hP (hD.weaken (fun _ _ _ _ => trivial))) rfl hl.1 rfl (Nat.le_of_ble_eq_true rfl) ⟨Nat.zero_le _, Nat.zero_le _⟩ dX4_put_14 (fun r4 er4 => ?_)
    refine c_lst hx hb hK hP hD hS cw_115 cs_115 (iv_in hp1 (by decide) (by decide)) dX4_put_17 (fun l5 H9 locs9 hP9 hD9 hS9 => ?_)
    clear hP hD hS
    have hS := hS9
    have hP := hP9
    have hD := hD9
    clear hP9 hD9 hS9
    rw [hQ]
    exact W.vret hx hb hr (fun t ht hW => ⟨⟨(st, l5), rfl, ⟨hB, fr_rf, trivial⟩, by rw [ht]; exact hP, va_K.moved hW.alike (hK.sub (tys' := []) [] rfl), by rw [hAe]; exact hD⟩, by rw [hAe]; exact hS.F ht⟩) hS.2.2 dX4_put_18
  · refine k_top (y := 1) q9 ?_
    have h6 : Iv 1 1 p0 := (by rw [q9]; exact iv_c (by decide))
    have q7 := q9
    refine a_aldl hx hb hK hP 114 6 cw_114 rfl (by unfold vp_in; decide) dX4_put_5 ?_
    refine W.eq (g2 := F0 m 6 ls [.ref (a 116)]) rfl ?_
    refine lv_iload_n hx hb dX4_put_6 rfl (lv_at hl 2 rfl) ?_
    refine lv_aload_n hx hb dX4_put_7 rfl (lv_at hl 0 rfl) ?_
    refine va_get (D := D) (ci := 4) (v := .ref (a 112)) (C := RX4) (T := TX4) (N := 3) hx hb hT in_X4 hown hK hP 111 cw_111 rfl 0 (by decide) (hT _ t343) (fun _ h9 => h9) rfl dX4_put_8 ?_
    refine lv_iload_n hx hb dX4_put_11 rfl (lv_at hl 1 rfl) ?_
    refine va_iald hx hb hK hP 112 0 cw_112 rfl (iv_in h6 (by decide) (by decide)) dX4_put_12 ?_
    refine lv_topi (fun z8 ez8 => ?_)
    refine lv_lload_n hx hb dX4_put_13 rfl (lv_at hl 3 rfl) ?_
    refine ro_SL (As := [.int z8, .long p2]) (rest := [.int p1, .ref (a 116)]) S (s_X4_cut l D k a st sl  z8 p2 _  hB  ) lkX4_36 ok_X4_cut ⟨rfl, rfl, Nat.le_of_ble_eq_true rfl, Nat.le_of_ble_eq_true rfl⟩ (pw_S hK hN hP (hD.weaken (fun _ _ _ _ => trivial))) rfl hl.1 rfl (Nat.le_of_ble_eq_true rfl) ⟨Nat.zero_le _, Nat.zero_le _⟩ dX4_put_14 (fun r9 er9 => ?_)
    refine c_lst hx hb hK hP hD hS cw_116 cs_116 (iv_in hp1 (by decide) (by decide)) dX4_put_17 (fun l10 H9 locs9 hP9 hD9 hS9 => ?_)
    clear hP hD hS
    have hS := hS9
    have hP := hP9
    have hD := hD9
    clear hP9 hD9 hS9
    rw [hQ]
    exact W.vret hx hb hr (fun t ht hW => ⟨⟨(st, l10), rfl, ⟨hB, fr_rf, trivial⟩, by rw [ht]; exact hP, va_K.moved hW.alike (hK.sub (tys' := []) [] rfl), by rw [hAe]; exact hD⟩, by rw [hAe]; exact hS.F ht⟩) hS.2.2 dX4_put_18
  · refine k_top (y := 2) q9 ?_
    have h11 : Iv 2 2 p0 := (by rw [q9]; exact iv_c (by decide))
    have q12 := q9
    refine a_aldl hx hb hK hP 114 6 cw_114 rfl (by unfold vp_in; decide) dX4_put_5 ?_
    refine W.eq (g2 := F0 m 6 ls [.ref (a 117)]) rfl ?_
    refine lv_iload_n hx hb dX4_put_6 rfl (lv_at hl 2 rfl) ?_
    refine lv_aload_n hx hb dX4_put_7 rfl (lv_at hl 0 rfl) ?_
    refine va_get (D := D) (ci := 4) (v := .ref (a 112)) (C := RX4) (T := TX4) (N := 3) hx hb hT in_X4 hown hK hP 111 cw_111 rfl 0 (by decide) (hT _ t343) (fun _ h9 => h9) rfl dX4_put_8 ?_
    refine lv_iload_n hx hb dX4_put_11 rfl (lv_at hl 1 rfl) ?_
    refine va_iald hx hb hK hP 112 0 cw_112 rfl (iv_in h11 (by decide) (by decide)) dX4_put_12 ?_
    refine lv_topi (fun z13 ez13 => ?_)
    refine lv_lload_n hx hb dX4_put_13 rfl (lv_at hl 3 rfl) ?_
    refine ro_SL (As := [.int z13, .long p2]) (rest := [.int p1, .ref (a 117)]) S (s_X4_cut l D k a st sl  z13 p2 _  hB  ) lkX4_36 ok_X4_cut ⟨rfl, rfl, Nat.le_of_ble_eq_true rfl, Nat.le_of_ble_eq_true rfl⟩ (pw_S hK hN hP (hD.weaken (fun _ _ _ _ => trivial))) rfl hl.1 rfl (Nat.le_of_ble_eq_true rfl) ⟨Nat.zero_le _, Nat.zero_le _⟩ dX4_put_14 (fun r14 er14 => ?_)
    refine c_lst hx hb hK hP hD hS cw_117 cs_117 (iv_in hp1 (by decide) (by decide)) dX4_put_17 (fun l15 H9 locs9 hP9 hD9 hS9 => ?_)
    clear hP hD hS
    have hS := hS9
    have hP := hP9
    have hD := hD9
    clear hP9 hD9 hS9
    rw [hQ]
    exact W.vret hx hb hr (fun t ht hW => ⟨⟨(st, l15), rfl, ⟨hB, fr_rf, trivial⟩, by rw [ht]; exact hP, va_K.moved hW.alike (hK.sub (tys' := []) [] rfl), by rw [hAe]; exact hD⟩, by rw [hAe]; exact hS.F ht⟩) hS.2.2 dX4_put_18
  · refine k_top (y := 3) q9 ?_
    have h16 : Iv 3 3 p0 := (by rw [q9]; exact iv_c (by decide))
    have q17 := q9
    refine a_aldl hx hb hK hP 114 6 cw_114 rfl (by unfold vp_in; decide) dX4_put_5 ?_
    refine W.eq (g2 := F0 m 6 ls [.ref (a 118)]) rfl ?_
    refine lv_iload_n hx hb dX4_put_6 rfl (lv_at hl 2 rfl) ?_
    refine lv_aload_n hx hb dX4_put_7 rfl (lv_at hl 0 rfl) ?_
    refine va_get (D := D) (ci := 4) (v := .ref (a 112)) (C := RX4) (T := TX4) (N := 3) hx hb hT in_X4 hown hK hP 111 cw_111 rfl 0 (by decide) (hT _ t343) (fun _ h9 => h9) rfl dX4_put_8 ?_
    refine lv_iload_n hx hb dX4_put_11 rfl (lv_at hl 1 rfl) ?_
    refine va_iald hx hb hK hP 112 0 cw_112 rfl (iv_in h16 (by decide) (by decide)) dX4_put_12 ?_
    refine lv_topi (fun z18 ez18 => ?_)
    refine lv_lload_n hx hb dX4_put_13 rfl (lv_at hl 3 rfl) ?_
    refine ro_SL (As := [.int z18, .long p2]) (rest := [.int p1, .ref (a 118)]) S (s_X4_cut l D k a st sl  z18 p2 _  hB  ) lkX4_36 ok_X4_cut ⟨rfl, rfl, Nat.le_of_ble_eq_true rfl, Nat.le_of_ble_eq_true rfl⟩ (pw_S hK hN hP (hD.weaken (fun _ _ _ _ => trivial))) rfl hl.1 rfl (Nat.le_of_ble_eq_true rfl) ⟨Nat.zero_le _, Nat.zero_le _⟩ dX4_put_14 (fun r19 er19 => ?_)
    refine c_lst hx hb hK hP hD hS cw_118 cs_118 (iv_in hp1 (by decide) (by decide)) dX4_put_17 (fun l20 H9 locs9 hP9 hD9 hS9 => ?_)
    clear hP hD hS
    have hS := hS9
    have hP := hP9
    have hD := hD9
    clear hP9 hD9 hS9
    rw [hQ]
    exact W.vret hx hb hr (fun t ht hW => ⟨⟨(st, l20), rfl, ⟨hB, fr_rf, trivial⟩, by rw [ht]; exact hP, va_K.moved hW.alike (hK.sub (tys' := []) [] rfl), by rw [hAe]; exact hD⟩, by rw [hAe]; exact hS.F ht⟩) hS.2.2 dX4_put_18
set_option maxHeartbeats 4000000 in
set_option maxRecDepth 100000 in
theorem s_X4_begin (l : Launch) (D : va_G) (k : Nat → ClassId) (a : Nat → Nat) (st : CT) (sl : CL) (p0 : Int32) (p1 : Int32) (p2 : Int32) (sz : Nat) (hB : CB st) (hp0 : Iv 0 3 p0) (hp2 : Iv 0 60 p2) : Met l yX4_begin (.code yX4_begin cX4_begin 4 none :: TB) (rmw 2 0 0) (va_Pc [.ref (a 111), .int p0, .int p1, .int p2] (PW D k sz (CWS k a st sl))) (QV D (S := CT × CL) (fun u => CB u.1 ∧ FR [112, 113] st u.1 ∧ (u.1 112 = upd (st 112) p0.toNatClampNeg p1 ∧ u.1 113 = upd (st 113) p0.toNatClampNeg p2)) (fun u => CWS k a u.1 u.2) (fun _ => []) (CWS k a st sl) sz) 0 0 (va_A (CWS k a st sl) sz) := by
  refine Met.ofW (cc := cX4_begin) (maxL := 4) (ret := none) (by decide) rfl ?_
  intro p e s m args below meth c s₁ B hml hv
  obtain ⟨rfl, hsz, hP, hK, hD0, hN⟩ := hv
  have hx := B.exec
  have hb := B.bytes
  have hr := B.returns
  have hT : ∀ w9 ∈ TB, w9.before ([.ref (a 111), .int p0, .int p1, .int p2] : List Value).toArray s = true := fun w9 h => atoms_spec (ws := .code yX4_begin cX4_begin 4 none :: TB) B.pre w9 (List.mem_cons_of_mem _ h)
  have hown : s.vm.findClass RX4 = some m.cls := findClass_of_methodNamed B.named
  have S : CallFix p m c cX4_begin 4 s _ TB RX4 := ⟨hx, hb, hml, hown, hT⟩
  subst hsz
  have hD := hD0.self (sz := s.heap.size)
  generalize hAe : va_A (CWS k a st sl) s.heap.size = A at hD ⊢
  have hA : ∀ q : Nat, s.heap.size ≤ q → A q := fun q h => by rw [← hAe]; exact Or.inr h
  have hS : va_S A s.heap s.heap [] := va_S.rf
  have hl := lv_entry ([.ref (a 111), .int p0, .int p1, .int p2]) (n := 4) (Nat.le_of_ble_eq_true rfl)
  rw [lg_entry_eq]
  generalize (lg_sl ([.ref (a 111), .int p0, .int p1, .int p2]) ++ List.replicate (4 - (lg_sl ([.ref (a 111), .int p0, .int p1, .int p2])).length) Slot.unset).toArray = ls at hl ⊢
  have hl : lv_has ls 4 [(0, .ref (a 111)), (1, .int p0), (2, .int p1), (3, .int p2)] := hl
  refine nameQ (fun Q hQ => ?_)
  refine lv_aload_n hx hb dX4_begin_0 rfl (lv_at hl 0 rfl) ?_
  refine va_get (D := D) (ci := 4) (v := .ref (a 112)) (C := RX4) (T := TX4) (N := 3) hx hb hT in_X4 hown hK hP 111 cw_111 rfl 0 (by decide) (hT _ t343) (fun _ h9 => h9) rfl dX4_begin_1 ?_
  refine lv_iload_n hx hb dX4_begin_4 rfl (lv_at hl 1 rfl) ?_
  refine lv_iload_n hx hb dX4_begin_5 rfl (lv_at hl 2 rfl) ?_
  refine c_ist hx hb hK hP hD hS cw_112 cs_112 (iv_in hp0 (by decide) (by decide)) dX4_begin_6 (fun s1 H9 locs9 es1 hP9 hD9 hS9 => ?_)
  clear hP hD hS
  have hS := hS9
  have hP := hP9
  have hD := hD9
  clear hP9 hD9 hS9
  have hBs1 : CB s1 := by rw [es1]; exact cb_sw hB trivial
  have hFs1 : FR [112, 113] st s1 := fr_sw fr_rf (List.mem_of_getElem? (i := 0) rfl) es1
  refine lv_aload_n hx hb dX4_begin_7 rfl (lv_at hl 0 rfl) ?_
  refine va_get (D := D) (ci := 4) (v := .ref (a 113)) (C := RX4) (T := TX4) (N := 3) hx hb hT in_X4 hown hK hP 111 cw_111 rfl 1 (by decide) (hT _ t345) (fun _ h9 => h9) rfl dX4_begin_8 ?_
  refine lv_iload_n hx hb dX4_begin_11 rfl (lv_at hl 1 rfl) ?_
  refine lv_iload_n hx hb dX4_begin_12 rfl (lv_at hl 3 rfl) ?_
  refine c_ist hx hb hK hP hD hS cw_113 cs_113 (iv_in hp0 (by decide) (by decide)) dX4_begin_13 (fun s2 H9 locs9 es2 hP9 hD9 hS9 => ?_)
  clear hP hD hS
  have hS := hS9
  have hP := hP9
  have hD := hD9
  clear hP9 hD9 hS9
  have hBs2 : CB s2 := by rw [es2]; exact cb_sw hBs1 (ki_9 (hBs1 113) hp2)
  have hFs2 : FR [112, 113] st s2 := fr_sw hFs1 (List.mem_of_getElem? (i := 1) rfl) es2
  refine lv_aload_n hx hb dX4_begin_14 rfl (lv_at hl 0 rfl) ?_
  refine va_get (D := D) (ci := 4) (v := .ref (a 114)) (C := RX4) (T := TX4) (N := 3) hx hb hT in_X4 hown hK hP 111 cw_111 rfl 2 (by decide) (hT _ t347) (fun _ h9 => h9) rfl dX4_begin_15 ?_
  refine lv_iload_n hx hb dX4_begin_18 rfl (lv_at hl 1 rfl) ?_
  rcases iv_ca4 hp0 0 1 2 3 (by decide) (by decide) (by decide) (by decide) (by decide) with q9 | q9 | q9 | q9
  · refine k_top (y := 0) q9 ?_
    have h3 : Iv 0 0 p0 := (by rw [q9]; exact iv_c (by decide))
    have q4 := q9
    refine a_aldl hx hb hK hP 114 6 cw_114 rfl (by unfold vp_in; decide) dX4_begin_19 ?_
    refine W.eq (g2 := F0 m 20 ls [.ref (a 115)]) rfl ?_
    refine lv_lconst (v := 0) hx hb dX4_begin_20 (by decide) ?_
    refine c_fij hP hD hS hA cw_115 cs_115 (fun hPc hDc => run_S (mc := 0) (ms := 0) (C := RJ7) (As := [.ref (a 115), .long 0]) (rest := []) S (c_fillJ l D k (a 115) 60 _ 0 (by decide) _) (gdC t1236) t1234 t1235 t109 ok_J7_fill_d0a16 ⟨rfl, rfl, Nat.le_of_ble_eq_true rfl, Nat.le_of_ble_eq_true rfl⟩ (pw_S hK hN hPc hDc) rfl hl.1 rfl (Nat.le_of_ble_eq_true rfl) ⟨Nat.zero_le _, Nat.zero_le _⟩ dX4_begin_21) (fun l6 H9 locs9 hP9 hD9 hS9 => ?_)
    clear hP hD hS
    have hS := hS9
    have hP := hP9
    have hD := hD9
    clear hP9 hD9 hS9
    rw [hQ]
    exact W.vret hx hb hr (fun t ht hW => ⟨⟨(s2, l6), rfl, ⟨hBs2, hFs2, ⟨(Eq.trans (sw_at es2 (by decide)) (sw_it es1)), (Eq.trans (sw_it es2) (congrArg (fun f9 => upd f9 (p0).toNatClampNeg p2) (sw_at es1 (by decide))))⟩⟩, by rw [ht]; exact hP, va_K.moved hW.alike (hK.sub (tys' := []) [] rfl), by rw [hAe]; exact hD⟩, by rw [hAe]; exact hS.F ht⟩) hS.2.2 dX4_begin_24
  · refine k_top (y := 1) q9 ?_
    have h7 : Iv 1 1 p0 := (by rw [q9]; exact iv_c (by decide))
    have q8 := q9
    refine a_aldl hx hb hK hP 114 6 cw_114 rfl (by unfold vp_in; decide) dX4_begin_19 ?_
    refine W.eq (g2 := F0 m 20 ls [.ref (a 116)]) rfl ?_
    refine lv_lconst (v := 0) hx hb dX4_begin_20 (by decide) ?_
    refine c_fij hP hD hS hA cw_116 cs_116 (fun hPc hDc => run_S (mc := 0) (ms := 0) (C := RJ7) (As := [.ref (a 116), .long 0]) (rest := []) S (c_fillJ l D k (a 116) 60 _ 0 (by decide) _) (gdC t1236) t1234 t1235 t109 ok_J7_fill_d0a16 ⟨rfl, rfl, Nat.le_of_ble_eq_true rfl, Nat.le_of_ble_eq_true rfl⟩ (pw_S hK hN hPc hDc) rfl hl.1 rfl (Nat.le_of_ble_eq_true rfl) ⟨Nat.zero_le _, Nat.zero_le _⟩ dX4_begin_21) (fun l10 H9 locs9 hP9 hD9 hS9 => ?_)
    clear hP hD hS
    have hS := hS9
    have hP := hP9
    have hD := hD9
    clear hP9 hD9 hS9
    rw [hQ]
    exact W.vret hx hb hr (fun t ht hW => ⟨⟨(s2, l10), rfl, ⟨hBs2, hFs2, ⟨(Eq.trans (sw_at es2 (by decide)) (sw_it es1)), (Eq.trans (sw_it es2) (congrArg (fun f9 => upd f9 (p0).toNatClampNeg p2) (sw_at es1 (by decide))))⟩⟩, by rw [ht]; exact hP, va_K.moved hW.alike (hK.sub (tys' := []) [] rfl), by rw [hAe]; exact hD⟩, by rw [hAe]; exact hS.F ht⟩) hS.2.2 dX4_begin_24
  · refine k_top (y := 2) q9 ?_
    have h11 : Iv 2 2 p0 := (by rw [q9]; exact iv_c (by decide))
    have q12 := q9
    refine a_aldl hx hb hK hP 114 6 cw_114 rfl (by unfold vp_in; decide) dX4_begin_19 ?_
    refine W.eq (g2 := F0 m 20 ls [.ref (a 117)]) rfl ?_
    refine lv_lconst (v := 0) hx hb dX4_begin_20 (by decide) ?_
    refine c_fij hP hD hS hA cw_117 cs_117 (fun hPc hDc => run_S (mc := 0) (ms := 0) (C := RJ7) (As := [.ref (a 117), .long 0]) (rest := []) S (c_fillJ l D k (a 117) 60 _ 0 (by decide) _) (gdC t1236) t1234 t1235 t109 ok_J7_fill_d0a16 ⟨rfl, rfl, Nat.le_of_ble_eq_true rfl, Nat.le_of_ble_eq_true rfl⟩ (pw_S hK hN hPc hDc) rfl hl.1 rfl (Nat.le_of_ble_eq_true rfl) ⟨Nat.zero_le _, Nat.zero_le _⟩ dX4_begin_21) (fun l14 H9 locs9 hP9 hD9 hS9 => ?_)
    clear hP hD hS
    have hS := hS9
    have hP := hP9
    have hD := hD9
    clear hP9 hD9 hS9
    rw [hQ]
    exact W.vret hx hb hr (fun t ht hW => ⟨⟨(s2, l14), rfl, ⟨hBs2, hFs2, ⟨(Eq.trans (sw_at es2 (by decide)) (sw_it es1)), (Eq.trans (sw_it es2) (congrArg (fun f9 => upd f9 (p0).toNatClampNeg p2) (sw_at es1 (by decide))))⟩⟩, by rw [ht]; exact hP, va_K.moved hW.alike (hK.sub (tys' := []) [] rfl), by rw [hAe]; exact hD⟩, by rw [hAe]; exact hS.F ht⟩) hS.2.2 dX4_begin_24
  · refine k_top (y := 3) q9 ?_
    have h15 : Iv 3 3 p0 := (by rw [q9]; exact iv_c (by decide))
    have q16 := q9
    refine a_aldl hx hb hK hP 114 6 cw_114 rfl (by unfold vp_in; decide) dX4_begin_19 ?_
    refine W.eq (g2 := F0 m 20 ls [.ref (a 118)]) rfl ?_
    refine lv_lconst (v := 0) hx hb dX4_begin_20 (by decide) ?_
    refine c_fij hP hD hS hA cw_118 cs_118 (fun hPc hDc => run_S (mc := 0) (ms := 0) (C := RJ7) (As := [.ref (a 118), .long 0]) (rest := []) S (c_fillJ l D k (a 118) 60 _ 0 (by decide) _) (gdC t1236) t1234 t1235 t109 ok_J7_fill_d0a16 ⟨rfl, rfl, Nat.le_of_ble_eq_true rfl, Nat.le_of_ble_eq_true rfl⟩ (pw_S hK hN hPc hDc) rfl hl.1 rfl (Nat.le_of_ble_eq_true rfl) ⟨Nat.zero_le _, Nat.zero_le _⟩ dX4_begin_21) (fun l18 H9 locs9 hP9 hD9 hS9 => ?_)
    clear hP hD hS
    have hS := hS9
    have hP := hP9
    have hD := hD9
    clear hP9 hD9 hS9
    rw [hQ]
    exact W.vret hx hb hr (fun t ht hW => ⟨⟨(s2, l18), rfl, ⟨hBs2, hFs2, ⟨(Eq.trans (sw_at es2 (by decide)) (sw_it es1)), (Eq.trans (sw_it es2) (congrArg (fun f9 => upd f9 (p0).toNatClampNeg p2) (sw_at es1 (by decide))))⟩⟩, by rw [ht]; exact hP, va_K.moved hW.alike (hK.sub (tys' := []) [] rfl), by rw [hAe]; exact hD⟩, by rw [hAe]; exact hS.F ht⟩) hS.2.2 dX4_begin_24
set_option maxHeartbeats 4000000 in
set_option maxRecDepth 100000 in
theorem s_X4_holds (l : Launch) (D : va_G) (k : Nat → ClassId) (a : Nat → Nat) (st : CT) (sl : CL) (p0 : Int32) (p1 : Int32) (p2 : Int32) (sz : Nat) (hB : CB st) (hp0 : Iv 0 3 p0) : Met l yX4_holds (.code yX4_holds cX4_holds 4 (some .boolean) :: TB) (rmk 1) (va_Pc [.ref (a 111), .int p0, .int p1, .int p2] (PW D k sz (CWS k a st sl))) (vp_Si (fun r => (r = 1 ∧ Iv 0 2147483647 p1 ∧ Iv 0 2147483647 p2 ∧ (0 ≤ p1.toInt ∧ 0 ≤ p2.toInt ∧ p1.toInt + p2.toInt ≤ (st 113 p0.toNatClampNeg).toInt)) ∨ (r = 0 ∧ (¬ (0 ≤ p1.toInt ∧ 0 ≤ p2.toInt ∧ p1.toInt + p2.toInt ≤ (st 113 p0.toNatClampNeg).toInt))))) 0 0 (fun _ => False) := by
  refine Met.ofW (cc := cX4_holds) (maxL := 4) (ret := (some .boolean)) (by decide) rfl ?_
  intro p e s m args below meth c s₁ B hml hv
  obtain ⟨rfl, hsz, hP, hK, hD0, hN⟩ := hv
  have hx := B.exec
  have hb := B.bytes
  have hr := B.returns
  have hT : ∀ w9 ∈ TB, w9.before ([.ref (a 111), .int p0, .int p1, .int p2] : List Value).toArray s = true := fun w9 h => atoms_spec (ws := .code yX4_holds cX4_holds 4 (some .boolean) :: TB) B.pre w9 (List.mem_cons_of_mem _ h)
  have hown : s.vm.findClass RX4 = some m.cls := findClass_of_methodNamed B.named
  have S : CallFix p m c cX4_holds 4 s _ TB RX4 := ⟨hx, hb, hml, hown, hT⟩
  subst hsz
  have hl := lv_entry ([.ref (a 111), .int p0, .int p1, .int p2]) (n := 4) (Nat.le_of_ble_eq_true rfl)
  rw [lg_entry_eq]
  generalize (lg_sl ([.ref (a 111), .int p0, .int p1, .int p2]) ++ List.replicate (4 - (lg_sl ([.ref (a 111), .int p0, .int p1, .int p2])).length) Slot.unset).toArray = ls at hl ⊢
  have hl : lv_has ls 4 [(0, .ref (a 111)), (1, .int p0), (2, .int p1), (3, .int p2)] := hl
  refine nameQ (fun Q hQ => ?_)
  refine lv_iload_n hx hb dX4_holds_0 rfl (lv_at hl 2 rfl) ?_
  refine lv_if_lt (tgt := 28) hx hb dX4_holds_1 (by decide) (fun c1 => ?_) (fun c1 => ?_)
  · skip
    have n2 : p1.toInt < (0 : Int32).toInt := (i_lt c1)
    have h3 : Iv (-2147483648) (-1) p1 := lt_l (iv_full p1) n2 (iv_c (by decide) : Iv 0 0 0) (by decide)
    refine lv_iconst (v := 0) hx hb dX4_holds_28 (by decide) ?_
    rw [hQ]
    exact W.zret (v := 0) (ty := .boolean) hx hb hr rfl (fun t ht hW => ⟨0, rfl, Or.inr ⟨rfl, (by obtain ⟨a1, a2⟩ := id (h3); rintro ⟨z1, z2, z3⟩; omega)⟩, ht⟩) (fun _ h9 => by cases h9) dX4_holds_29
  · skip
    have n4 : (0 : Int32).toInt ≤ p1.toInt := (i_nlt c1)
    have h5 : Iv 0 2147483647 p1 := le_r (iv_c (by decide) : Iv 0 0 0) n4 (iv_full p1) (by decide)
    refine lv_iload_n hx hb dX4_holds_4 rfl (lv_at hl 3 rfl) ?_
    refine lv_if_lt (tgt := 28) hx hb dX4_holds_5 (by decide) (fun c6 => ?_) (fun c6 => ?_)
    · skip
      have n7 : p2.toInt < (0 : Int32).toInt := (i_lt c6)
      have h8 : Iv (-2147483648) (-1) p2 := lt_l (iv_full p2) n7 (iv_c (by decide) : Iv 0 0 0) (by decide)
      refine lv_iconst (v := 0) hx hb dX4_holds_28 (by decide) ?_
      rw [hQ]
      exact W.zret (v := 0) (ty := .boolean) hx hb hr rfl (fun t ht hW => ⟨0, rfl, Or.inr ⟨rfl, (by obtain ⟨a1, a2⟩ := id (h5); obtain ⟨b1, b2⟩ := id (h8); rintro ⟨z1, z2, z3⟩; omega)⟩, ht⟩) (fun _ h9 => by cases h9) dX4_holds_29
    · skip
      have n9 : (0 : Int32).toInt ≤ p2.toInt := (i_nlt c6)
      have h10 : Iv 0 2147483647 p2 := le_r (iv_c (by decide) : Iv 0 0 0) n9 (iv_full p2) (by decide)
      refine lv_iload_n hx hb dX4_holds_8 rfl (lv_at hl 2 rfl) ?_
      refine lv_i2l hx hb dX4_holds_9 rfl ?_
      refine lv_iload_n hx hb dX4_holds_10 rfl (lv_at hl 3 rfl) ?_
      refine lv_i2l hx hb dX4_holds_11 rfl ?_
      refine lv_ladd hx hb dX4_holds_12 ?_
      refine lv_topl (fun z11 ez11 => ?_)
      refine lv_aload_n hx hb dX4_holds_13 rfl (lv_at hl 0 rfl) ?_
      refine va_get (D := D) (ci := 4) (v := .ref (a 113)) (C := RX4) (T := TX4) (N := 3) hx hb hT in_X4 hown hK hP 111 cw_111 rfl 1 (by decide) (hT _ t345) (fun _ h9 => h9) rfl dX4_holds_14 ?_
      refine lv_iload_n hx hb dX4_holds_17 rfl (lv_at hl 1 rfl) ?_
      refine va_iald hx hb hK hP 113 0 cw_113 rfl (iv_in hp0 (by decide) (by decide)) dX4_holds_18 ?_
      refine lv_topi (fun z12 ez12 => ?_)
      have h13 : Iv 0 60 z12 := by rw [ez12]; exact (rb_113 hB (vp_in_lt (iv_in hp0 (by decide) (by decide))))
      refine lv_i2l hx hb dX4_holds_19 rfl ?_
      refine W.lcmp hx hb dX4_holds_20 ?_
      refine lv_topi (fun z14 ez14 => ?_)
      refine lv_if_gt (tgt := 28) hx hb dX4_holds_21 (by decide) (fun c15 => ?_) (fun c15 => ?_)
      · skip
        have n16 := lc_gt ez14 c15
        refine lv_iconst (v := 0) hx hb dX4_holds_28 (by decide) ?_
        rw [hQ]
        exact W.zret (v := 0) (ty := .boolean) hx hb hr rfl (fun t ht hW => ⟨0, rfl, Or.inr ⟨rfl, (by obtain ⟨a1, a2⟩ := id (h5); obtain ⟨b1, b2⟩ := id (h10); have c1 := n16; rw [ladd_i ez11, l_ti] at c1; rw [ez12] at c1; rintro ⟨z1, z2, z3⟩; omega)⟩, ht⟩) (fun _ h9 => by cases h9) dX4_holds_29
      · skip
        have n17 := lc_ngt ez14 c15
        refine lv_iconst (v := 1) hx hb dX4_holds_24 (by decide) ?_
        refine lv_goto (tgt := 29) hx hb dX4_holds_25 (by decide) ?_
        rw [hQ]
        exact W.zret (v := 1) (ty := .boolean) hx hb hr rfl (fun t ht hW => ⟨1, rfl, Or.inl ⟨rfl, h5, h10, (by obtain ⟨a1, a2⟩ := id (h5); obtain ⟨b1, b2⟩ := id (h10); have c1 := n17; rw [ladd_i ez11, l_ti] at c1; rw [ez12] at c1; exact ⟨by omega, by omega, by omega⟩)⟩, ht⟩) (fun _ h9 => by cases h9) dX4_holds_29
