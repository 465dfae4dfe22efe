def TP (st : CT) (w p : Int32) : Prop := st 19 w.toNatClampNeg = p ∨ st 20 w.toNatClampNeg = p
set_option maxHeartbeats 4000000 in
set_option maxRecDepth 100000 in
theorem s_X1_isTold (l : Launch) (D : va_G) (k : Nat → ClassId) (a : Nat → Nat) (st : CT) (sl : CL) (sz : Nat) (hB : CB st)  : Met l yX1_isTold (.code yX1_isTold cX1_isTold 1 (some .boolean) :: TB) (rmk 1) (va_Pc [.ref (a 18)] (PW D k sz (CWS k a st sl))) (vp_Si (fun r => (r = 1 ∧ (True)) ∨ (r = 0 ∧ (True)))) 0 0 (fun _ => False) := by
  refine Met.ofW (cc := cX1_isTold) (maxL := 1) (ret := (some .boolean)) (by decide) rfl ?_
  intro p e s m args below meth c s₁ B hml hv
  obtain ⟨rfl, hsz, hP, hK, hD0, hN⟩ := hv
  have hx := B.exec
  have hb := B.bytes
  have hr := B.returns
  have hT : ∀ w9 ∈ TB, w9.before ([.ref (a 18)] : List Value).toArray s = true := fun w9 h => atoms_spec (ws := .code yX1_isTold cX1_isTold 1 (some .boolean) :: TB) B.pre w9 (List.mem_cons_of_mem _ h)
  have hown : s.vm.findClass RX1 = some m.cls := findClass_of_methodNamed B.named
  have S : CallFix p m c cX1_isTold 1 s _ TB RX1 := ⟨hx, hb, hml, hown, hT⟩
  subst hsz
  have hl := lv_entry ([.ref (a 18)]) (n := 1) (Nat.le_of_ble_eq_true rfl)
  rw [lg_entry_eq]
  generalize (lg_sl ([.ref (a 18)]) ++ List.replicate (1 - (lg_sl ([.ref (a 18)])).length) Slot.unset).toArray = ls at hl ⊢
  have hl : lv_has ls 1 [(0, .ref (a 18))] := hl
  refine nameQ (fun Q hQ => ?_)
  refine lv_aload_n hx hb dX1_isTold_0 rfl (lv_at hl 0 rfl) ?_
  refine va_get (D := D) (ci := 1) (v := .int (st 18 0)) (C := RX1) (T := TX1) (N := 14) hx hb hT in_X1 hown hK hP 18 cw_18 rfl 0 (by decide) (hT _ t195) (fun _ h9 => h9) rfl dX1_isTold_1 ?_
  refine lv_if_le (tgt := 11) hx hb dX1_isTold_4 (by decide) (fun c1 => ?_) (fun c1 => ?_)
  · skip
    have n2 : (st 18 0).toInt ≤ (0 : Int32).toInt := (i_le c1)
    have h3 : Iv (-2147483648) 0 (st 18 0) := le_l (iv_full (st 18 0)) n2 (iv_c (by decide) : Iv 0 0 0) (by decide)
    refine lv_iconst (v := 0) hx hb dX1_isTold_11 (by decide) ?_
    rw [hQ]
    exact W.zret (v := 0) (ty := .boolean) hx hb hr rfl (fun t ht hW => ⟨0, rfl, Or.inr ⟨rfl, trivial⟩, ht⟩) (fun _ h9 => by cases h9) dX1_isTold_12
  · skip
    have n4 : (0 : Int32).toInt < (st 18 0).toInt := (i_nle c1)
    have h5 : Iv 1 2147483647 (st 18 0) := lt_r (iv_c (by decide) : Iv 0 0 0) n4 (iv_full (st 18 0)) (by decide)
    refine lv_iconst (v := 1) hx hb dX1_isTold_7 (by decide) ?_
    refine lv_goto (tgt := 12) hx hb dX1_isTold_8 (by decide) ?_
    rw [hQ]
    exact W.zret (v := 1) (ty := .boolean) hx hb hr rfl (fun t ht hW => ⟨1, rfl, Or.inl ⟨rfl, trivial⟩, ht⟩) (fun _ h9 => by cases h9) dX1_isTold_12
set_option maxHeartbeats 4000000 in
set_option maxRecDepth 100000 in
theorem s_X1_isPlace (l : Launch) (D : va_G) (k : Nat → ClassId) (a : Nat → Nat) (st : CT) (sl : CL) (p0 : Int32) (sz : Nat) (hB : CB st)  : Met l yX1_isPlace (.code yX1_isPlace cX1_isPlace 2 (some .boolean) :: TB) (rmk 1) (va_Pc [.ref (a 18), .int p0] (PW D k sz (CWS k a st sl))) (vp_Si (fun r => (r = 1 ∧ Iv 0 5 p0 ∧ (True)) ∨ (r = 0 ∧ (True)))) 0 0 (fun _ => False) := by
  refine Met.ofW (cc := cX1_isPlace) (maxL := 2) (ret := (some .boolean)) (by decide) rfl ?_
  intro p e s m args below meth c s₁ B hml hv
  obtain ⟨rfl, hsz, hP, hK, hD0, hN⟩ := hv
  have hx := B.exec
  have hb := B.bytes
  have hr := B.returns
  have hT : ∀ w9 ∈ TB, w9.before ([.ref (a 18), .int p0] : List Value).toArray s = true := fun w9 h => atoms_spec (ws := .code yX1_isPlace cX1_isPlace 2 (some .boolean) :: TB) B.pre w9 (List.mem_cons_of_mem _ h)
  have hown : s.vm.findClass RX1 = some m.cls := findClass_of_methodNamed B.named
  have S : CallFix p m c cX1_isPlace 2 s _ TB RX1 := ⟨hx, hb, hml, hown, hT⟩
  subst hsz
  have hl := lv_entry ([.ref (a 18), .int p0]) (n := 2) (Nat.le_of_ble_eq_true rfl)
  rw [lg_entry_eq]
  generalize (lg_sl ([.ref (a 18), .int p0]) ++ List.replicate (2 - (lg_sl ([.ref (a 18), .int p0])).length) Slot.unset).toArray = ls at hl ⊢
  have hl : lv_has ls 2 [(0, .ref (a 18)), (1, .int p0)] := hl
  refine nameQ (fun Q hQ => ?_)
  refine lv_iload_n hx hb dX1_isPlace_0 rfl (lv_at hl 1 rfl) ?_
  refine lv_if_lt (tgt := 16) hx hb dX1_isPlace_1 (by decide) (fun c1 => ?_) (fun c1 => ?_)
  · skip
    have n2 : p0.toInt < (0 : Int32).toInt := (i_lt c1)
    have h3 : Iv (-2147483648) (-1) p0 := lt_l (iv_full p0) n2 (iv_c (by decide) : Iv 0 0 0) (by decide)
    refine lv_iconst (v := 0) hx hb dX1_isPlace_16 (by decide) ?_
    rw [hQ]
    exact W.zret (v := 0) (ty := .boolean) hx hb hr rfl (fun t ht hW => ⟨0, rfl, Or.inr ⟨rfl, trivial⟩, ht⟩) (fun _ h9 => by cases h9) dX1_isPlace_17
  · skip
    have n4 : (0 : Int32).toInt ≤ p0.toInt := (i_nlt c1)
    have h5 : Iv 0 2147483647 p0 := le_r (iv_c (by decide) : Iv 0 0 0) n4 (iv_full p0) (by decide)
    refine lv_iload_n hx hb dX1_isPlace_4 rfl (lv_at hl 1 rfl) ?_
    refine lv_aload_n hx hb dX1_isPlace_5 rfl (lv_at hl 0 rfl) ?_
    refine va_get (D := D) (ci := 1) (v := .int (st 18 1)) (C := RX1) (T := TX1) (N := 14) hx hb hT in_X1 hown hK hP 18 cw_18 rfl 1 (by decide) (hT _ t198) (fun _ h9 => h9) rfl dX1_isPlace_6 ?_
    have h6 : Iv 0 6 (st 18 1) := (rb_18_1 hB)
    refine lv_icmp_ge (tgt := 16) hx hb dX1_isPlace_9 (by decide) (fun c7 => ?_) (fun c7 => ?_)
    · skip
      have n8 : (st 18 1).toInt ≤ p0.toInt := (i_le c7)
      refine lv_iconst (v := 0) hx hb dX1_isPlace_16 (by decide) ?_
      rw [hQ]
      exact W.zret (v := 0) (ty := .boolean) hx hb hr rfl (fun t ht hW => ⟨0, rfl, Or.inr ⟨rfl, trivial⟩, ht⟩) (fun _ h9 => by cases h9) dX1_isPlace_17
    · skip
      have n9 : p0.toInt < (st 18 1).toInt := (i_nle c7)
      have h10 : Iv 0 5 p0 := lt_l h5 n9 h6 (by decide)
      have h11 : Iv 1 6 (st 18 1) := lt_r h5 n9 h6 (by decide)
      refine lv_iconst (v := 1) hx hb dX1_isPlace_12 (by decide) ?_
      refine lv_goto (tgt := 17) hx hb dX1_isPlace_13 (by decide) ?_
      rw [hQ]
      exact W.zret (v := 1) (ty := .boolean) hx hb hr rfl (fun t ht hW => ⟨1, rfl, Or.inl ⟨rfl, h10, trivial⟩, ht⟩) (fun _ h9 => by cases h9) dX1_isPlace_17
set_option maxHeartbeats 4000000 in
set_option maxRecDepth 100000 in
theorem s_X1_isRoad (l : Launch) (D : va_G) (k : Nat → ClassId) (a : Nat → Nat) (st : CT) (sl : CL) (p0 : Int32) (sz : Nat) (hB : CB st)  : Met l yX1_isRoad (.code yX1_isRoad cX1_isRoad 2 (some .boolean) :: TB) (rmk 1) (va_Pc [.ref (a 18), .int p0] (PW D k sz (CWS k a st sl))) (vp_Si (fun r => (r = 1 ∧ Iv 0 7 p0 ∧ (True)) ∨ (r = 0 ∧ (True)))) 0 0 (fun _ => False) := by
  refine Met.ofW (cc := cX1_isRoad) (maxL := 2) (ret := (some .boolean)) (by decide) rfl ?_
  intro p e s m args below meth c s₁ B hml hv
  obtain ⟨rfl, hsz, hP, hK, hD0, hN⟩ := hv
  have hx := B.exec
  have hb := B.bytes
  have hr := B.returns
  have hT : ∀ w9 ∈ TB, w9.before ([.ref (a 18), .int p0] : List Value).toArray s = true := fun w9 h => atoms_spec (ws := .code yX1_isRoad cX1_isRoad 2 (some .boolean) :: TB) B.pre w9 (List.mem_cons_of_mem _ h)
  have hown : s.vm.findClass RX1 = some m.cls := findClass_of_methodNamed B.named
  have S : CallFix p m c cX1_isRoad 2 s _ TB RX1 := ⟨hx, hb, hml, hown, hT⟩
  subst hsz
  have hl := lv_entry ([.ref (a 18), .int p0]) (n := 2) (Nat.le_of_ble_eq_true rfl)
  rw [lg_entry_eq]
  generalize (lg_sl ([.ref (a 18), .int p0]) ++ List.replicate (2 - (lg_sl ([.ref (a 18), .int p0])).length) Slot.unset).toArray = ls at hl ⊢
  have hl : lv_has ls 2 [(0, .ref (a 18)), (1, .int p0)] := hl
  refine nameQ (fun Q hQ => ?_)
  refine lv_iload_n hx hb dX1_isRoad_0 rfl (lv_at hl 1 rfl) ?_
  refine lv_if_lt (tgt := 16) hx hb dX1_isRoad_1 (by decide) (fun c1 => ?_) (fun c1 => ?_)
  · skip
    have n2 : p0.toInt < (0 : Int32).toInt := (i_lt c1)
    have h3 : Iv (-2147483648) (-1) p0 := lt_l (iv_full p0) n2 (iv_c (by decide) : Iv 0 0 0) (by decide)
    refine lv_iconst (v := 0) hx hb dX1_isRoad_16 (by decide) ?_
    rw [hQ]
    exact W.zret (v := 0) (ty := .boolean) hx hb hr rfl (fun t ht hW => ⟨0, rfl, Or.inr ⟨rfl, trivial⟩, ht⟩) (fun _ h9 => by cases h9) dX1_isRoad_17
  · skip
    have n4 : (0 : Int32).toInt ≤ p0.toInt := (i_nlt c1)
    have h5 : Iv 0 2147483647 p0 := le_r (iv_c (by decide) : Iv 0 0 0) n4 (iv_full p0) (by decide)
    refine lv_iload_n hx hb dX1_isRoad_4 rfl (lv_at hl 1 rfl) ?_
    refine lv_aload_n hx hb dX1_isRoad_5 rfl (lv_at hl 0 rfl) ?_
    refine va_get (D := D) (ci := 1) (v := .int (st 18 3)) (C := RX1) (T := TX1) (N := 14) hx hb hT in_X1 hown hK hP 18 cw_18 rfl 3 (by decide) (hT _ t207) (fun _ h9 => h9) rfl dX1_isRoad_6 ?_
    have h6 : Iv 0 8 (st 18 3) := (rb_18_3 hB)
    refine lv_icmp_ge (tgt := 16) hx hb dX1_isRoad_9 (by decide) (fun c7 => ?_) (fun c7 => ?_)
    · skip
      have n8 : (st 18 3).toInt ≤ p0.toInt := (i_le c7)
      refine lv_iconst (v := 0) hx hb dX1_isRoad_16 (by decide) ?_
      rw [hQ]
      exact W.zret (v := 0) (ty := .boolean) hx hb hr rfl (fun t ht hW => ⟨0, rfl, Or.inr ⟨rfl, trivial⟩, ht⟩) (fun _ h9 => by cases h9) dX1_isRoad_17
    · skip
      have n9 : p0.toInt < (st 18 3).toInt := (i_nle c7)
      have h10 : Iv 0 7 p0 := lt_l h5 n9 h6 (by decide)
      have h11 : Iv 1 8 (st 18 3) := lt_r h5 n9 h6 (by decide)
      refine lv_iconst (v := 1) hx hb dX1_isRoad_12 (by decide) ?_
      refine lv_goto (tgt := 17) hx hb dX1_isRoad_13 (by decide) ?_
      rw [hQ]
      exact W.zret (v := 1) (ty := .boolean) hx hb hr rfl (fun t ht hW => ⟨1, rfl, Or.inl ⟨rfl, h10, trivial⟩, ht⟩) (fun _ h9 => by cases h9) dX1_isRoad_17
set_option maxHeartbeats 4000000 in
set_option maxRecDepth 100000 in
theorem s_X1_isWheel (l : Launch) (D : va_G) (k : Nat → ClassId) (a : Nat → Nat) (st : CT) (sl : CL) (p0 : Int32) (sz : Nat) (hB : CB st)  : Met l yX1_isWheel (.code yX1_isWheel cX1_isWheel 2 (some .boolean) :: TB) (rmk 1) (va_Pc [.ref (a 18), .int p0] (PW D k sz (CWS k a st sl))) (vp_Si (fun r => (r = 1 ∧ Iv 0 7 p0 ∧ (True)) ∨ (r = 0 ∧ (True)))) 0 0 (fun _ => False) := by
  refine Met.ofW (cc := cX1_isWheel) (maxL := 2) (ret := (some .boolean)) (by decide) rfl ?_
  intro p e s m args below meth c s₁ B hml hv
  obtain ⟨rfl, hsz, hP, hK, hD0, hN⟩ := hv
  have hx := B.exec
  have hb := B.bytes
  have hr := B.returns
  have hT : ∀ w9 ∈ TB, w9.before ([.ref (a 18), .int p0] : List Value).toArray s = true := fun w9 h => atoms_spec (ws := .code yX1_isWheel cX1_isWheel 2 (some .boolean) :: TB) B.pre w9 (List.mem_cons_of_mem _ h)
  have hown : s.vm.findClass RX1 = some m.cls := findClass_of_methodNamed B.named
  have S : CallFix p m c cX1_isWheel 2 s _ TB RX1 := ⟨hx, hb, hml, hown, hT⟩
  subst hsz
  have hl := lv_entry ([.ref (a 18), .int p0]) (n := 2) (Nat.le_of_ble_eq_true rfl)
  rw [lg_entry_eq]
  generalize (lg_sl ([.ref (a 18), .int p0]) ++ List.replicate (2 - (lg_sl ([.ref (a 18), .int p0])).length) Slot.unset).toArray = ls at hl ⊢
  have hl : lv_has ls 2 [(0, .ref (a 18)), (1, .int p0)] := hl
  refine nameQ (fun Q hQ => ?_)
  refine lv_iload_n hx hb dX1_isWheel_0 rfl (lv_at hl 1 rfl) ?_
  refine lv_if_lt (tgt := 16) hx hb dX1_isWheel_1 (by decide) (fun c1 => ?_) (fun c1 => ?_)
  · skip
    have n2 : p0.toInt < (0 : Int32).toInt := (i_lt c1)
    have h3 : Iv (-2147483648) (-1) p0 := lt_l (iv_full p0) n2 (iv_c (by decide) : Iv 0 0 0) (by decide)
    refine lv_iconst (v := 0) hx hb dX1_isWheel_16 (by decide) ?_
    rw [hQ]
    exact W.zret (v := 0) (ty := .boolean) hx hb hr rfl (fun t ht hW => ⟨0, rfl, Or.inr ⟨rfl, trivial⟩, ht⟩) (fun _ h9 => by cases h9) dX1_isWheel_17
  · skip
    have n4 : (0 : Int32).toInt ≤ p0.toInt := (i_nlt c1)
    have h5 : Iv 0 2147483647 p0 := le_r (iv_c (by decide) : Iv 0 0 0) n4 (iv_full p0) (by decide)
    refine lv_iload_n hx hb dX1_isWheel_4 rfl (lv_at hl 1 rfl) ?_
    refine lv_aload_n hx hb dX1_isWheel_5 rfl (lv_at hl 0 rfl) ?_
    refine va_get (D := D) (ci := 1) (v := .int (st 18 4)) (C := RX1) (T := TX1) (N := 14) hx hb hT in_X1 hown hK hP 18 cw_18 rfl 4 (by decide) (hT _ t213) (fun _ h9 => h9) rfl dX1_isWheel_6 ?_
    have h6 : Iv 0 8 (st 18 4) := (rb_18_4 hB)
    refine lv_icmp_ge (tgt := 16) hx hb dX1_isWheel_9 (by decide) (fun c7 => ?_) (fun c7 => ?_)
    · skip
      have n8 : (st 18 4).toInt ≤ p0.toInt := (i_le c7)
      refine lv_iconst (v := 0) hx hb dX1_isWheel_16 (by decide) ?_
      rw [hQ]
      exact W.zret (v := 0) (ty := .boolean) hx hb hr rfl (fun t ht hW => ⟨0, rfl, Or.inr ⟨rfl, trivial⟩, ht⟩) (fun _ h9 => by cases h9) dX1_isWheel_17
    · skip
      have n9 : p0.toInt < (st 18 4).toInt := (i_nle c7)
      have h10 : Iv 0 7 p0 := lt_l h5 n9 h6 (by decide)
      have h11 : Iv 1 8 (st 18 4) := lt_r h5 n9 h6 (by decide)
      refine lv_iconst (v := 1) hx hb dX1_isWheel_12 (by decide) ?_
      refine lv_goto (tgt := 17) hx hb dX1_isWheel_13 (by decide) ?_
      rw [hQ]
      exact W.zret (v := 1) (ty := .boolean) hx hb hr rfl (fun t ht hW => ⟨1, rfl, Or.inl ⟨rfl, h10, trivial⟩, ht⟩) (fun _ h9 => by cases h9) dX1_isWheel_17
set_option maxHeartbeats 4000000 in
set_option maxRecDepth 100000 in
theorem s_X1_isCart (l : Launch) (D : va_G) (k : Nat → ClassId) (a : Nat → Nat) (st : CT) (sl : CL) (p0 : Int32) (sz : Nat) (hB : CB st)  : Met l yX1_isCart (.code yX1_isCart cX1_isCart 2 (some .boolean) :: TB) (rmk 1) (va_Pc [.ref (a 18), .int p0] (PW D k sz (CWS k a st sl))) (vp_Si (fun r => (r = 1 ∧ Iv 0 2 p0 ∧ (True)) ∨ (r = 0 ∧ (True)))) 0 0 (fun _ => False) := by
  refine Met.ofW (cc := cX1_isCart) (maxL := 2) (ret := (some .boolean)) (by decide) rfl ?_
  intro p e s m args below meth c s₁ B hml hv
  obtain ⟨rfl, hsz, hP, hK, hD0, hN⟩ := hv
  have hx := B.exec
  have hb := B.bytes
  have hr := B.returns
  have hT : ∀ w9 ∈ TB, w9.before ([.ref (a 18), .int p0] : List Value).toArray s = true := fun w9 h => atoms_spec (ws := .code yX1_isCart cX1_isCart 2 (some .boolean) :: TB) B.pre w9 (List.mem_cons_of_mem _ h)
  have hown : s.vm.findClass RX1 = some m.cls := findClass_of_methodNamed B.named
  have S : CallFix p m c cX1_isCart 2 s _ TB RX1 := ⟨hx, hb, hml, hown, hT⟩
  subst hsz
  have hl := lv_entry ([.ref (a 18), .int p0]) (n := 2) (Nat.le_of_ble_eq_true rfl)
  rw [lg_entry_eq]
  generalize (lg_sl ([.ref (a 18), .int p0]) ++ List.replicate (2 - (lg_sl ([.ref (a 18), .int p0])).length) Slot.unset).toArray = ls at hl ⊢
  have hl : lv_has ls 2 [(0, .ref (a 18)), (1, .int p0)] := hl
  refine nameQ (fun Q hQ => ?_)
  refine lv_iload_n hx hb dX1_isCart_0 rfl (lv_at hl 1 rfl) ?_
  refine lv_if_lt (tgt := 16) hx hb dX1_isCart_1 (by decide) (fun c1 => ?_) (fun c1 => ?_)
  · skip
    have n2 : p0.toInt < (0 : Int32).toInt := (i_lt c1)
    have h3 : Iv (-2147483648) (-1) p0 := lt_l (iv_full p0) n2 (iv_c (by decide) : Iv 0 0 0) (by decide)
    refine lv_iconst (v := 0) hx hb dX1_isCart_16 (by decide) ?_
    rw [hQ]
    exact W.zret (v := 0) (ty := .boolean) hx hb hr rfl (fun t ht hW => ⟨0, rfl, Or.inr ⟨rfl, trivial⟩, ht⟩) (fun _ h9 => by cases h9) dX1_isCart_17
  · skip
    have n4 : (0 : Int32).toInt ≤ p0.toInt := (i_nlt c1)
    have h5 : Iv 0 2147483647 p0 := le_r (iv_c (by decide) : Iv 0 0 0) n4 (iv_full p0) (by decide)
    refine lv_iload_n hx hb dX1_isCart_4 rfl (lv_at hl 1 rfl) ?_
    refine lv_aload_n hx hb dX1_isCart_5 rfl (lv_at hl 0 rfl) ?_
    refine va_get (D := D) (ci := 1) (v := .int (st 18 5)) (C := RX1) (T := TX1) (N := 14) hx hb hT in_X1 hown hK hP 18 cw_18 rfl 5 (by decide) (hT _ t216) (fun _ h9 => h9) rfl dX1_isCart_6 ?_
    have h6 : Iv 0 3 (st 18 5) := (rb_18_5 hB)
    refine lv_icmp_ge (tgt := 16) hx hb dX1_isCart_9 (by decide) (fun c7 => ?_) (fun c7 => ?_)
    · skip
      have n8 : (st 18 5).toInt ≤ p0.toInt := (i_le c7)
      refine lv_iconst (v := 0) hx hb dX1_isCart_16 (by decide) ?_
      rw [hQ]
      exact W.zret (v := 0) (ty := .boolean) hx hb hr rfl (fun t ht hW => ⟨0, rfl, Or.inr ⟨rfl, trivial⟩, ht⟩) (fun _ h9 => by cases h9) dX1_isCart_17
    · skip
      have n9 : p0.toInt < (st 18 5).toInt := (i_nle c7)
      have h10 : Iv 0 2 p0 := lt_l h5 n9 h6 (by decide)
      have h11 : Iv 1 3 (st 18 5) := lt_r h5 n9 h6 (by decide)
      refine lv_iconst (v := 1) hx hb dX1_isCart_12 (by decide) ?_
      refine lv_goto (tgt := 17) hx hb dX1_isCart_13 (by decide) ?_
      rw [hQ]
      exact W.zret (v := 1) (ty := .boolean) hx hb hr rfl (fun t ht hW => ⟨1, rfl, Or.inl ⟨rfl, h10, trivial⟩, ht⟩) (fun _ h9 => by cases h9) dX1_isCart_17
set_option maxHeartbeats 4000000 in
set_option maxRecDepth 100000 in
theorem s_X1_isErrand (l : Launch) (D : va_G) (k : Nat → ClassId) (a : Nat → Nat) (st : CT) (sl : CL) (p0 : Int32) (sz : Nat) (hB : CB st)  : Met l yX1_isErrand (.code yX1_isErrand cX1_isErrand 2 (some .boolean) :: TB) (rmk 1) (va_Pc [.ref (a 18), .int p0] (PW D k sz (CWS k a st sl))) (vp_Si (fun r => (r = 1 ∧ Iv 0 5 p0 ∧ (True)) ∨ (r = 0 ∧ (True)))) 0 0 (fun _ => False) := by
  refine Met.ofW (cc := cX1_isErrand) (maxL := 2) (ret := (some .boolean)) (by decide) rfl ?_
  intro p e s m args below meth c s₁ B hml hv
  obtain ⟨rfl, hsz, hP, hK, hD0, hN⟩ := hv
  have hx := B.exec
  have hb := B.bytes
  have hr := B.returns
  have hT : ∀ w9 ∈ TB, w9.before ([.ref (a 18), .int p0] : List Value).toArray s = true := fun w9 h => atoms_spec (ws := .code yX1_isErrand cX1_isErrand 2 (some .boolean) :: TB) B.pre w9 (List.mem_cons_of_mem _ h)
  have hown : s.vm.findClass RX1 = some m.cls := findClass_of_methodNamed B.named
  have S : CallFix p m c cX1_isErrand 2 s _ TB RX1 := ⟨hx, hb, hml, hown, hT⟩
  subst hsz
  have hl := lv_entry ([.ref (a 18), .int p0]) (n := 2) (Nat.le_of_ble_eq_true rfl)
  rw [lg_entry_eq]
  generalize (lg_sl ([.ref (a 18), .int p0]) ++ List.replicate (2 - (lg_sl ([.ref (a 18), .int p0])).length) Slot.unset).toArray = ls at hl ⊢
  have hl : lv_has ls 2 [(0, .ref (a 18)), (1, .int p0)] := hl
  refine nameQ (fun Q hQ => ?_)
  refine lv_iload_n hx hb dX1_isErrand_0 rfl (lv_at hl 1 rfl) ?_
  refine lv_if_lt (tgt := 16) hx hb dX1_isErrand_1 (by decide) (fun c1 => ?_) (fun c1 => ?_)
  · skip
    have n2 : p0.toInt < (0 : Int32).toInt := (i_lt c1)
    have h3 : Iv (-2147483648) (-1) p0 := lt_l (iv_full p0) n2 (iv_c (by decide) : Iv 0 0 0) (by decide)
    refine lv_iconst (v := 0) hx hb dX1_isErrand_16 (by decide) ?_
    rw [hQ]
    exact W.zret (v := 0) (ty := .boolean) hx hb hr rfl (fun t ht hW => ⟨0, rfl, Or.inr ⟨rfl, trivial⟩, ht⟩) (fun _ h9 => by cases h9) dX1_isErrand_17
  · skip
    have n4 : (0 : Int32).toInt ≤ p0.toInt := (i_nlt c1)
    have h5 : Iv 0 2147483647 p0 := le_r (iv_c (by decide) : Iv 0 0 0) n4 (iv_full p0) (by decide)
    refine lv_iload_n hx hb dX1_isErrand_4 rfl (lv_at hl 1 rfl) ?_
    refine lv_aload_n hx hb dX1_isErrand_5 rfl (lv_at hl 0 rfl) ?_
    refine va_get (D := D) (ci := 1) (v := .int (st 18 6)) (C := RX1) (T := TX1) (N := 14) hx hb hT in_X1 hown hK hP 18 cw_18 rfl 6 (by decide) (hT _ t219) (fun _ h9 => h9) rfl dX1_isErrand_6 ?_
    have h6 : Iv 0 6 (st 18 6) := (rb_18_6 hB)
    refine lv_icmp_ge (tgt := 16) hx hb dX1_isErrand_9 (by decide) (fun c7 => ?_) (fun c7 => ?_)
    · skip
      have n8 : (st 18 6).toInt ≤ p0.toInt := (i_le c7)
      refine lv_iconst (v := 0) hx hb dX1_isErrand_16 (by decide) ?_
      rw [hQ]
      exact W.zret (v := 0) (ty := .boolean) hx hb hr rfl (fun t ht hW => ⟨0, rfl, Or.inr ⟨rfl, trivial⟩, ht⟩) (fun _ h9 => by cases h9) dX1_isErrand_17
    · skip
      have n9 : p0.toInt < (st 18 6).toInt := (i_nle c7)
      have h10 : Iv 0 5 p0 := lt_l h5 n9 h6 (by decide)
      have h11 : Iv 1 6 (st 18 6) := lt_r h5 n9 h6 (by decide)
      refine lv_iconst (v := 1) hx hb dX1_isErrand_12 (by decide) ?_
      refine lv_goto (tgt := 17) hx hb dX1_isErrand_13 (by decide) ?_
      rw [hQ]
      exact W.zret (v := 1) (ty := .boolean) hx hb hr rfl (fun t ht hW => ⟨1, rfl, Or.inl ⟨rfl, h10, trivial⟩, ht⟩) (fun _ h9 => by cases h9) dX1_isErrand_17
set_option maxHeartbeats 4000000 in
set_option maxRecDepth 100000 in
theorem s_X1_isWheel_d (l : Launch) (D : va_G) (k : Nat → ClassId) (a : Nat → Nat) (st : CT) (sl : CL) (p0 : Int32) (sz : Nat) (hB : CB st)  : Met l yX1_isWheel (.code yX1_isWheel cX1_isWheel 2 (some .boolean) :: TB) (rmk 1) (va_Pc [.ref (a 4), .int p0] (PW D k sz (CWS k a st sl))) (vp_Si (fun r => (r = 1 ∧ Iv 0 7 p0 ∧ (True)) ∨ (r = 0 ∧ (True)))) 0 0 (fun _ => False) := by
  refine Met.ofW (cc := cX1_isWheel) (maxL := 2) (ret := (some .boolean)) (by decide) rfl ?_
  intro p e s m args below meth c s₁ B hml hv
  obtain ⟨rfl, hsz, hP, hK, hD0, hN⟩ := hv
  have hx := B.exec
  have hb := B.bytes
  have hr := B.returns
  have hT : ∀ w9 ∈ TB, w9.before ([.ref (a 4), .int p0] : List Value).toArray s = true := fun w9 h => atoms_spec (ws := .code yX1_isWheel cX1_isWheel 2 (some .boolean) :: TB) B.pre w9 (List.mem_cons_of_mem _ h)
  have hown : s.vm.findClass RX1 = some m.cls := findClass_of_methodNamed B.named
  have S : CallFix p m c cX1_isWheel 2 s _ TB RX1 := ⟨hx, hb, hml, hown, hT⟩
  subst hsz
  have hl := lv_entry ([.ref (a 4), .int p0]) (n := 2) (Nat.le_of_ble_eq_true rfl)
  rw [lg_entry_eq]
  generalize (lg_sl ([.ref (a 4), .int p0]) ++ List.replicate (2 - (lg_sl ([.ref (a 4), .int p0])).length) Slot.unset).toArray = ls at hl ⊢
  have hl : lv_has ls 2 [(0, .ref (a 4)), (1, .int p0)] := hl
  refine nameQ (fun Q hQ => ?_)
  refine lv_iload_n hx hb dX1_isWheel_0 rfl (lv_at hl 1 rfl) ?_
  refine lv_if_lt (tgt := 16) hx hb dX1_isWheel_1 (by decide) (fun c1 => ?_) (fun c1 => ?_)
  · skip
    have n2 : p0.toInt < (0 : Int32).toInt := (i_lt c1)
    have h3 : Iv (-2147483648) (-1) p0 := lt_l (iv_full p0) n2 (iv_c (by decide) : Iv 0 0 0) (by decide)
    refine lv_iconst (v := 0) hx hb dX1_isWheel_16 (by decide) ?_
    rw [hQ]
    exact W.zret (v := 0) (ty := .boolean) hx hb hr rfl (fun t ht hW => ⟨0, rfl, Or.inr ⟨rfl, trivial⟩, ht⟩) (fun _ h9 => by cases h9) dX1_isWheel_17
  · skip
    have n4 : (0 : Int32).toInt ≤ p0.toInt := (i_nlt c1)
    have h5 : Iv 0 2147483647 p0 := le_r (iv_c (by decide) : Iv 0 0 0) n4 (iv_full p0) (by decide)
    refine lv_iload_n hx hb dX1_isWheel_4 rfl (lv_at hl 1 rfl) ?_
    refine lv_aload_n hx hb dX1_isWheel_5 rfl (lv_at hl 0 rfl) ?_
    refine va_get (D := D) (ci := 1) (v := .int (st 4 4)) (C := RX1) (T := TX1) (N := 14) hx hb hT in_X1 hown hK hP 4 cw_4 rfl 4 (by decide) (hT _ t213) (fun _ h9 => h9) rfl dX1_isWheel_6 ?_
    have h6 : Iv 0 8 (st 4 4) := (rb_4_4 hB)
    refine lv_icmp_ge (tgt := 16) hx hb dX1_isWheel_9 (by decide) (fun c7 => ?_) (fun c7 => ?_)
    · skip
      have n8 : (st 4 4).toInt ≤ p0.toInt := (i_le c7)
      refine lv_iconst (v := 0) hx hb dX1_isWheel_16 (by decide) ?_
      rw [hQ]
      exact W.zret (v := 0) (ty := .boolean) hx hb hr rfl (fun t ht hW => ⟨0, rfl, Or.inr ⟨rfl, trivial⟩, ht⟩) (fun _ h9 => by cases h9) dX1_isWheel_17
    · skip
      have n9 : p0.toInt < (st 4 4).toInt := (i_nle c7)
      have h10 : Iv 0 7 p0 := lt_l h5 n9 h6 (by decide)
      have h11 : Iv 1 8 (st 4 4) := lt_r h5 n9 h6 (by decide)
      refine lv_iconst (v := 1) hx hb dX1_isWheel_12 (by decide) ?_
      refine lv_goto (tgt := 17) hx hb dX1_isWheel_13 (by decide) ?_
      rw [hQ]
      exact W.zret (v := 1) (ty := .boolean) hx hb hr rfl (fun t ht hW => ⟨1, rfl, Or.inl ⟨rfl, h10, trivial⟩, ht⟩) (fun _ h9 => by cases h9) dX1_isWheel_17
set_option maxHeartbeats 4000000 in
set_option maxRecDepth 100000 in
theorem s_X1_touches (l : Launch) (D : va_G) (k : Nat → ClassId) (a : Nat → Nat) (st : CT) (sl : CL) (p0 : Int32) (p1 : Int32) (sz : Nat) (hB : CB st)  : Met l yX1_touches (.code yX1_touches cX1_touches 3 (some .boolean) :: TB) (rmk 1) (va_Pc [.ref (a 18), .int p0, .int p1] (PW D k sz (CWS k a st sl))) (vp_Si (fun r => (r = 1 ∧ Iv 0 7 p0 ∧ Iv 0 5 p1 ∧ (p0.toInt < (st 18 3).toInt ∧ TP st p0 p1)) ∨ (r = 0 ∧ (((0 : Int) ≤ p0.toInt → ¬ (p0.toInt < (st 18 3).toInt ∧ TP st p0 p1)))))) 0 0 (fun _ => False) := by
  refine Met.ofW (cc := cX1_touches) (maxL := 3) (ret := (some .boolean)) (by decide) rfl ?_
  intro p e s m args below meth c s₁ B hml hv
  obtain ⟨rfl, hsz, hP, hK, hD0, hN⟩ := hv
  have hx := B.exec
  have hb := B.bytes
  have hr := B.returns
  have hT : ∀ w9 ∈ TB, w9.before ([.ref (a 18), .int p0, .int p1] : List Value).toArray s = true := fun w9 h => atoms_spec (ws := .code yX1_touches cX1_touches 3 (some .boolean) :: TB) B.pre w9 (List.mem_cons_of_mem _ h)
  have hown : s.vm.findClass RX1 = some m.cls := findClass_of_methodNamed B.named
  have S : CallFix p m c cX1_touches 3 s _ TB RX1 := ⟨hx, hb, hml, hown, hT⟩
  subst hsz
  have hl := lv_entry ([.ref (a 18), .int p0, .int p1]) (n := 3) (Nat.le_of_ble_eq_true rfl)
  rw [lg_entry_eq]
  generalize (lg_sl ([.ref (a 18), .int p0, .int p1]) ++ List.replicate (3 - (lg_sl ([.ref (a 18), .int p0, .int p1])).length) Slot.unset).toArray = ls at hl ⊢
  have hl : lv_has ls 3 [(0, .ref (a 18)), (1, .int p0), (2, .int p1)] := hl
  refine nameQ (fun Q hQ => ?_)
  refine lv_iload_n hx hb dX1_touches_0 rfl (lv_at hl 1 rfl) ?_
  refine lv_if_lt (tgt := 36) hx hb dX1_touches_1 (by decide) (fun c1 => ?_) (fun c1 => ?_)
  · skip
    have n2 : p0.toInt < (0 : Int32).toInt := (i_lt c1)
    have h3 : Iv (-2147483648) (-1) p0 := lt_l (iv_full p0) n2 (iv_c (by decide) : Iv 0 0 0) (by decide)
    refine lv_iconst (v := 0) hx hb dX1_touches_36 (by decide) ?_
    rw [hQ]
    exact W.zret (v := 0) (ty := .boolean) hx hb hr rfl (fun t ht hW => ⟨0, rfl, Or.inr ⟨rfl, (fun z9 _ => absurd z9 (Int.not_le.mpr n2))⟩, ht⟩) (fun _ h9 => by cases h9) dX1_touches_37
  · skip
    have n4 : (0 : Int32).toInt ≤ p0.toInt := (i_nlt c1)
    have h5 : Iv 0 2147483647 p0 := le_r (iv_c (by decide) : Iv 0 0 0) n4 (iv_full p0) (by decide)
    refine lv_iload_n hx hb dX1_touches_4 rfl (lv_at hl 1 rfl) ?_
    refine lv_aload_n hx hb dX1_touches_5 rfl (lv_at hl 0 rfl) ?_
    refine va_get (D := D) (ci := 1) (v := .int (st 18 3)) (C := RX1) (T := TX1) (N := 14) hx hb hT in_X1 hown hK hP 18 cw_18 rfl 3 (by decide) (hT _ t207) (fun _ h9 => h9) rfl dX1_touches_6 ?_
    have h6 : Iv 0 8 (st 18 3) := (rb_18_3 hB)
    refine lv_icmp_ge (tgt := 36) hx hb dX1_touches_9 (by decide) (fun c7 => ?_) (fun c7 => ?_)
    · skip
      have n8 : (st 18 3).toInt ≤ p0.toInt := (i_le c7)
      refine lv_iconst (v := 0) hx hb dX1_touches_36 (by decide) ?_
      rw [hQ]
      exact W.zret (v := 0) (ty := .boolean) hx hb hr rfl (fun t ht hW => ⟨0, rfl, Or.inr ⟨rfl, (fun _ z9 => absurd z9.1 (Int.not_lt.mpr n8))⟩, ht⟩) (fun _ h9 => by cases h9) dX1_touches_37
    · skip
      have n9 : p0.toInt < (st 18 3).toInt := (i_nle c7)
      have h10 : Iv 0 7 p0 := lt_l h5 n9 h6 (by decide)
      have h11 : Iv 1 8 (st 18 3) := lt_r h5 n9 h6 (by decide)
      refine lv_aload_n hx hb dX1_touches_12 rfl (lv_at hl 0 rfl) ?_
      refine va_get (D := D) (ci := 1) (v := .ref (a 19)) (C := RX1) (T := TX1) (N := 14) hx hb hT in_X1 hown hK hP 18 cw_18 rfl 7 (by decide) (hT _ t222) (fun _ h9 => h9) rfl dX1_touches_13 ?_
      refine lv_iload_n hx hb dX1_touches_16 rfl (lv_at hl 1 rfl) ?_
      refine va_iald hx hb hK hP 19 0 cw_19 rfl (iv_in h10 (by decide) (by decide)) dX1_touches_17 ?_
      refine lv_topi (fun z12 ez12 => ?_)
      have h13 : Iv 0 5 z12 := by rw [ez12]; exact (rb_19 hB (vp_in_lt (iv_in h10 (by decide) (by decide))))
      refine lv_iload_n hx hb dX1_touches_18 rfl (lv_at hl 2 rfl) ?_
      refine lv_icmp_eq (tgt := 32) hx hb dX1_touches_19 (by decide) (fun c14 => ?_) (fun c14 => ?_)
      · skip
        have h15 : Iv 0 5 p1 := eq_l c14.symm h13
        refine lv_iconst (v := 1) hx hb dX1_touches_32 (by decide) ?_
        refine lv_goto (tgt := 37) hx hb dX1_touches_33 (by decide) ?_
        rw [hQ]
        exact W.zret (v := 1) (ty := .boolean) hx hb hr rfl (fun t ht hW => ⟨1, rfl, Or.inl ⟨rfl, h10, h15, ⟨n9, Or.inl ((ez12).symm.trans c14)⟩⟩, ht⟩) (fun _ h9 => by cases h9) dX1_touches_37
      · skip
        refine lv_aload_n hx hb dX1_touches_22 rfl (lv_at hl 0 rfl) ?_
        refine va_get (D := D) (ci := 1) (v := .ref (a 20)) (C := RX1) (T := TX1) (N := 14) hx hb hT in_X1 hown hK hP 18 cw_18 rfl 8 (by decide) (hT _ t225) (fun _ h9 => h9) rfl dX1_touches_23 ?_
        refine lv_iload_n hx hb dX1_touches_26 rfl (lv_at hl 1 rfl) ?_
        refine va_iald hx hb hK hP 20 0 cw_20 rfl (iv_in h10 (by decide) (by decide)) dX1_touches_27 ?_
        refine lv_topi (fun z16 ez16 => ?_)
        have h17 : Iv 0 5 z16 := by rw [ez16]; exact (rb_20 hB (vp_in_lt (iv_in h10 (by decide) (by decide))))
        refine lv_iload_n hx hb dX1_touches_28 rfl (lv_at hl 2 rfl) ?_
        refine lv_icmp_ne (tgt := 36) hx hb dX1_touches_29 (by decide) (fun c18 => ?_) (fun c18 => ?_)
        · skip
          refine lv_iconst (v := 0) hx hb dX1_touches_36 (by decide) ?_
          rw [hQ]
          exact W.zret (v := 0) (ty := .boolean) hx hb hr rfl (fun t ht hW => ⟨0, rfl, Or.inr ⟨rfl, (fun _ z9 => z9.2.elim (fun w9 => c14 ((ez12).trans w9)) (fun w9 => c18 ((ez16).trans w9)))⟩, ht⟩) (fun _ h9 => by cases h9) dX1_touches_37
        · skip
          have h19 : Iv 0 5 p1 := eq_l c18.symm h17
          refine lv_iconst (v := 1) hx hb dX1_touches_32 (by decide) ?_
          refine lv_goto (tgt := 37) hx hb dX1_touches_33 (by decide) ?_
          rw [hQ]
          exact W.zret (v := 1) (ty := .boolean) hx hb hr rfl (fun t ht hW => ⟨1, rfl, Or.inl ⟨rfl, h10, h19, ⟨n9, Or.inr ((ez16).symm.trans c18)⟩⟩, ht⟩) (fun _ h9 => by cases h9) dX1_touches_37
set_option maxHeartbeats 4000000 in
set_option maxRecDepth 100000 in
theorem s_X1_otherEnd (l : Launch) (D : va_G) (k : Nat → ClassId) (a : Nat → Nat) (st : CT) (sl : CL) (p0 : Int32) (p1 : Int32) (sz : Nat) (hB : CB st) (hp0 : Iv 0 7 p0) : Met l yX1_otherEnd (.code yX1_otherEnd cX1_otherEnd 3 (some .int) :: TB) (rmk 1) (va_Pc [.ref (a 18), .int p0, .int p1] (PW D k sz (CWS k a st sl))) (vp_Si (fun r => Iv 0 5 r ∧ (True))) 0 0 (fun _ => False) := by
  refine Met.ofW (cc := cX1_otherEnd) (maxL := 3) (ret := (some .int)) (by decide) rfl ?_
  intro p e s m args below meth c s₁ B hml hv
  obtain ⟨rfl, hsz, hP, hK, hD0, hN⟩ := hv
  have hx := B.exec
  have hb := B.bytes
  have hr := B.returns
  have hT : ∀ w9 ∈ TB, w9.before ([.ref (a 18), .int p0, .int p1] : List Value).toArray s = true := fun w9 h => atoms_spec (ws := .code yX1_otherEnd cX1_otherEnd 3 (some .int) :: TB) B.pre w9 (List.mem_cons_of_mem _ h)
  have hown : s.vm.findClass RX1 = some m.cls := findClass_of_methodNamed B.named
  have S : CallFix p m c cX1_otherEnd 3 s _ TB RX1 := ⟨hx, hb, hml, hown, hT⟩
  subst hsz
  have hl := lv_entry ([.ref (a 18), .int p0, .int p1]) (n := 3) (Nat.le_of_ble_eq_true rfl)
  rw [lg_entry_eq]
  generalize (lg_sl ([.ref (a 18), .int p0, .int p1]) ++ List.replicate (3 - (lg_sl ([.ref (a 18), .int p0, .int p1])).length) Slot.unset).toArray = ls at hl ⊢
  have hl : lv_has ls 3 [(0, .ref (a 18)), (1, .int p0), (2, .int p1)] := hl
  refine nameQ (fun Q hQ => ?_)
  refine lv_aload_n hx hb dX1_otherEnd_0 rfl (lv_at hl 0 rfl) ?_
  refine va_get (D := D) (ci := 1) (v := .ref (a 19)) (C := RX1) (T := TX1) (N := 14) hx hb hT in_X1 hown hK hP 18 cw_18 rfl 7 (by decide) (hT _ t222) (fun _ h9 => h9) rfl dX1_otherEnd_1 ?_
  refine lv_iload_n hx hb dX1_otherEnd_4 rfl (lv_at hl 1 rfl) ?_
  refine va_iald hx hb hK hP 19 0 cw_19 rfl (iv_in hp0 (by decide) (by decide)) dX1_otherEnd_5 ?_
  refine lv_topi (fun z1 ez1 => ?_)
  have h2 : Iv 0 5 z1 := by rw [ez1]; exact (rb_19 hB (vp_in_lt (iv_in hp0 (by decide) (by decide))))
  refine lv_iload_n hx hb dX1_otherEnd_6 rfl (lv_at hl 2 rfl) ?_
  refine lv_icmp_ne (tgt := 19) hx hb dX1_otherEnd_7 (by decide) (fun c3 => ?_) (fun c3 => ?_)
  · skip
    refine lv_aload_n hx hb dX1_otherEnd_19 rfl (lv_at hl 0 rfl) ?_
    refine va_get (D := D) (ci := 1) (v := .ref (a 19)) (C := RX1) (T := TX1) (N := 14) hx hb hT in_X1 hown hK hP 18 cw_18 rfl 7 (by decide) (hT _ t222) (fun _ h9 => h9) rfl dX1_otherEnd_20 ?_
    refine lv_iload_n hx hb dX1_otherEnd_23 rfl (lv_at hl 1 rfl) ?_
    refine va_iald hx hb hK hP 19 0 cw_19 rfl (iv_in hp0 (by decide) (by decide)) dX1_otherEnd_24 ?_
    refine lv_topi (fun z4 ez4 => ?_)
    have h5 : Iv 0 5 z4 := by rw [ez4]; exact (rb_19 hB (vp_in_lt (iv_in hp0 (by decide) (by decide))))
    rw [hQ]
    exact W.iret (v := z4) hx hb hr (fun t ht hW => ⟨z4, rfl, ⟨h5, trivial⟩, ht⟩) (fun _ h9 => by cases h9) dX1_otherEnd_25
  · skip
    have h6 : Iv 0 5 p1 := eq_l c3.symm h2
    refine lv_aload_n hx hb dX1_otherEnd_10 rfl (lv_at hl 0 rfl) ?_
    refine va_get (D := D) (ci := 1) (v := .ref (a 20)) (C := RX1) (T := TX1) (N := 14) hx hb hT in_X1 hown hK hP 18 cw_18 rfl 8 (by decide) (hT _ t225) (fun _ h9 => h9) rfl dX1_otherEnd_11 ?_
    refine lv_iload_n hx hb dX1_otherEnd_14 rfl (lv_at hl 1 rfl) ?_
    refine va_iald hx hb hK hP 20 0 cw_20 rfl (iv_in hp0 (by decide) (by decide)) dX1_otherEnd_15 ?_
    refine lv_topi (fun z7 ez7 => ?_)
    have h8 : Iv 0 5 z7 := by rw [ez7]; exact (rb_20 hB (vp_in_lt (iv_in hp0 (by decide) (by decide))))
    refine lv_goto (tgt := 25) hx hb dX1_otherEnd_16 (by decide) ?_
    rw [hQ]
    exact W.iret (v := z7) hx hb hr (fun t ht hW => ⟨z7, rfl, ⟨h8, trivial⟩, ht⟩) (fun _ h9 => by cases h9) dX1_otherEnd_25
set_option maxHeartbeats 4000000 in
set_option maxRecDepth 100000 in
theorem s_X1_roadsAt (l : Launch) (D : va_G) (k : Nat → ClassId) (a : Nat → Nat) (st : CT) (sl : CL) (p0 : Int32) (sz : Nat) (hB : CB st)  : Met l yX1_roadsAt (.code yX1_roadsAt cX1_roadsAt 4 (some .int) :: TB) (rmk 2) (va_Pc [.ref (a 18), .int p0] (PW D k sz (CWS k a st sl))) (vp_Si (fun r => Iv 0 255 r ∧ (True))) 0 0 (fun _ => False) := by
  refine Met.ofW (cc := cX1_roadsAt) (maxL := 4) (ret := (some .int)) (by decide) rfl ?_
  intro p e s m args below meth c s₁ B hml hv
  obtain ⟨rfl, hsz, hP, hK, hD0, hN⟩ := hv
  have hx := B.exec
  have hb := B.bytes
  have hr := B.returns
  have hT : ∀ w9 ∈ TB, w9.before ([.ref (a 18), .int p0] : List Value).toArray s = true := fun w9 h => atoms_spec (ws := .code yX1_roadsAt cX1_roadsAt 4 (some .int) :: TB) B.pre w9 (List.mem_cons_of_mem _ h)
  have hown : s.vm.findClass RX1 = some m.cls := findClass_of_methodNamed B.named
  have S : CallFix p m c cX1_roadsAt 4 s _ TB RX1 := ⟨hx, hb, hml, hown, hT⟩
  subst hsz
  have hl := lv_entry ([.ref (a 18), .int p0]) (n := 4) (Nat.le_of_ble_eq_true rfl)
  rw [lg_entry_eq]
  generalize (lg_sl ([.ref (a 18), .int p0]) ++ List.replicate (4 - (lg_sl ([.ref (a 18), .int p0])).length) Slot.unset).toArray = ls at hl ⊢
  have hl : lv_has ls 4 [(0, .ref (a 18)), (1, .int p0)] := hl
  refine nameQ (fun Q hQ => ?_)
  refine lv_iconst (v := 0) hx hb dX1_roadsAt_0 (by decide) ?_
  refine lv_istore_n (lv' := [(2, .int 0), (0, .ref (a 18)), (1, .int p0)]) hx hb dX1_roadsAt_1 rfl hl (by decide) rfl (fun ls hl => ?_)
  refine lv_iconst (v := 0) hx hb dX1_roadsAt_2 (by decide) ?_
  refine lv_istore_n (lv' := [(3, .int 0), (2, .int 0), (0, .ref (a 18)), (1, .int p0)]) hx hb dX1_roadsAt_3 rfl hl (by decide) rfl (fun ls hl => ?_)
  have lp4 : ∀ (n9_4 : Nat) (v3_4 : Int32) (v2_4 : Int32) (ls : Array Slot), Iv 0 8 v3_4 → Iv 0 255 v2_4 → lv_has ls 4 [(3, .int v3_4), (2, .int v2_4), (0, .ref (a 18)), (1, .int p0)] → (8 : Int) - v3_4.toInt < (n9_4 : Int) → W p l e (rmk 2) s m ([.ref (a 18), .int p0] : List Value).toArray below meth c s.heap [] 0 0 Q (F0 m 4 ls []) := by
    clear hl
    intro n9_4
    induction n9_4 with
    | zero =>
      intro v3_4 v2_4 ls iv3_4 iv2_4 hl hm4
      exact (fu_0 iv3_4 hm4).elim
    | succ n9_4 ih4 =>
      intro v3_4 v2_4 ls iv3_4 iv2_4 hl hm4
      refine lv_iload_n hx hb dX1_roadsAt_4 rfl (lv_at hl 0 rfl) ?_
      refine lv_aload_n hx hb dX1_roadsAt_5 rfl (lv_at hl 2 rfl) ?_
      refine va_get (D := D) (ci := 1) (v := .int (st 18 3)) (C := RX1) (T := TX1) (N := 14) hx hb hT in_X1 hown hK hP 18 cw_18 rfl 3 (by decide) (hT _ t207) (fun _ h9 => h9) rfl dX1_roadsAt_6 ?_
      have h199 : Iv 0 8 (st 18 3) := (rb_18_3 hB)
      refine lv_icmp_ge (tgt := 33) hx hb dX1_roadsAt_9 (by decide) (fun c200 => ?_) (fun c200 => ?_)
      · skip
        have n201 : (st 18 3).toInt ≤ v3_4.toInt := (i_le c200)
        refine lv_iload_n hx hb dX1_roadsAt_33 rfl (lv_at hl 1 rfl) ?_
        rw [hQ]
        exact W.iret (v := v2_4) hx hb hr (fun t ht hW => ⟨v2_4, rfl, ⟨iv2_4, trivial⟩, ht⟩) (fun _ h9 => by cases h9) dX1_roadsAt_34
      · skip
        have n202 : v3_4.toInt < (st 18 3).toInt := (i_nle c200)
        have h203 : Iv 0 7 v3_4 := lt_l iv3_4 n202 h199 (by decide)
        have h204 : Iv 1 8 (st 18 3) := lt_r iv3_4 n202 h199 (by decide)
        refine lv_aload_n hx hb dX1_roadsAt_12 rfl (lv_at hl 2 rfl) ?_
        refine lv_iload_n hx hb dX1_roadsAt_13 rfl (lv_at hl 0 rfl) ?_
        refine lv_iload_n hx hb dX1_roadsAt_14 rfl (lv_at hl 3 rfl) ?_
        refine ro_V (As := [.int v3_4, .int p0]) (rest := []) S (s_X1_touches l D k a st sl  v3_4 p0 _  hB  ) lkX1_78 ok_X1_touches ⟨rfl, rfl, Nat.le_of_ble_eq_true rfl, Nat.le_of_ble_eq_true rfl⟩ (pw_V (ci := 1) (q0 := 18) hK hN rfl cw_18 hP hD0) rfl hl.1 rfl (Nat.le_of_ble_eq_true rfl) ⟨Nat.zero_le _, Nat.zero_le _⟩ dX1_roadsAt_15 (fun r205 er205 => ?_)
        rcases er205 with ⟨rfl, g9⟩ | ⟨rfl, g9⟩
        · skip
          have g206 := g9
          have h207 : Iv 0 5 p0 := g206.2.1
          have k208 := g206.2.2
          refine lv_if_eq (tgt := 27) hx hb dX1_roadsAt_18 (by decide) (fun c209 => ?_) (fun c209 => ?_)
          · first | exact absurd c209 (by decide) | exact absurd (by decide) c209
          refine lv_iload_n hx hb dX1_roadsAt_21 rfl (lv_at hl 1 rfl) ?_
          refine lv_iconst (v := 1) hx hb dX1_roadsAt_22 (by decide) ?_
          refine lv_iload_n hx hb dX1_roadsAt_23 rfl (lv_at hl 0 rfl) ?_
          refine lv_ishl hx hb dX1_roadsAt_24 ?_
          refine lv_topi (fun z210 ez210 => ?_)
          have h211 : Iv 1 128 z210 := iv_shl 7 ez210 h203 (by decide) (by decide) (by decide)
          refine lv_ior hx hb dX1_roadsAt_25 ?_
          refine lv_topi (fun z212 ez212 => ?_)
          have h213 : Iv 0 255 z212 := iv_or 8 ez212 iv2_4 (iv_mono (c := 0) (d := 128) h211 (by decide) (by decide)) (by decide) (by decide) (by decide) (by decide)
          refine lv_istore_n (lv' := [(2, .int z212), (3, .int v3_4), (0, .ref (a 18)), (1, .int p0)]) hx hb dX1_roadsAt_26 rfl hl (by decide) rfl (fun ls hl => ?_)
          obtain ⟨z214, ez214⟩ : ∃ z9 : Int32, z9 = v3_4 + Int32.ofInt 1 := ⟨_, rfl⟩
          have h215 : Iv 1 8 z214 := iv_inc ez214 h203 (by decide) (by decide) (by decide) (by decide) (by decide) (by decide)
          refine lv_iinc (v := z214) (lv' := [(3, .int z214), (2, .int z212), (0, .ref (a 18)), (1, .int p0)]) hx hb dX1_roadsAt_27 hl (k := 1) rfl ez214.symm (by decide) rfl (fun ls hl => ?_)
          refine lv_goto (tgt := 4) hx hb dX1_roadsAt_30 (by decide) ?_
          exact ih4 z214 z212 _ (iv_mono (c := 0) (d := 8) h215 (by decide) (by decide)) h213 (lv_sub hl [0, 1, 2, 3] rfl) (fu_s (lo := 0) (ti_inc ez214 h203 (by decide) (by decide) (by decide) (by decide)) (by decide) hm4)
        · skip
          have g216 := g9
          have k217 := g216
          refine lv_if_eq (tgt := 27) hx hb dX1_roadsAt_18 (by decide) (fun c218 => ?_) (fun c218 => ?_)
          rotate_left
          · first | exact absurd c218 (by decide) | exact absurd (by decide) c218
          obtain ⟨z219, ez219⟩ : ∃ z9 : Int32, z9 = v3_4 + Int32.ofInt 1 := ⟨_, rfl⟩
          have h220 : Iv 1 8 z219 := iv_inc ez219 h203 (by decide) (by decide) (by decide) (by decide) (by decide) (by decide)
          refine lv_iinc (v := z219) (lv' := [(3, .int z219), (2, .int v2_4), (0, .ref (a 18)), (1, .int p0)]) hx hb dX1_roadsAt_27 hl (k := 0) rfl ez219.symm (by decide) rfl (fun ls hl => ?_)
          refine lv_goto (tgt := 4) hx hb dX1_roadsAt_30 (by decide) ?_
          exact ih4 z219 v2_4 _ (iv_mono (c := 0) (d := 8) h220 (by decide) (by decide)) iv2_4 (lv_sub hl [0, 1, 2, 3] rfl) (fu_s (lo := 0) (ti_inc ez219 h203 (by decide) (by decide) (by decide) (by decide)) (by decide) hm4)
  exact lp4 9 0 0 _ (iv_mono (c := 0) (d := 8) (iv_c (by decide) : Iv 0 0 0) (by decide) (by decide)) (iv_mono (c := 0) (d := 255) (iv_c (by decide) : Iv 0 0 0) (by decide) (by decide)) (lv_sub hl [0, 1, 2, 3] rfl) (fu_i (iv_mono (c := 0) (d := 8) (iv_c (by decide) : Iv 0 0 0) (by decide) (by decide)) (by decide))
set_option maxHeartbeats 4000000 in
set_option maxRecDepth 100000 in
theorem s_X1_spreadOf (l : Launch) (D : va_G) (k : Nat → ClassId) (a : Nat → Nat) (st : CT) (sl : CL) (p0 : Int32) (sz : Nat) (hB : CB st)  : Met l yX1_spreadOf (.code yX1_spreadOf cX1_spreadOf 4 (some .int) :: TB) (rmk 1) (va_Pc [.ref (a 18), .int p0] (PW D k sz (CWS k a st sl))) (vp_Si (fun r => (True))) 0 0 (fun _ => False) := by
  refine Met.ofW (cc := cX1_spreadOf) (maxL := 4) (ret := (some .int)) (by decide) rfl ?_
  intro p e s m args below meth c s₁ B hml hv
  obtain ⟨rfl, hsz, hP, hK, hD0, hN⟩ := hv
  have hx := B.exec
  have hb := B.bytes
  have hr := B.returns
  have hT : ∀ w9 ∈ TB, w9.before ([.ref (a 18), .int p0] : List Value).toArray s = true := fun w9 h => atoms_spec (ws := .code yX1_spreadOf cX1_spreadOf 4 (some .int) :: TB) B.pre w9 (List.mem_cons_of_mem _ h)
  have hown : s.vm.findClass RX1 = some m.cls := findClass_of_methodNamed B.named
  have S : CallFix p m c cX1_spreadOf 4 s _ TB RX1 := ⟨hx, hb, hml, hown, hT⟩
  subst hsz
  have hl := lv_entry ([.ref (a 18), .int p0]) (n := 4) (Nat.le_of_ble_eq_true rfl)
  rw [lg_entry_eq]
  generalize (lg_sl ([.ref (a 18), .int p0]) ++ List.replicate (4 - (lg_sl ([.ref (a 18), .int p0])).length) Slot.unset).toArray = ls at hl ⊢
  have hl : lv_has ls 4 [(0, .ref (a 18)), (1, .int p0)] := hl
  refine nameQ (fun Q hQ => ?_)
  refine lv_iload_n hx hb dX1_spreadOf_0 rfl (lv_at hl 1 rfl) ?_
  refine lv_istore_n (lv' := [(2, .int p0), (0, .ref (a 18)), (1, .int p0)]) hx hb dX1_spreadOf_1 rfl hl (by decide) rfl (fun ls hl => ?_)
  refine lv_iconst (v := 0) hx hb dX1_spreadOf_2 (by decide) ?_
  refine lv_istore_n (lv' := [(3, .int 0), (2, .int p0), (0, .ref (a 18)), (1, .int p0)]) hx hb dX1_spreadOf_3 rfl hl (by decide) rfl (fun ls hl => ?_)
  have lp4 : ∀ (n9_4 : Nat) (v3_4 : Int32) (v2_4 : Int32) (ls : Array Slot), Iv 0 8 v3_4 → lv_has ls 4 [(3, .int v3_4), (2, .int v2_4), (0, .ref (a 18)), (1, .int p0)] → (8 : Int) - v3_4.toInt < (n9_4 : Int) → W p l e (rmk 1) s m ([.ref (a 18), .int p0] : List Value).toArray below meth c s.heap [] 0 0 Q (F0 m 4 ls []) := by
    clear hl
    intro n9_4
    induction n9_4 with
    | zero =>
      intro v3_4 v2_4 ls iv3_4 hl hm4
      exact (fu_0 iv3_4 hm4).elim
    | succ n9_4 ih4 =>
      intro v3_4 v2_4 ls iv3_4 hl hm4
      refine lv_iload_n hx hb dX1_spreadOf_4 rfl (lv_at hl 0 rfl) ?_
      refine lv_aload_n hx hb dX1_spreadOf_5 rfl (lv_at hl 2 rfl) ?_
      refine va_get (D := D) (ci := 1) (v := .int (st 18 3)) (C := RX1) (T := TX1) (N := 14) hx hb hT in_X1 hown hK hP 18 cw_18 rfl 3 (by decide) (hT _ t207) (fun _ h9 => h9) rfl dX1_spreadOf_6 ?_
      have h478 : Iv 0 8 (st 18 3) := (rb_18_3 hB)
      refine lv_icmp_ge (tgt := 66) hx hb dX1_spreadOf_9 (by decide) (fun c479 => ?_) (fun c479 => ?_)
      · skip
        have n480 : (st 18 3).toInt ≤ v3_4.toInt := (i_le c479)
        refine lv_iload_n hx hb dX1_spreadOf_66 rfl (lv_at hl 1 rfl) ?_
        rw [hQ]
        exact W.iret (v := v2_4) hx hb hr (fun t ht hW => ⟨v2_4, rfl, trivial, ht⟩) (fun _ h9 => by cases h9) dX1_spreadOf_67
      · skip
        have n481 : v3_4.toInt < (st 18 3).toInt := (i_nle c479)
        have h482 : Iv 0 7 v3_4 := lt_l iv3_4 n481 h478 (by decide)
        have h483 : Iv 1 8 (st 18 3) := lt_r iv3_4 n481 h478 (by decide)
        refine lv_iload_n hx hb dX1_spreadOf_12 rfl (lv_at hl 3 rfl) ?_
        refine lv_aload_n hx hb dX1_spreadOf_13 rfl (lv_at hl 2 rfl) ?_
        refine va_get (D := D) (ci := 1) (v := .ref (a 19)) (C := RX1) (T := TX1) (N := 14) hx hb hT in_X1 hown hK hP 18 cw_18 rfl 7 (by decide) (hT _ t222) (fun _ h9 => h9) rfl dX1_spreadOf_14 ?_
        refine lv_iload_n hx hb dX1_spreadOf_17 rfl (lv_at hl 0 rfl) ?_
        refine va_iald hx hb hK hP 19 0 cw_19 rfl (iv_in h482 (by decide) (by decide)) dX1_spreadOf_18 ?_
        refine lv_topi (fun z484 ez484 => ?_)
        have h485 : Iv 0 5 z484 := by rw [ez484]; exact (rb_19 hB (vp_in_lt (iv_in h482 (by decide) (by decide))))
        refine lv_ishr hx hb dX1_spreadOf_19 ?_
        refine lv_topi (fun z486 ez486 => ?_)
        refine lv_iconst (v := 1) hx hb dX1_spreadOf_20 (by decide) ?_
        refine lv_iand hx hb dX1_spreadOf_21 ?_
        refine lv_topi (fun z487 ez487 => ?_)
        have h488 : Iv 0 1 z487 := iv_andr ez487 (iv_mono (c := 0) (d := 1) (iv_c (by decide) : Iv 1 1 1) (by decide) (by decide))
        refine lv_if_eq (tgt := 36) hx hb dX1_spreadOf_22 (by decide) (fun c489 => ?_) (fun c489 => ?_)
        · skip
          have h490 : Iv 0 0 z487 := eq_l c489 (iv_c (by decide) : Iv 0 0 0)
          refine lv_iload_n hx hb dX1_spreadOf_36 rfl (lv_at hl 3 rfl) ?_
          refine lv_aload_n hx hb dX1_spreadOf_37 rfl (lv_at hl 2 rfl) ?_
          refine va_get (D := D) (ci := 1) (v := .ref (a 20)) (C := RX1) (T := TX1) (N := 14) hx hb hT in_X1 hown hK hP 18 cw_18 rfl 8 (by decide) (hT _ t225) (fun _ h9 => h9) rfl dX1_spreadOf_38 ?_
          refine lv_iload_n hx hb dX1_spreadOf_41 rfl (lv_at hl 0 rfl) ?_
          refine va_iald hx hb hK hP 20 0 cw_20 rfl (iv_in h482 (by decide) (by decide)) dX1_spreadOf_42 ?_
          refine lv_topi (fun z491 ez491 => ?_)
          have h492 : Iv 0 5 z491 := by rw [ez491]; exact (rb_20 hB (vp_in_lt (iv_in h482 (by decide) (by decide))))
          refine lv_ishr hx hb dX1_spreadOf_43 ?_
          refine lv_topi (fun z493 ez493 => ?_)
          refine lv_iconst (v := 1) hx hb dX1_spreadOf_44 (by decide) ?_
          refine lv_iand hx hb dX1_spreadOf_45 ?_
          refine lv_topi (fun z494 ez494 => ?_)
          have h495 : Iv 0 1 z494 := iv_andr ez494 (iv_mono (c := 0) (d := 1) (iv_c (by decide) : Iv 1 1 1) (by decide) (by decide))
          refine lv_if_eq (tgt := 60) hx hb dX1_spreadOf_46 (by decide) (fun c496 => ?_) (fun c496 => ?_)
          · skip
            have h497 : Iv 0 0 z494 := eq_l c496 (iv_c (by decide) : Iv 0 0 0)
            obtain ⟨z498, ez498⟩ : ∃ z9 : Int32, z9 = v3_4 + Int32.ofInt 1 := ⟨_, rfl⟩
            have h499 : Iv 1 8 z498 := iv_inc ez498 h482 (by decide) (by decide) (by decide) (by decide) (by decide) (by decide)
            refine lv_iinc (v := z498) (lv' := [(3, .int z498), (2, .int v2_4), (0, .ref (a 18)), (1, .int p0)]) hx hb dX1_spreadOf_60 hl (k := 0) rfl ez498.symm (by decide) rfl (fun ls hl => ?_)
            refine lv_goto (tgt := 4) hx hb dX1_spreadOf_63 (by decide) ?_
            exact ih4 z498 v2_4 _ (iv_mono (c := 0) (d := 8) h499 (by decide) (by decide)) (lv_sub hl [0, 1, 2, 3] rfl) (fu_s (lo := 0) (ti_inc ez498 h482 (by decide) (by decide) (by decide) (by decide)) (by decide) hm4)
          · skip
            have h500 : Iv 1 1 z494 := ne_lo h495 c496 (by decide) (by decide)
            refine lv_iload_n hx hb dX1_spreadOf_49 rfl (lv_at hl 1 rfl) ?_
            refine lv_iconst (v := 1) hx hb dX1_spreadOf_50 (by decide) ?_
            refine lv_aload_n hx hb dX1_spreadOf_51 rfl (lv_at hl 2 rfl) ?_
            refine va_get (D := D) (ci := 1) (v := .ref (a 19)) (C := RX1) (T := TX1) (N := 14) hx hb hT in_X1 hown hK hP 18 cw_18 rfl 7 (by decide) (hT _ t222) (fun _ h9 => h9) rfl dX1_spreadOf_52 ?_
            refine lv_iload_n hx hb dX1_spreadOf_55 rfl (lv_at hl 0 rfl) ?_
            refine va_iald hx hb hK hP 19 0 cw_19 rfl (iv_in h482 (by decide) (by decide)) dX1_spreadOf_56 ?_
            refine lv_topi (fun z501 ez501 => ?_)
            have h502 : Iv 0 5 z501 := by rw [ez501]; exact (rb_19 hB (vp_in_lt (iv_in h482 (by decide) (by decide))))
            refine lv_ishl hx hb dX1_spreadOf_57 ?_
            refine lv_topi (fun z503 ez503 => ?_)
            have h504 : Iv 1 32 z503 := iv_shl 5 ez503 h502 (by decide) (by decide) (by decide)
            refine lv_ior hx hb dX1_spreadOf_58 ?_
            refine lv_topi (fun z505 ez505 => ?_)
            refine lv_istore_n (lv' := [(2, .int z505), (3, .int v3_4), (0, .ref (a 18)), (1, .int p0)]) hx hb dX1_spreadOf_59 rfl hl (by decide) rfl (fun ls hl => ?_)
            obtain ⟨z506, ez506⟩ : ∃ z9 : Int32, z9 = v3_4 + Int32.ofInt 1 := ⟨_, rfl⟩
            have h507 : Iv 1 8 z506 := iv_inc ez506 h482 (by decide) (by decide) (by decide) (by decide) (by decide) (by decide)
            refine lv_iinc (v := z506) (lv' := [(3, .int z506), (2, .int z505), (0, .ref (a 18)), (1, .int p0)]) hx hb dX1_spreadOf_60 hl (k := 1) rfl ez506.symm (by decide) rfl (fun ls hl => ?_)
            refine lv_goto (tgt := 4) hx hb dX1_spreadOf_63 (by decide) ?_
            exact ih4 z506 z505 _ (iv_mono (c := 0) (d := 8) h507 (by decide) (by decide)) (lv_sub hl [0, 1, 2, 3] rfl) (fu_s (lo := 0) (ti_inc ez506 h482 (by decide) (by decide) (by decide) (by decide)) (by decide) hm4)
        · skip
          have h508 : Iv 1 1 z487 := ne_lo h488 c489 (by decide) (by decide)
          refine lv_iload_n hx hb dX1_spreadOf_25 rfl (lv_at hl 1 rfl) ?_
          refine lv_iconst (v := 1) hx hb dX1_spreadOf_26 (by decide) ?_
          refine lv_aload_n hx hb dX1_spreadOf_27 rfl (lv_at hl 2 rfl) ?_
          refine va_get (D := D) (ci := 1) (v := .ref (a 20)) (C := RX1) (T := TX1) (N := 14) hx hb hT in_X1 hown hK hP 18 cw_18 rfl 8 (by decide) (hT _ t225) (fun _ h9 => h9) rfl dX1_spreadOf_28 ?_
          refine lv_iload_n hx hb dX1_spreadOf_31 rfl (lv_at hl 0 rfl) ?_
          refine va_iald hx hb hK hP 20 0 cw_20 rfl (iv_in h482 (by decide) (by decide)) dX1_spreadOf_32 ?_
          refine lv_topi (fun z509 ez509 => ?_)
          have h510 : Iv 0 5 z509 := by rw [ez509]; exact (rb_20 hB (vp_in_lt (iv_in h482 (by decide) (by decide))))
          refine lv_ishl hx hb dX1_spreadOf_33 ?_
          refine lv_topi (fun z511 ez511 => ?_)
          have h512 : Iv 1 32 z511 := iv_shl 5 ez511 h510 (by decide) (by decide) (by decide)
          refine lv_ior hx hb dX1_spreadOf_34 ?_
          refine lv_topi (fun z513 ez513 => ?_)
          refine lv_istore_n (lv' := [(2, .int z513), (3, .int v3_4), (0, .ref (a 18)), (1, .int p0)]) hx hb dX1_spreadOf_35 rfl hl (by decide) rfl (fun ls hl => ?_)
          refine lv_iload_n hx hb dX1_spreadOf_36 rfl (lv_at hl 3 rfl) ?_
          refine lv_aload_n hx hb dX1_spreadOf_37 rfl (lv_at hl 2 rfl) ?_
          refine va_get (D := D) (ci := 1) (v := .ref (a 20)) (C := RX1) (T := TX1) (N := 14) hx hb hT in_X1 hown hK hP 18 cw_18 rfl 8 (by decide) (hT _ t225) (fun _ h9 => h9) rfl dX1_spreadOf_38 ?_
          refine lv_iload_n hx hb dX1_spreadOf_41 rfl (lv_at hl 1 rfl) ?_
          refine va_iald hx hb hK hP 20 0 cw_20 rfl (iv_in h482 (by decide) (by decide)) dX1_spreadOf_42 ?_
          refine lv_topi (fun z514 ez514 => ?_)
          have h515 : Iv 0 5 z514 := by rw [ez514]; exact (rb_20 hB (vp_in_lt (iv_in h482 (by decide) (by decide))))
          refine lv_ishr hx hb dX1_spreadOf_43 ?_
          refine lv_topi (fun z516 ez516 => ?_)
          refine lv_iconst (v := 1) hx hb dX1_spreadOf_44 (by decide) ?_
          refine lv_iand hx hb dX1_spreadOf_45 ?_
          refine lv_topi (fun z517 ez517 => ?_)
          have h518 : Iv 0 1 z517 := iv_andr ez517 (iv_mono (c := 0) (d := 1) (iv_c (by decide) : Iv 1 1 1) (by decide) (by decide))
          refine lv_if_eq (tgt := 60) hx hb dX1_spreadOf_46 (by decide) (fun c519 => ?_) (fun c519 => ?_)
          · skip
            have h520 : Iv 0 0 z517 := eq_l c519 (iv_c (by decide) : Iv 0 0 0)
            obtain ⟨z521, ez521⟩ : ∃ z9 : Int32, z9 = v3_4 + Int32.ofInt 1 := ⟨_, rfl⟩
            have h522 : Iv 1 8 z521 := iv_inc ez521 h482 (by decide) (by decide) (by decide) (by decide) (by decide) (by decide)
            refine lv_iinc (v := z521) (lv' := [(3, .int z521), (2, .int z513), (0, .ref (a 18)), (1, .int p0)]) hx hb dX1_spreadOf_60 hl (k := 1) rfl ez521.symm (by decide) rfl (fun ls hl => ?_)
            refine lv_goto (tgt := 4) hx hb dX1_spreadOf_63 (by decide) ?_
            exact ih4 z521 z513 _ (iv_mono (c := 0) (d := 8) h522 (by decide) (by decide)) (lv_sub hl [0, 1, 2, 3] rfl) (fu_s (lo := 0) (ti_inc ez521 h482 (by decide) (by decide) (by decide) (by decide)) (by decide) hm4)
          · skip
            have h523 : Iv 1 1 z517 := ne_lo h518 c519 (by decide) (by decide)
            refine lv_iload_n hx hb dX1_spreadOf_49 rfl (lv_at hl 0 rfl) ?_
            refine lv_iconst (v := 1) hx hb dX1_spreadOf_50 (by decide) ?_
            refine lv_aload_n hx hb dX1_spreadOf_51 rfl (lv_at hl 2 rfl) ?_
            refine va_get (D := D) (ci := 1) (v := .ref (a 19)) (C := RX1) (T := TX1) (N := 14) hx hb hT in_X1 hown hK hP 18 cw_18 rfl 7 (by decide) (hT _ t222) (fun _ h9 => h9) rfl dX1_spreadOf_52 ?_
            refine lv_iload_n hx hb dX1_spreadOf_55 rfl (lv_at hl 1 rfl) ?_
            refine va_iald hx hb hK hP 19 0 cw_19 rfl (iv_in h482 (by decide) (by decide)) dX1_spreadOf_56 ?_
            refine lv_topi (fun z524 ez524 => ?_)
            have h525 : Iv 0 5 z524 := by rw [ez524]; exact (rb_19 hB (vp_in_lt (iv_in h482 (by decide) (by decide))))
            refine lv_ishl hx hb dX1_spreadOf_57 ?_
            refine lv_topi (fun z526 ez526 => ?_)
            have h527 : Iv 1 32 z526 := iv_shl 5 ez526 h525 (by decide) (by decide) (by decide)
            refine lv_ior hx hb dX1_spreadOf_58 ?_
            refine lv_topi (fun z528 ez528 => ?_)
            refine lv_istore_n (lv' := [(2, .int z528), (3, .int v3_4), (0, .ref (a 18)), (1, .int p0)]) hx hb dX1_spreadOf_59 rfl hl (by decide) rfl (fun ls hl => ?_)
            obtain ⟨z529, ez529⟩ : ∃ z9 : Int32, z9 = v3_4 + Int32.ofInt 1 := ⟨_, rfl⟩
            have h530 : Iv 1 8 z529 := iv_inc ez529 h482 (by decide) (by decide) (by decide) (by decide) (by decide) (by decide)
            refine lv_iinc (v := z529) (lv' := [(3, .int z529), (2, .int z528), (0, .ref (a 18)), (1, .int p0)]) hx hb dX1_spreadOf_60 hl (k := 1) rfl ez529.symm (by decide) rfl (fun ls hl => ?_)
            refine lv_goto (tgt := 4) hx hb dX1_spreadOf_63 (by decide) ?_
            exact ih4 z529 z528 _ (iv_mono (c := 0) (d := 8) h530 (by decide) (by decide)) (lv_sub hl [0, 1, 2, 3] rfl) (fu_s (lo := 0) (ti_inc ez529 h482 (by decide) (by decide) (by decide) (by decide)) (by decide) hm4)
  exact lp4 9 0 p0 _ (iv_mono (c := 0) (d := 8) (iv_c (by decide) : Iv 0 0 0) (by decide) (by decide)) (lv_sub hl [0, 1, 2, 3] rfl) (fu_i (iv_mono (c := 0) (d := 8) (iv_c (by decide) : Iv 0 0 0) (by decide) (by decide)) (by decide))
