set_option maxHeartbeats 4000000 in
set_option maxRecDepth 100000 in
theorem s_X9_isByCart (l : Launch) (D : va_G) (k : Nat → ClassId) (a : Nat → Nat) (st : CT) (sl : CL) (p0 : Int32) (p1 : Int32) (sz : Nat) (hB : CB st)  : Met l yX9_isByCart (.code yX9_isByCart cX9_isByCart 3 (some .boolean) :: TB) (rmk 2) (va_Pc [.ref (a 0), .int p0, .int p1] (PW D k sz (CWS k a st sl))) (vp_Si (fun r => (r = 1 ∧ Iv 0 2 p0 ∧ Iv 0 7 p1 ∧ (True)) ∨ (r = 0 ∧ (True)))) 0 0 (fun _ => False) := by
  refine Met.ofW (cc := cX9_isByCart) (maxL := 3) (ret := (some .boolean)) (by decide) rfl ?_
  intro p e s m args below meth c s₁ B hml hv
  obtain ⟨rfl, hsz, hP, hK, hD0, hN⟩ := hv
  have hx := B.exec
  have hb := B.bytes
  have hr := B.returns
  have hT : ∀ w9 ∈ TB, w9.before ([.ref (a 0), .int p0, .int p1] : List Value).toArray s = true := fun w9 h => atoms_spec (ws := .code yX9_isByCart cX9_isByCart 3 (some .boolean) :: TB) B.pre w9 (List.mem_cons_of_mem _ h)
  have hown : s.vm.findClass RX9 = some m.cls := findClass_of_methodNamed B.named
  have S : CallFix p m c cX9_isByCart 3 s _ TB RX9 := ⟨hx, hb, hml, hown, hT⟩
  subst hsz
  have hl := lv_entry ([.ref (a 0), .int p0, .int p1]) (n := 3) (Nat.le_of_ble_eq_true rfl)
  rw [lg_entry_eq]
  generalize (lg_sl ([.ref (a 0), .int p0, .int p1]) ++ List.replicate (3 - (lg_sl ([.ref (a 0), .int p0, .int p1])).length) Slot.unset).toArray = ls at hl ⊢
  have hl : lv_has ls 3 [(0, .ref (a 0)), (1, .int p0), (2, .int p1)] := hl
  refine nameQ (fun Q hQ => ?_)
  refine lv_aload_n hx hb dX9_isByCart_0 rfl (lv_at hl 0 rfl) ?_
  refine va_get (D := D) (ci := 9) (v := .ref (a 17)) (C := RX9) (T := TX9) (N := 11) hx hb hT in_X9 hown hK hP 0 cw_0 rfl 2 (by decide) (hT _ t453) (fun _ h9 => h9) rfl dX9_isByCart_1 ?_
  refine va_get (D := D) (ci := 8) (v := .ref (a 18)) (C := RX8) (T := TX8) (N := 6) hx hb hT in_X8 hown hK hP 17 cw_17 rfl 0 (by decide) (hT _ t312) (fun _ h9 => h9) rfl dX9_isByCart_4 ?_
  refine lv_iload_n hx hb dX9_isByCart_7 rfl (lv_at hl 1 rfl) ?_
  refine ro_V (As := [.int p0]) (rest := []) S (s_X1_isCart l D k a st sl  p0 _  hB  ) lkX9_147 ok_X1_isCart ⟨rfl, rfl, Nat.le_of_ble_eq_true rfl, Nat.le_of_ble_eq_true rfl⟩ (pw_V (ci := 1) (q0 := 18) hK hN rfl cw_18 hP hD0) rfl hl.1 rfl (Nat.le_of_ble_eq_true rfl) ⟨Nat.zero_le _, Nat.zero_le _⟩ dX9_isByCart_8 (fun r1 er1 => ?_)
  rcases er1 with ⟨rfl, g9⟩ | ⟨rfl, g9⟩
  · skip
    have g2 := g9
    have h3 : Iv 0 2 p0 := g2.1
    refine lv_if_eq (tgt := 44) hx hb dX9_isByCart_11 (by decide) (fun c4 => ?_) (fun c4 => ?_)
    · first | exact absurd c4 (by decide) | exact absurd (by decide) c4
    refine lv_aload_n hx hb dX9_isByCart_14 rfl (lv_at hl 0 rfl) ?_
    refine va_get (D := D) (ci := 9) (v := .ref (a 17)) (C := RX9) (T := TX9) (N := 11) hx hb hT in_X9 hown hK hP 0 cw_0 rfl 2 (by decide) (hT _ t453) (fun _ h9 => h9) rfl dX9_isByCart_15 ?_
    refine va_get (D := D) (ci := 8) (v := .ref (a 18)) (C := RX8) (T := TX8) (N := 6) hx hb hT in_X8 hown hK hP 17 cw_17 rfl 0 (by decide) (hT _ t312) (fun _ h9 => h9) rfl dX9_isByCart_18 ?_
    refine lv_iload_n hx hb dX9_isByCart_21 rfl (lv_at hl 2 rfl) ?_
    refine lv_aload_n hx hb dX9_isByCart_22 rfl (lv_at hl 0 rfl) ?_
    refine va_get (D := D) (ci := 9) (v := .ref (a 17)) (C := RX9) (T := TX9) (N := 11) hx hb hT in_X9 hown hK hP 0 cw_0 rfl 2 (by decide) (hT _ t453) (fun _ h9 => h9) rfl dX9_isByCart_23 ?_
    refine va_get (D := D) (ci := 8) (v := .ref (a 31)) (C := RX8) (T := TX8) (N := 6) hx hb hT in_X8 hown hK hP 17 cw_17 rfl 1 (by decide) (hT _ t314) (fun _ h9 => h9) rfl dX9_isByCart_26 ?_
    refine va_get (D := D) (ci := 5) (v := .ref (a 35)) (C := RX5) (T := TX5) (N := 5) hx hb hT in_X5 hown hK hP 31 cw_31 rfl 3 (by decide) (hT _ t180) (fun _ h9 => h9) rfl dX9_isByCart_29 ?_
    refine lv_iload_n hx hb dX9_isByCart_32 rfl (lv_at hl 1 rfl) ?_
    refine va_iald hx hb hK hP 35 0 cw_35 rfl (iv_in h3 (by decide) (by decide)) dX9_isByCart_33 ?_
    refine lv_topi (fun z5 ez5 => ?_)
    have h6 : Iv 0 5 z5 := by rw [ez5]; exact (rb_35 hB (vp_in_lt (iv_in h3 (by decide) (by decide))))
    refine ro_V (As := [.int p1, .int z5]) (rest := []) S (s_X1_touches l D k a st sl  p1 z5 _  hB  ) lkX9_201 ok_X1_touches ⟨rfl, rfl, Nat.le_of_ble_eq_true rfl, Nat.le_of_ble_eq_true rfl⟩ (pw_V (ci := 1) (q0 := 18) hK hN rfl cw_18 hP hD0) rfl hl.1 rfl (Nat.le_of_ble_eq_true rfl) ⟨Nat.zero_le _, Nat.zero_le _⟩ dX9_isByCart_34 (fun r7 er7 => ?_)
    rcases er7 with ⟨rfl, g9⟩ | ⟨rfl, g9⟩
    · skip
      have g8 := g9
      have h9 : Iv 0 7 p1 := g8.1
      have k10 := g8.2.2
      refine lv_if_eq (tgt := 44) hx hb dX9_isByCart_37 (by decide) (fun c11 => ?_) (fun c11 => ?_)
      · first | exact absurd c11 (by decide) | exact absurd (by decide) c11
      refine lv_iconst (v := 1) hx hb dX9_isByCart_40 (by decide) ?_
      refine lv_goto (tgt := 45) hx hb dX9_isByCart_41 (by decide) ?_
      rw [hQ]
      exact W.zret (v := 1) (ty := .boolean) hx hb hr rfl (fun t ht hW => ⟨1, rfl, Or.inl ⟨rfl, h3, h9, trivial⟩, ht⟩) (fun _ h9 => by cases h9) dX9_isByCart_45
    · skip
      have g12 := g9
      have k13 := g12
      refine lv_if_eq (tgt := 44) hx hb dX9_isByCart_37 (by decide) (fun c14 => ?_) (fun c14 => ?_)
      rotate_left
      · first | exact absurd c14 (by decide) | exact absurd (by decide) c14
      refine lv_iconst (v := 0) hx hb dX9_isByCart_44 (by decide) ?_
      rw [hQ]
      exact W.zret (v := 0) (ty := .boolean) hx hb hr rfl (fun t ht hW => ⟨0, rfl, Or.inr ⟨rfl, trivial⟩, ht⟩) (fun _ h9 => by cases h9) dX9_isByCart_45
  · skip
    have g15 := g9
    refine lv_if_eq (tgt := 44) hx hb dX9_isByCart_11 (by decide) (fun c16 => ?_) (fun c16 => ?_)
    rotate_left
    · first | exact absurd c16 (by decide) | exact absurd (by decide) c16
    refine lv_iconst (v := 0) hx hb dX9_isByCart_44 (by decide) ?_
    rw [hQ]
    exact W.zret (v := 0) (ty := .boolean) hx hb hr rfl (fun t ht hW => ⟨0, rfl, Or.inr ⟨rfl, trivial⟩, ht⟩) (fun _ h9 => by cases h9) dX9_isByCart_45
set_option maxHeartbeats 4000000 in
set_option maxRecDepth 100000 in
theorem s_X9_canWant (l : Launch) (D : va_G) (k : Nat → ClassId) (a : Nat → Nat) (st : CT) (sl : CL) (p0 : Int32) (p1 : Int32) (sz : Nat) (hB : CB st)  : Met l yX9_canWant (.code yX9_canWant cX9_canWant 3 (some .boolean) :: TB) (rmk 3) (va_Pc [.ref (a 0), .int p0, .int p1] (PW D k sz (CWS k a st sl))) (vp_Si (fun r => (r = 1 ∧ Iv 0 2 p0 ∧ Iv (-1) 7 p1 ∧ (True)) ∨ (r = 0 ∧ (True)))) 0 0 (fun _ => False) := by
  refine Met.ofW (cc := cX9_canWant) (maxL := 3) (ret := (some .boolean)) (by decide) rfl ?_
  intro p e s m args below meth c s₁ B hml hv
  obtain ⟨rfl, hsz, hP, hK, hD0, hN⟩ := hv
  have hx := B.exec
  have hb := B.bytes
  have hr := B.returns
  have hT : ∀ w9 ∈ TB, w9.before ([.ref (a 0), .int p0, .int p1] : List Value).toArray s = true := fun w9 h => atoms_spec (ws := .code yX9_canWant cX9_canWant 3 (some .boolean) :: TB) B.pre w9 (List.mem_cons_of_mem _ h)
  have hown : s.vm.findClass RX9 = some m.cls := findClass_of_methodNamed B.named
  have S : CallFix p m c cX9_canWant 3 s _ TB RX9 := ⟨hx, hb, hml, hown, hT⟩
  subst hsz
  have hl := lv_entry ([.ref (a 0), .int p0, .int p1]) (n := 3) (Nat.le_of_ble_eq_true rfl)
  rw [lg_entry_eq]
  generalize (lg_sl ([.ref (a 0), .int p0, .int p1]) ++ List.replicate (3 - (lg_sl ([.ref (a 0), .int p0, .int p1])).length) Slot.unset).toArray = ls at hl ⊢
  have hl : lv_has ls 3 [(0, .ref (a 0)), (1, .int p0), (2, .int p1)] := hl
  refine nameQ (fun Q hQ => ?_)
  refine lv_aload_n hx hb dX9_canWant_0 rfl (lv_at hl 0 rfl) ?_
  refine va_get (D := D) (ci := 9) (v := .ref (a 17)) (C := RX9) (T := TX9) (N := 11) hx hb hT in_X9 hown hK hP 0 cw_0 rfl 2 (by decide) (hT _ t453) (fun _ h9 => h9) rfl dX9_canWant_1 ?_
  refine va_get (D := D) (ci := 8) (v := .ref (a 18)) (C := RX8) (T := TX8) (N := 6) hx hb hT in_X8 hown hK hP 17 cw_17 rfl 0 (by decide) (hT _ t312) (fun _ h9 => h9) rfl dX9_canWant_4 ?_
  refine lv_iload_n hx hb dX9_canWant_7 rfl (lv_at hl 1 rfl) ?_
  refine ro_V (As := [.int p0]) (rest := []) S (s_X1_isCart l D k a st sl  p0 _  hB  ) lkX9_147 ok_X1_isCart ⟨rfl, rfl, Nat.le_of_ble_eq_true rfl, Nat.le_of_ble_eq_true rfl⟩ (pw_V (ci := 1) (q0 := 18) hK hN rfl cw_18 hP hD0) rfl hl.1 rfl (Nat.le_of_ble_eq_true rfl) ⟨Nat.zero_le _, Nat.zero_le _⟩ dX9_canWant_8 (fun r1 er1 => ?_)
  rcases er1 with ⟨rfl, g9⟩ | ⟨rfl, g9⟩
  · skip
    have g2 := g9
    have h3 : Iv 0 2 p0 := g2.1
    refine lv_if_eq (tgt := 32) hx hb dX9_canWant_11 (by decide) (fun c4 => ?_) (fun c4 => ?_)
    · first | exact absurd c4 (by decide) | exact absurd (by decide) c4
    refine lv_iload_n hx hb dX9_canWant_14 rfl (lv_at hl 2 rfl) ?_
    refine lv_iconst (v := (-1)) hx hb dX9_canWant_15 (by decide) ?_
    refine lv_icmp_eq (tgt := 28) hx hb dX9_canWant_16 (by decide) (fun c5 => ?_) (fun c5 => ?_)
    · skip
      have h6 : Iv (-1) (-1) p1 := eq_l c5 (iv_c (by decide) : Iv (-1) (-1) (-1))
      refine lv_iconst (v := 1) hx hb dX9_canWant_28 (by decide) ?_
      refine lv_goto (tgt := 33) hx hb dX9_canWant_29 (by decide) ?_
      rw [hQ]
      exact W.zret (v := 1) (ty := .boolean) hx hb hr rfl (fun t ht hW => ⟨1, rfl, Or.inl ⟨rfl, h3, (iv_mono (c := (-1)) (d := 7) h6 (by decide) (by decide)), trivial⟩, ht⟩) (fun _ h9 => by cases h9) dX9_canWant_33
    · skip
      refine lv_aload_n hx hb dX9_canWant_19 rfl (lv_at hl 0 rfl) ?_
      refine lv_iload_n hx hb dX9_canWant_20 rfl (lv_at hl 1 rfl) ?_
      refine lv_iload_n hx hb dX9_canWant_21 rfl (lv_at hl 2 rfl) ?_
      refine ro_V (As := [.int p0, .int p1]) (rest := []) S (s_X9_isByCart l D k a st sl  p0 p1 _  hB  ) lkX9_191 ok_X9_isByCart ⟨rfl, rfl, Nat.le_of_ble_eq_true rfl, Nat.le_of_ble_eq_true rfl⟩ (pw_V (ci := 9) (q0 := 0) hK hN rfl cw_0 hP hD0) rfl hl.1 rfl (Nat.le_of_ble_eq_true rfl) ⟨Nat.zero_le _, Nat.zero_le _⟩ dX9_canWant_22 (fun r7 er7 => ?_)
      rcases er7 with ⟨rfl, g9⟩ | ⟨rfl, g9⟩
      · skip
        have g8 := g9
        have h9 : Iv 0 7 p1 := g8.2.1
        refine lv_if_eq (tgt := 32) hx hb dX9_canWant_25 (by decide) (fun c10 => ?_) (fun c10 => ?_)
        · first | exact absurd c10 (by decide) | exact absurd (by decide) c10
        refine lv_iconst (v := 1) hx hb dX9_canWant_28 (by decide) ?_
        refine lv_goto (tgt := 33) hx hb dX9_canWant_29 (by decide) ?_
        rw [hQ]
        exact W.zret (v := 1) (ty := .boolean) hx hb hr rfl (fun t ht hW => ⟨1, rfl, Or.inl ⟨rfl, h3, (iv_mono (c := (-1)) (d := 7) h9 (by decide) (by decide)), trivial⟩, ht⟩) (fun _ h9 => by cases h9) dX9_canWant_33
      · skip
        have g11 := g9
        refine lv_if_eq (tgt := 32) hx hb dX9_canWant_25 (by decide) (fun c12 => ?_) (fun c12 => ?_)
        rotate_left
        · first | exact absurd c12 (by decide) | exact absurd (by decide) c12
        refine lv_iconst (v := 0) hx hb dX9_canWant_32 (by decide) ?_
        rw [hQ]
        exact W.zret (v := 0) (ty := .boolean) hx hb hr rfl (fun t ht hW => ⟨0, rfl, Or.inr ⟨rfl, trivial⟩, ht⟩) (fun _ h9 => by cases h9) dX9_canWant_33
  · skip
    have g13 := g9
    refine lv_if_eq (tgt := 32) hx hb dX9_canWant_11 (by decide) (fun c14 => ?_) (fun c14 => ?_)
    rotate_left
    · first | exact absurd c14 (by decide) | exact absurd (by decide) c14
    refine lv_iconst (v := 0) hx hb dX9_canWant_32 (by decide) ?_
    rw [hQ]
    exact W.zret (v := 0) (ty := .boolean) hx hb hr rfl (fun t ht hW => ⟨0, rfl, Or.inr ⟨rfl, trivial⟩, ht⟩) (fun _ h9 => by cases h9) dX9_canWant_33
set_option maxHeartbeats 4000000 in
set_option maxRecDepth 100000 in
theorem s_X9_feed (l : Launch) (D : va_G) (k : Nat → ClassId) (a : Nat → Nat) (st : CT) (sl : CL) (p0 : Int32) (p1 : Int32) (p2 : Int32) (p3 : Int32) (p4 : Int32) (sz : Nat) (hB : CB st)  : Met l yX9_feed (.code yX9_feed cX9_feed 6 (some .int) :: TB) (rmw 2 0 0) (va_Pc [.ref (a 0), .int p0, .int p1, .int p2, .int p3, .int p4] (PW D k sz (CWS k a st sl))) (QI D (S := CT) (fun r u => CB u ∧ FR [3, 2] st u ∧ (Iv (-1) 1000 r ∧ (True))) (fun u => CWS k a u sl) (fun _ => []) (CWS k a st sl) sz) 0 0 (va_A (CWS k a st sl) sz) := by
  refine Met.ofW (cc := cX9_feed) (maxL := 6) (ret := (some .int)) (by decide) rfl ?_
  intro p e s m args below meth c s₁ B hml hv
  obtain ⟨rfl, hsz, hP, hK, hD0, hN⟩ := hv
  have hx := B.exec
  have hb := B.bytes
  have hr := B.returns
  have hT : ∀ w9 ∈ TB, w9.before ([.ref (a 0), .int p0, .int p1, .int p2, .int p3, .int p4] : List Value).toArray s = true := fun w9 h => atoms_spec (ws := .code yX9_feed cX9_feed 6 (some .int) :: TB) B.pre w9 (List.mem_cons_of_mem _ h)
  have hown : s.vm.findClass RX9 = some m.cls := findClass_of_methodNamed B.named
  have S : CallFix p m c cX9_feed 6 s _ TB RX9 := ⟨hx, hb, hml, hown, hT⟩
  subst hsz
  have hD := hD0.self (sz := s.heap.size)
  generalize hAe : va_A (CWS k a st sl) s.heap.size = A at hD ⊢
  have hA : ∀ q : Nat, s.heap.size ≤ q → A q := fun q h => by rw [← hAe]; exact Or.inr h
  have hS : va_S A s.heap s.heap [] := va_S.rf
  have hl := lv_entry ([.ref (a 0), .int p0, .int p1, .int p2, .int p3, .int p4]) (n := 6) (Nat.le_of_ble_eq_true rfl)
  rw [lg_entry_eq]
  generalize (lg_sl ([.ref (a 0), .int p0, .int p1, .int p2, .int p3, .int p4]) ++ List.replicate (6 - (lg_sl ([.ref (a 0), .int p0, .int p1, .int p2, .int p3, .int p4])).length) Slot.unset).toArray = ls at hl ⊢
  have hl : lv_has ls 6 [(0, .ref (a 0)), (1, .int p0), (2, .int p1), (3, .int p2), (4, .int p3), (5, .int p4)] := hl
  refine nameQ (fun Q hQ => ?_)
  refine lv_aload_n hx hb dX9_feed_0 rfl (lv_at hl 0 rfl) ?_
  refine va_get (D := D) (ci := 9) (v := .ref (a 2)) (C := RX9) (T := TX9) (N := 11) hx hb hT in_X9 hown hK hP 0 cw_0 rfl 0 (by decide) (hT _ t451) (fun _ h9 => h9) rfl dX9_feed_1 ?_
  refine ro_V (As := []) (rest := []) S (s_X6_hasRoom l D k a st sl   _  hB  ) lkX9_75 ok_X6_hasRoom ⟨rfl, rfl, Nat.le_of_ble_eq_true rfl, Nat.le_of_ble_eq_true rfl⟩ (pw_V (ci := 6) (q0 := 2) hK hN rfl cw_2 hP (hD.weaken (fun _ _ _ _ => trivial))) rfl hl.1 rfl (Nat.le_of_ble_eq_true rfl) ⟨Nat.zero_le _, Nat.zero_le _⟩ dX9_feed_4 (fun r1 er1 => ?_)
  rcases er1 with ⟨rfl, g9⟩ | ⟨rfl, g9⟩
  · skip
    have g2 := g9
    refine lv_if_ne (tgt := 12) hx hb dX9_feed_7 (by decide) (fun c3 => ?_) (fun c3 => ?_)
    rotate_left
    · first | exact absurd c3 (by decide) | exact absurd (by decide) c3
    refine lv_aload_n hx hb dX9_feed_12 rfl (lv_at hl 0 rfl) ?_
    refine va_get (D := D) (ci := 9) (v := .ref (a 2)) (C := RX9) (T := TX9) (N := 11) hx hb hT in_X9 hown hK hP 0 cw_0 rfl 0 (by decide) (hT _ t451) (fun _ h9 => h9) rfl dX9_feed_13 ?_
    refine lv_iload_n hx hb dX9_feed_16 rfl (lv_at hl 1 rfl) ?_
    refine ca_v hP hD hS hA (fun hDc => run_V (mc := 0) (ms := 0) (As := [.int p0]) (rest := []) S (s_X6_append l D k a st sl  p0 _  hB  ) lkX9_81 ok_X6_append ⟨rfl, rfl, Nat.le_of_ble_eq_true rfl, Nat.le_of_ble_eq_true rfl⟩ (pw_V (ci := 6) (q0 := 2) hK hN rfl cw_2 hP hDc) rfl hl.1 rfl (Nat.le_of_ble_eq_true rfl) ⟨Nat.zero_le _, Nat.zero_le _⟩ dX9_feed_17) (fun s4 H9 locs9 hs4 hP9 hD9 hS9 => ?_)
    clear hP hD hS
    have hS := hS9
    have hP := hP9
    have hD := hD9
    clear hP9 hD9 hS9
    obtain ⟨hBs4, gs4, fs4⟩ := hs4
    have hFs4 : FR [3, 2] st s4 := fr_ca fr_rf gs4 (sub_1 (List.mem_of_getElem? (i := 0) rfl) (sub_1 (List.mem_of_getElem? (i := 1) rfl) sub_0))
    refine lv_aload_n hx hb dX9_feed_20 rfl (lv_at hl 0 rfl) ?_
    refine va_get (D := D) (ci := 9) (v := .ref (a 2)) (C := RX9) (T := TX9) (N := 11) hx hb hT in_X9 hown hK hP 0 cw_0 rfl 0 (by decide) (hT _ t451) (fun _ h9 => h9) rfl dX9_feed_21 ?_
    refine lv_iload_n hx hb dX9_feed_24 rfl (lv_at hl 2 rfl) ?_
    refine ca_v hP hD hS hA (fun hDc => run_V (mc := 0) (ms := 0) (As := [.int p1]) (rest := []) S (s_X6_append l D k a s4 sl  p1 _  hBs4  ) lkX9_81 ok_X6_append ⟨rfl, rfl, Nat.le_of_ble_eq_true rfl, Nat.le_of_ble_eq_true rfl⟩ (pw_V (ci := 6) (q0 := 2) hK hN rfl cw_2 hP hDc) rfl hl.1 rfl (Nat.le_of_ble_eq_true rfl) ⟨Nat.zero_le _, Nat.zero_le _⟩ dX9_feed_25) (fun s6 H9 locs9 hs6 hP9 hD9 hS9 => ?_)
    clear hP hD hS
    have hS := hS9
    have hP := hP9
    have hD := hD9
    clear hP9 hD9 hS9
    obtain ⟨hBs6, gs6, fs6⟩ := hs6
    have hFs6 : FR [3, 2] st s6 := fr_ca hFs4 gs6 (sub_1 (List.mem_of_getElem? (i := 0) rfl) (sub_1 (List.mem_of_getElem? (i := 1) rfl) sub_0))
    refine lv_aload_n hx hb dX9_feed_28 rfl (lv_at hl 0 rfl) ?_
    refine va_get (D := D) (ci := 9) (v := .ref (a 2)) (C := RX9) (T := TX9) (N := 11) hx hb hT in_X9 hown hK hP 0 cw_0 rfl 0 (by decide) (hT _ t451) (fun _ h9 => h9) rfl dX9_feed_29 ?_
    refine lv_iload_n hx hb dX9_feed_32 rfl (lv_at hl 3 rfl) ?_
    refine ca_v hP hD hS hA (fun hDc => run_V (mc := 0) (ms := 0) (As := [.int p2]) (rest := []) S (s_X6_append l D k a s6 sl  p2 _  hBs6  ) lkX9_81 ok_X6_append ⟨rfl, rfl, Nat.le_of_ble_eq_true rfl, Nat.le_of_ble_eq_true rfl⟩ (pw_V (ci := 6) (q0 := 2) hK hN rfl cw_2 hP hDc) rfl hl.1 rfl (Nat.le_of_ble_eq_true rfl) ⟨Nat.zero_le _, Nat.zero_le _⟩ dX9_feed_33) (fun s8 H9 locs9 hs8 hP9 hD9 hS9 => ?_)
    clear hP hD hS
    have hS := hS9
    have hP := hP9
    have hD := hD9
    clear hP9 hD9 hS9
    obtain ⟨hBs8, gs8, fs8⟩ := hs8
    have hFs8 : FR [3, 2] st s8 := fr_ca hFs6 gs8 (sub_1 (List.mem_of_getElem? (i := 0) rfl) (sub_1 (List.mem_of_getElem? (i := 1) rfl) sub_0))
    refine lv_aload_n hx hb dX9_feed_36 rfl (lv_at hl 0 rfl) ?_
    refine va_get (D := D) (ci := 9) (v := .ref (a 2)) (C := RX9) (T := TX9) (N := 11) hx hb hT in_X9 hown hK hP 0 cw_0 rfl 0 (by decide) (hT _ t451) (fun _ h9 => h9) rfl dX9_feed_37 ?_
    refine lv_iload hx hb dX9_feed_40 (lv_at hl 4 rfl) ?_
    refine ca_v hP hD hS hA (fun hDc => run_V (mc := 0) (ms := 0) (As := [.int p3]) (rest := []) S (s_X6_append l D k a s8 sl  p3 _  hBs8  ) lkX9_81 ok_X6_append ⟨rfl, rfl, Nat.le_of_ble_eq_true rfl, Nat.le_of_ble_eq_true rfl⟩ (pw_V (ci := 6) (q0 := 2) hK hN rfl cw_2 hP hDc) rfl hl.1 rfl (Nat.le_of_ble_eq_true rfl) ⟨Nat.zero_le _, Nat.zero_le _⟩ dX9_feed_42) (fun s10 H9 locs9 hs10 hP9 hD9 hS9 => ?_)
    clear hP hD hS
    have hS := hS9
    have hP := hP9
    have hD := hD9
    clear hP9 hD9 hS9
    obtain ⟨hBs10, gs10, fs10⟩ := hs10
    have hFs10 : FR [3, 2] st s10 := fr_ca hFs8 gs10 (sub_1 (List.mem_of_getElem? (i := 0) rfl) (sub_1 (List.mem_of_getElem? (i := 1) rfl) sub_0))
    refine lv_aload_n hx hb dX9_feed_45 rfl (lv_at hl 0 rfl) ?_
    refine va_get (D := D) (ci := 9) (v := .ref (a 2)) (C := RX9) (T := TX9) (N := 11) hx hb hT in_X9 hown hK hP 0 cw_0 rfl 0 (by decide) (hT _ t451) (fun _ h9 => h9) rfl dX9_feed_46 ?_
    refine lv_iload hx hb dX9_feed_49 (lv_at hl 5 rfl) ?_
    refine ca_v hP hD hS hA (fun hDc => run_V (mc := 0) (ms := 0) (As := [.int p4]) (rest := []) S (s_X6_append l D k a s10 sl  p4 _  hBs10  ) lkX9_81 ok_X6_append ⟨rfl, rfl, Nat.le_of_ble_eq_true rfl, Nat.le_of_ble_eq_true rfl⟩ (pw_V (ci := 6) (q0 := 2) hK hN rfl cw_2 hP hDc) rfl hl.1 rfl (Nat.le_of_ble_eq_true rfl) ⟨Nat.zero_le _, Nat.zero_le _⟩ dX9_feed_51) (fun s12 H9 locs9 hs12 hP9 hD9 hS9 => ?_)
    clear hP hD hS
    have hS := hS9
    have hP := hP9
    have hD := hD9
    clear hP9 hD9 hS9
    obtain ⟨hBs12, gs12, fs12⟩ := hs12
    have hFs12 : FR [3, 2] st s12 := fr_ca hFs10 gs12 (sub_1 (List.mem_of_getElem? (i := 0) rfl) (sub_1 (List.mem_of_getElem? (i := 1) rfl) sub_0))
    refine lv_aload_n hx hb dX9_feed_54 rfl (lv_at hl 0 rfl) ?_
    refine va_get (D := D) (ci := 9) (v := .ref (a 2)) (C := RX9) (T := TX9) (N := 11) hx hb hT in_X9 hown hK hP 0 cw_0 rfl 0 (by decide) (hT _ t451) (fun _ h9 => h9) rfl dX9_feed_55 ?_
    refine va_get (D := D) (ci := 6) (v := .int (s12 2 1)) (C := RX6) (T := TX6) (N := 2) hx hb hT in_X6 hown hK hP 2 cw_2 rfl 1 (by decide) (hT _ t145) (fun _ h9 => h9) rfl dX9_feed_58 ?_
    have h14 : Iv 0 1000 (s12 2 1) := (rb_2_1 hBs12)
    rw [hQ]
    exact W.iret (v := (s12 2 1)) hx hb hr (fun t ht hW => ⟨⟨(s12 2 1), s12, rfl, ⟨hBs12, hFs12, ⟨(iv_mono (c := (-1)) (d := 1000) h14 (by decide) (by decide)), trivial⟩⟩, by rw [ht]; exact hP, va_K.moved hW.alike (hK.sub (tys' := []) [] rfl), by rw [hAe]; exact hD⟩, by rw [hAe]; exact hS.F ht⟩) hS.2.2 dX9_feed_61
  · skip
    have g15 := g9
    refine lv_if_ne (tgt := 12) hx hb dX9_feed_7 (by decide) (fun c16 => ?_) (fun c16 => ?_)
    · first | exact absurd c16 (by decide) | exact absurd (by decide) c16
    refine lv_iconst (v := (-1)) hx hb dX9_feed_10 (by decide) ?_
    rw [hQ]
    exact W.iret (v := (-1)) hx hb hr (fun t ht hW => ⟨⟨(-1), st, rfl, ⟨hB, fr_rf, ⟨(iv_mono (c := (-1)) (d := 1000) (iv_c (by decide) : Iv (-1) (-1) (-1)) (by decide) (by decide)), trivial⟩⟩, by rw [ht]; exact hP, va_K.moved hW.alike (hK.sub (tys' := []) [] rfl), by rw [hAe]; exact hD⟩, by rw [hAe]; exact hS.F ht⟩) hS.2.2 dX9_feed_11
set_option maxHeartbeats 4000000 in
set_option maxRecDepth 100000 in
theorem s_X9_end (l : Launch) (D : va_G) (k : Nat → ClassId) (a : Nat → Nat) (st : CT) (sl : CL) (p0 : Int32) (sz : Nat) (hB : CB st)  : Met l yX9_end (.code yX9_end cX9_end 2 (some .int) :: TB) (rmw 1 0 0) (va_Pc [.ref (a 0), .int p0] (PW D k sz (CWS k a st sl))) (QI D (S := CT) (fun r u => CB u ∧ FR [2] st u ∧ (Iv (-1) 1000 r ∧ (True))) (fun u => CWS k a u sl) (fun _ => []) (CWS k a st sl) sz) 0 0 (va_A (CWS k a st sl) sz) := by
  refine Met.ofW (cc := cX9_end) (maxL := 2) (ret := (some .int)) (by decide) rfl ?_
  intro p e s m args below meth c s₁ B hml hv
  obtain ⟨rfl, hsz, hP, hK, hD0, hN⟩ := hv
  have hx := B.exec
  have hb := B.bytes
  have hr := B.returns
  have hT : ∀ w9 ∈ TB, w9.before ([.ref (a 0), .int p0] : List Value).toArray s = true := fun w9 h => atoms_spec (ws := .code yX9_end cX9_end 2 (some .int) :: TB) B.pre w9 (List.mem_cons_of_mem _ h)
  have hown : s.vm.findClass RX9 = some m.cls := findClass_of_methodNamed B.named
  have S : CallFix p m c cX9_end 2 s _ TB RX9 := ⟨hx, hb, hml, hown, hT⟩
  subst hsz
  have hD := hD0.self (sz := s.heap.size)
  generalize hAe : va_A (CWS k a st sl) s.heap.size = A at hD ⊢
  have hA : ∀ q : Nat, s.heap.size ≤ q → A q := fun q h => by rw [← hAe]; exact Or.inr h
  have hS : va_S A s.heap s.heap [] := va_S.rf
  have hl := lv_entry ([.ref (a 0), .int p0]) (n := 2) (Nat.le_of_ble_eq_true rfl)
  rw [lg_entry_eq]
  generalize (lg_sl ([.ref (a 0), .int p0]) ++ List.replicate (2 - (lg_sl ([.ref (a 0), .int p0])).length) Slot.unset).toArray = ls at hl ⊢
  have hl : lv_has ls 2 [(0, .ref (a 0)), (1, .int p0)] := hl
  refine nameQ (fun Q hQ => ?_)
  refine lv_iload_n hx hb dX9_end_0 rfl (lv_at hl 1 rfl) ?_
  refine lv_if_lt (tgt := 15) hx hb dX9_end_1 (by decide) (fun c1 => ?_) (fun c1 => ?_)
  · skip
    have n2 : p0.toInt < (0 : Int32).toInt := (i_lt c1)
    have h3 : Iv (-2147483648) (-1) p0 := lt_l (iv_full p0) n2 (iv_c (by decide) : Iv 0 0 0) (by decide)
    refine lv_iconst (v := (-1)) hx hb dX9_end_15 (by decide) ?_
    rw [hQ]
    exact W.iret (v := (-1)) hx hb hr (fun t ht hW => ⟨⟨(-1), st, rfl, ⟨hB, fr_rf, ⟨(iv_mono (c := (-1)) (d := 1000) (iv_c (by decide) : Iv (-1) (-1) (-1)) (by decide) (by decide)), trivial⟩⟩, by rw [ht]; exact hP, va_K.moved hW.alike (hK.sub (tys' := []) [] rfl), by rw [hAe]; exact hD⟩, by rw [hAe]; exact hS.F ht⟩) hS.2.2 dX9_end_16
  · skip
    have n4 : (0 : Int32).toInt ≤ p0.toInt := (i_nlt c1)
    have h5 : Iv 0 2147483647 p0 := le_r (iv_c (by decide) : Iv 0 0 0) n4 (iv_full p0) (by decide)
    refine lv_iload_n hx hb dX9_end_4 rfl (lv_at hl 1 rfl) ?_
    refine lv_aload_n hx hb dX9_end_5 rfl (lv_at hl 0 rfl) ?_
    refine va_get (D := D) (ci := 9) (v := .ref (a 2)) (C := RX9) (T := TX9) (N := 11) hx hb hT in_X9 hown hK hP 0 cw_0 rfl 0 (by decide) (hT _ t451) (fun _ h9 => h9) rfl dX9_end_6 ?_
    refine va_get (D := D) (ci := 6) (v := .int (st 2 1)) (C := RX6) (T := TX6) (N := 2) hx hb hT in_X6 hown hK hP 2 cw_2 rfl 1 (by decide) (hT _ t145) (fun _ h9 => h9) rfl dX9_end_9 ?_
    have h6 : Iv 0 1000 (st 2 1) := (rb_2_1 hB)
    refine lv_icmp_le (tgt := 17) hx hb dX9_end_12 (by decide) (fun c7 => ?_) (fun c7 => ?_)
    · skip
      have n8 : p0.toInt ≤ (st 2 1).toInt := (i_le c7)
      have h9 : Iv 0 1000 p0 := le_l h5 n8 h6 (by decide)
      refine lv_aload_n hx hb dX9_end_17 rfl (lv_at hl 0 rfl) ?_
      refine va_get (D := D) (ci := 9) (v := .ref (a 2)) (C := RX9) (T := TX9) (N := 11) hx hb hT in_X9 hown hK hP 0 cw_0 rfl 0 (by decide) (hT _ t451) (fun _ h9 => h9) rfl dX9_end_18 ?_
      refine lv_iload_n hx hb dX9_end_21 rfl (lv_at hl 1 rfl) ?_
      refine c_put (ci := 6) (C := RX6) (T := TX6) (N := 2) (j := 1) (v := p0) hx hb hT in_X6 tyX6 tyX6_ok nmX6 hown hK hP hD hS cw_2 rfl (by decide) (hT _ t145) (by decide +kernel) (by decide +kernel) rfl rfl (Nat.le_of_ble_eq_true rfl) (cs_2 (upd (st 2) 1 p0)) dX9_end_22 (fun s10 H9 locs9 es10 hP9 hD9 hS9 => ?_)
      clear hP hD hS
      have hS := hS9
      have hP := hP9
      have hD := hD9
      clear hP9 hD9 hS9
      have hBs10 : CB s10 := by rw [es10]; exact cb_sw hB (ki_8_1 (hB 2) h9)
      have hFs10 : FR [2] st s10 := fr_sw fr_rf (List.mem_of_getElem? (i := 0) rfl) es10
      refine lv_iload_n hx hb dX9_end_25 rfl (lv_at hl 1 rfl) ?_
      rw [hQ]
      exact W.iret (v := p0) hx hb hr (fun t ht hW => ⟨⟨p0, s10, rfl, ⟨hBs10, hFs10, ⟨(iv_mono (c := (-1)) (d := 1000) h9 (by decide) (by decide)), trivial⟩⟩, by rw [ht]; exact hP, va_K.moved hW.alike (hK.sub (tys' := []) [] rfl), by rw [hAe]; exact hD⟩, by rw [hAe]; exact hS.F ht⟩) hS.2.2 dX9_end_26
    · skip
      have n11 : (st 2 1).toInt < p0.toInt := (i_nle c7)
      have h12 : Iv 1 2147483647 p0 := lt_r h6 n11 h5 (by decide)
      refine lv_iconst (v := (-1)) hx hb dX9_end_15 (by decide) ?_
      rw [hQ]
      exact W.iret (v := (-1)) hx hb hr (fun t ht hW => ⟨⟨(-1), st, rfl, ⟨hB, fr_rf, ⟨(iv_mono (c := (-1)) (d := 1000) (iv_c (by decide) : Iv (-1) (-1) (-1)) (by decide) (by decide)), trivial⟩⟩, by rw [ht]; exact hP, va_K.moved hW.alike (hK.sub (tys' := []) [] rfl), by rw [hAe]; exact hD⟩, by rw [hAe]; exact hS.F ht⟩) hS.2.2 dX9_end_16
set_option maxHeartbeats 4000000 in
set_option maxRecDepth 100000 in
theorem s_X9_fault (l : Launch) (D : va_G) (k : Nat → ClassId) (a : Nat → Nat) (st : CT) (sl : CL) (p0 : Int32) (sz : Nat) (hB : CB st)  : Met l yX9_fault (.code yX9_fault cX9_fault 2 (some .int) :: TB) (rmk 1) (va_Pc [.ref (a 0), .int p0] (PW D k sz (CWS k a st sl))) (vp_Si (fun r => (True))) 0 0 (fun _ => False) := by
  refine Met.ofW (cc := cX9_fault) (maxL := 2) (ret := (some .int)) (by decide) rfl ?_
  intro p e s m args below meth c s₁ B hml hv
  obtain ⟨rfl, hsz, hP, hK, hD0, hN⟩ := hv
  have hx := B.exec
  have hb := B.bytes
  have hr := B.returns
  have hT : ∀ w9 ∈ TB, w9.before ([.ref (a 0), .int p0] : List Value).toArray s = true := fun w9 h => atoms_spec (ws := .code yX9_fault cX9_fault 2 (some .int) :: TB) B.pre w9 (List.mem_cons_of_mem _ h)
  have hown : s.vm.findClass RX9 = some m.cls := findClass_of_methodNamed B.named
  have S : CallFix p m c cX9_fault 2 s _ TB RX9 := ⟨hx, hb, hml, hown, hT⟩
  subst hsz
  have hl := lv_entry ([.ref (a 0), .int p0]) (n := 2) (Nat.le_of_ble_eq_true rfl)
  rw [lg_entry_eq]
  generalize (lg_sl ([.ref (a 0), .int p0]) ++ List.replicate (2 - (lg_sl ([.ref (a 0), .int p0])).length) Slot.unset).toArray = ls at hl ⊢
  have hl : lv_has ls 2 [(0, .ref (a 0)), (1, .int p0)] := hl
  refine nameQ (fun Q hQ => ?_)
  refine lv_iload_n hx hb dX9_fault_0 rfl (lv_at hl 1 rfl) ?_
  refine lv_if_ne (tgt := 12) hx hb dX9_fault_1 (by decide) (fun c1 => ?_) (fun c1 => ?_)
  · skip
    refine lv_iload_n hx hb dX9_fault_12 rfl (lv_at hl 1 rfl) ?_
    refine lv_iconst (v := 1) hx hb dX9_fault_13 (by decide) ?_
    refine lv_icmp_ne (tgt := 27) hx hb dX9_fault_14 (by decide) (fun c2 => ?_) (fun c2 => ?_)
    · skip
      refine lv_iconst (v := (-1)) hx hb dX9_fault_27 (by decide) ?_
      rw [hQ]
      exact W.iret (v := (-1)) hx hb hr (fun t ht hW => ⟨(-1), rfl, trivial, ht⟩) (fun _ h9 => by cases h9) dX9_fault_28
    · skip
      have h3 : Iv 1 1 p0 := eq_l c2 (iv_c (by decide) : Iv 1 1 1)
      refine lv_aload_n hx hb dX9_fault_17 rfl (lv_at hl 0 rfl) ?_
      refine va_get (D := D) (ci := 9) (v := .ref (a 1)) (C := RX9) (T := TX9) (N := 11) hx hb hT in_X9 hown hK hP 0 cw_0 rfl 1 (by decide) (hT _ t452) (fun _ h9 => h9) rfl dX9_fault_18 ?_
      refine va_get (D := D) (ci := 2) (v := .int (st 1 3)) (C := RX2) (T := TX2) (N := 8) hx hb hT in_X2 hown hK hP 1 cw_1 rfl 3 (by decide) (hT _ t279) (fun _ h9 => h9) rfl dX9_fault_21 ?_
      refine lv_goto (tgt := 28) hx hb dX9_fault_24 (by decide) ?_
      rw [hQ]
      exact W.iret (v := (st 1 3)) hx hb hr (fun t ht hW => ⟨(st 1 3), rfl, trivial, ht⟩) (fun _ h9 => by cases h9) dX9_fault_28
  · skip
    have h4 : Iv 0 0 p0 := eq_l c1 (iv_c (by decide) : Iv 0 0 0)
    refine lv_aload_n hx hb dX9_fault_4 rfl (lv_at hl 0 rfl) ?_
    refine va_get (D := D) (ci := 9) (v := .ref (a 1)) (C := RX9) (T := TX9) (N := 11) hx hb hT in_X9 hown hK hP 0 cw_0 rfl 1 (by decide) (hT _ t452) (fun _ h9 => h9) rfl dX9_fault_5 ?_
    refine va_get (D := D) (ci := 2) (v := .int (st 1 2)) (C := RX2) (T := TX2) (N := 8) hx hb hT in_X2 hown hK hP 1 cw_1 rfl 2 (by decide) (hT _ t277) (fun _ h9 => h9) rfl dX9_fault_8 ?_
    rw [hQ]
    exact W.iret (v := (st 1 2)) hx hb hr (fun t ht hW => ⟨(st 1 2), rfl, trivial, ht⟩) (fun _ h9 => by cases h9) dX9_fault_11
set_option maxHeartbeats 4000000 in
set_option maxRecDepth 100000 in
theorem s_X9_road (l : Launch) (D : va_G) (k : Nat → ClassId) (a : Nat → Nat) (st : CT) (sl : CL) (p0 : Int32) (p1 : Int32) (sz : Nat) (hB : CB st)  : Met l yX9_road (.code yX9_road cX9_road 3 (some .int) :: TB) (rmk 2) (va_Pc [.ref (a 0), .int p0, .int p1] (PW D k sz (CWS k a st sl))) (vp_Si (fun r => (True))) 0 0 (fun _ => False) := by
  refine Met.ofW (cc := cX9_road) (maxL := 3) (ret := (some .int)) (by decide) rfl ?_
  intro p e s m args below meth c s₁ B hml hv
  obtain ⟨rfl, hsz, hP, hK, hD0, hN⟩ := hv
  have hx := B.exec
  have hb := B.bytes
  have hr := B.returns
  have hT : ∀ w9 ∈ TB, w9.before ([.ref (a 0), .int p0, .int p1] : List Value).toArray s = true := fun w9 h => atoms_spec (ws := .code yX9_road cX9_road 3 (some .int) :: TB) B.pre w9 (List.mem_cons_of_mem _ h)
  have hown : s.vm.findClass RX9 = some m.cls := findClass_of_methodNamed B.named
  have S : CallFix p m c cX9_road 3 s _ TB RX9 := ⟨hx, hb, hml, hown, hT⟩
  subst hsz
  have hl := lv_entry ([.ref (a 0), .int p0, .int p1]) (n := 3) (Nat.le_of_ble_eq_true rfl)
  rw [lg_entry_eq]
  generalize (lg_sl ([.ref (a 0), .int p0, .int p1]) ++ List.replicate (3 - (lg_sl ([.ref (a 0), .int p0, .int p1])).length) Slot.unset).toArray = ls at hl ⊢
  have hl : lv_has ls 3 [(0, .ref (a 0)), (1, .int p0), (2, .int p1)] := hl
  refine nameQ (fun Q hQ => ?_)
  refine lv_aload_n hx hb dX9_road_0 rfl (lv_at hl 0 rfl) ?_
  refine va_get (D := D) (ci := 9) (v := .ref (a 17)) (C := RX9) (T := TX9) (N := 11) hx hb hT in_X9 hown hK hP 0 cw_0 rfl 2 (by decide) (hT _ t453) (fun _ h9 => h9) rfl dX9_road_1 ?_
  refine va_get (D := D) (ci := 8) (v := .ref (a 18)) (C := RX8) (T := TX8) (N := 6) hx hb hT in_X8 hown hK hP 17 cw_17 rfl 0 (by decide) (hT _ t312) (fun _ h9 => h9) rfl dX9_road_4 ?_
  refine lv_iload_n hx hb dX9_road_7 rfl (lv_at hl 1 rfl) ?_
  refine ro_V (As := [.int p0]) (rest := []) S (s_X1_isRoad l D k a st sl  p0 _  hB  ) lkX9_114 ok_X1_isRoad ⟨rfl, rfl, Nat.le_of_ble_eq_true rfl, Nat.le_of_ble_eq_true rfl⟩ (pw_V (ci := 1) (q0 := 18) hK hN rfl cw_18 hP hD0) rfl hl.1 rfl (Nat.le_of_ble_eq_true rfl) ⟨Nat.zero_le _, Nat.zero_le _⟩ dX9_road_8 (fun r1 er1 => ?_)
  rcases er1 with ⟨rfl, g9⟩ | ⟨rfl, g9⟩
  · skip
    have g2 := g9
    have h3 : Iv 0 7 p0 := g2.1
    refine lv_if_ne (tgt := 17) hx hb dX9_road_11 (by decide) (fun c4 => ?_) (fun c4 => ?_)
    rotate_left
    · first | exact absurd c4 (by decide) | exact absurd (by decide) c4
    refine lv_iload_n hx hb dX9_road_17 rfl (lv_at hl 2 rfl) ?_
    by_cases c5 : p1.toInt < 0 ∨ 2 < p1.toInt
    · refine lv_tableOut (tgt := 83) hx hb dX9_road_18 c5 (by decide) ?_
      refine lv_bipush (v := (-2)) hx hb dX9_road_83 (by decide) ?_
      rw [hQ]
      exact W.iret (v := (-2)) hx hb hr (fun t ht hW => ⟨(-2), rfl, trivial, ht⟩) (fun _ h9 => by cases h9) dX9_road_85
    · skip
      have h6 : Iv 0 2 p1 := ⟨by omega, by omega⟩
      rcases iv_ca3 h6 0 1 2 (by decide) (by decide) (by decide) (by decide) with q9 | q9 | q9
      · have q7 := q9
        refine lv_tableIn (off := 26) (tgt := 44) hx hb dX9_road_18 (by rw [q9]; decide) (by rw [q9]; decide) (by rw [q9]; decide +kernel) (by decide) ?_
        have h8 : Iv 0 0 p1 := (by rw [q9]; exact iv_c (by decide))
        refine lv_aload_n hx hb dX9_road_44 rfl (lv_at hl 0 rfl) ?_
        refine va_get (D := D) (ci := 9) (v := .ref (a 17)) (C := RX9) (T := TX9) (N := 11) hx hb hT in_X9 hown hK hP 0 cw_0 rfl 2 (by decide) (hT _ t453) (fun _ h9 => h9) rfl dX9_road_45 ?_
        refine va_get (D := D) (ci := 8) (v := .ref (a 18)) (C := RX8) (T := TX8) (N := 6) hx hb hT in_X8 hown hK hP 17 cw_17 rfl 0 (by decide) (hT _ t312) (fun _ h9 => h9) rfl dX9_road_48 ?_
        refine va_get (D := D) (ci := 1) (v := .ref (a 19)) (C := RX1) (T := TX1) (N := 14) hx hb hT in_X1 hown hK hP 18 cw_18 rfl 7 (by decide) (hT _ t224) (fun _ h9 => h9) rfl dX9_road_51 ?_
        refine lv_iload_n hx hb dX9_road_54 rfl (lv_at hl 1 rfl) ?_
        refine va_iald hx hb hK hP 19 0 cw_19 rfl (iv_in h3 (by decide) (by decide)) dX9_road_55 ?_
        refine lv_topi (fun z9 ez9 => ?_)
        have h10 : Iv 0 5 z9 := by rw [ez9]; exact (rb_19 hB (vp_in_lt (iv_in h3 (by decide) (by decide))))
        rw [hQ]
        exact W.iret (v := z9) hx hb hr (fun t ht hW => ⟨z9, rfl, trivial, ht⟩) (fun _ h9 => by cases h9) dX9_road_56
      · have q11 := q9
        refine lv_tableIn (off := 39) (tgt := 57) hx hb dX9_road_18 (by rw [q9]; decide) (by rw [q9]; decide) (by rw [q9]; decide +kernel) (by decide) ?_
        have h12 : Iv 1 1 p1 := (by rw [q9]; exact iv_c (by decide))
        refine lv_aload_n hx hb dX9_road_57 rfl (lv_at hl 0 rfl) ?_
        refine va_get (D := D) (ci := 9) (v := .ref (a 17)) (C := RX9) (T := TX9) (N := 11) hx hb hT in_X9 hown hK hP 0 cw_0 rfl 2 (by decide) (hT _ t453) (fun _ h9 => h9) rfl dX9_road_58 ?_
        refine va_get (D := D) (ci := 8) (v := .ref (a 18)) (C := RX8) (T := TX8) (N := 6) hx hb hT in_X8 hown hK hP 17 cw_17 rfl 0 (by decide) (hT _ t312) (fun _ h9 => h9) rfl dX9_road_61 ?_
        refine va_get (D := D) (ci := 1) (v := .ref (a 20)) (C := RX1) (T := TX1) (N := 14) hx hb hT in_X1 hown hK hP 18 cw_18 rfl 8 (by decide) (hT _ t227) (fun _ h9 => h9) rfl dX9_road_64 ?_
        refine lv_iload_n hx hb dX9_road_67 rfl (lv_at hl 1 rfl) ?_
        refine va_iald hx hb hK hP 20 0 cw_20 rfl (iv_in h3 (by decide) (by decide)) dX9_road_68 ?_
        refine lv_topi (fun z13 ez13 => ?_)
        have h14 : Iv 0 5 z13 := by rw [ez13]; exact (rb_20 hB (vp_in_lt (iv_in h3 (by decide) (by decide))))
        rw [hQ]
        exact W.iret (v := z13) hx hb hr (fun t ht hW => ⟨z13, rfl, trivial, ht⟩) (fun _ h9 => by cases h9) dX9_road_69
      · have q15 := q9
        refine lv_tableIn (off := 52) (tgt := 70) hx hb dX9_road_18 (by rw [q9]; decide) (by rw [q9]; decide) (by rw [q9]; decide +kernel) (by decide) ?_
        have h16 : Iv 2 2 p1 := (by rw [q9]; exact iv_c (by decide))
        refine lv_aload_n hx hb dX9_road_70 rfl (lv_at hl 0 rfl) ?_
        refine va_get (D := D) (ci := 9) (v := .ref (a 17)) (C := RX9) (T := TX9) (N := 11) hx hb hT in_X9 hown hK hP 0 cw_0 rfl 2 (by decide) (hT _ t453) (fun _ h9 => h9) rfl dX9_road_71 ?_
        refine va_get (D := D) (ci := 8) (v := .ref (a 18)) (C := RX8) (T := TX8) (N := 6) hx hb hT in_X8 hown hK hP 17 cw_17 rfl 0 (by decide) (hT _ t312) (fun _ h9 => h9) rfl dX9_road_74 ?_
        refine va_get (D := D) (ci := 1) (v := .ref (a 21)) (C := RX1) (T := TX1) (N := 14) hx hb hT in_X1 hown hK hP 18 cw_18 rfl 9 (by decide) (hT _ t231) (fun _ h9 => h9) rfl dX9_road_77 ?_
        refine lv_iload_n hx hb dX9_road_80 rfl (lv_at hl 1 rfl) ?_
        refine va_iald hx hb hK hP 21 0 cw_21 rfl (iv_in h3 (by decide) (by decide)) dX9_road_81 ?_
        refine lv_topi (fun z17 ez17 => ?_)
        rw [hQ]
        exact W.iret (v := z17) hx hb hr (fun t ht hW => ⟨z17, rfl, trivial, ht⟩) (fun _ h9 => by cases h9) dX9_road_82
  · skip
    have g18 := g9
    refine lv_if_ne (tgt := 17) hx hb dX9_road_11 (by decide) (fun c19 => ?_) (fun c19 => ?_)
    · first | exact absurd c19 (by decide) | exact absurd (by decide) c19
    refine lv_bipush (v := (-2)) hx hb dX9_road_14 (by decide) ?_
    rw [hQ]
    exact W.iret (v := (-2)) hx hb hr (fun t ht hW => ⟨(-2), rfl, trivial, ht⟩) (fun _ h9 => by cases h9) dX9_road_16
set_option maxHeartbeats 4000000 in
set_option maxRecDepth 100000 in
theorem s_X9_likes (l : Launch) (D : va_G) (k : Nat → ClassId) (a : Nat → Nat) (st : CT) (sl : CL) (p0 : Int32) (p1 : Int32) (sz : Nat) (hB : CB st)  : Met l yX9_likes (.code yX9_likes cX9_likes 3 (some .int) :: TB) (rmk 2) (va_Pc [.ref (a 0), .int p0, .int p1] (PW D k sz (CWS k a st sl))) (vp_Si (fun r => Iv (-2) 9 r ∧ (True))) 0 0 (fun _ => False) := by
  refine Met.ofW (cc := cX9_likes) (maxL := 3) (ret := (some .int)) (by decide) rfl ?_
  intro p e s m args below meth c s₁ B hml hv
  obtain ⟨rfl, hsz, hP, hK, hD0, hN⟩ := hv
  have hx := B.exec
  have hb := B.bytes
  have hr := B.returns
  have hT : ∀ w9 ∈ TB, w9.before ([.ref (a 0), .int p0, .int p1] : List Value).toArray s = true := fun w9 h => atoms_spec (ws := .code yX9_likes cX9_likes 3 (some .int) :: TB) B.pre w9 (List.mem_cons_of_mem _ h)
  have hown : s.vm.findClass RX9 = some m.cls := findClass_of_methodNamed B.named
  have S : CallFix p m c cX9_likes 3 s _ TB RX9 := ⟨hx, hb, hml, hown, hT⟩
  subst hsz
  have hl := lv_entry ([.ref (a 0), .int p0, .int p1]) (n := 3) (Nat.le_of_ble_eq_true rfl)
  rw [lg_entry_eq]
  generalize (lg_sl ([.ref (a 0), .int p0, .int p1]) ++ List.replicate (3 - (lg_sl ([.ref (a 0), .int p0, .int p1])).length) Slot.unset).toArray = ls at hl ⊢
  have hl : lv_has ls 3 [(0, .ref (a 0)), (1, .int p0), (2, .int p1)] := hl
  refine nameQ (fun Q hQ => ?_)
  refine lv_aload_n hx hb dX9_likes_0 rfl (lv_at hl 0 rfl) ?_
  refine va_get (D := D) (ci := 9) (v := .ref (a 17)) (C := RX9) (T := TX9) (N := 11) hx hb hT in_X9 hown hK hP 0 cw_0 rfl 2 (by decide) (hT _ t453) (fun _ h9 => h9) rfl dX9_likes_1 ?_
  refine va_get (D := D) (ci := 8) (v := .ref (a 18)) (C := RX8) (T := TX8) (N := 6) hx hb hT in_X8 hown hK hP 17 cw_17 rfl 0 (by decide) (hT _ t312) (fun _ h9 => h9) rfl dX9_likes_4 ?_
  refine lv_iload_n hx hb dX9_likes_7 rfl (lv_at hl 1 rfl) ?_
  refine ro_V (As := [.int p0]) (rest := []) S (s_X1_isWheel l D k a st sl  p0 _  hB  ) lkX9_127 ok_X1_isWheel ⟨rfl, rfl, Nat.le_of_ble_eq_true rfl, Nat.le_of_ble_eq_true rfl⟩ (pw_V (ci := 1) (q0 := 18) hK hN rfl cw_18 hP hD0) rfl hl.1 rfl (Nat.le_of_ble_eq_true rfl) ⟨Nat.zero_le _, Nat.zero_le _⟩ dX9_likes_8 (fun r1 er1 => ?_)
  rcases er1 with ⟨rfl, g9⟩ | ⟨rfl, g9⟩
  · skip
    have g2 := g9
    have h3 : Iv 0 7 p0 := g2.1
    refine lv_if_eq (tgt := 28) hx hb dX9_likes_11 (by decide) (fun c4 => ?_) (fun c4 => ?_)
    · first | exact absurd c4 (by decide) | exact absurd (by decide) c4
    refine lv_aload_n hx hb dX9_likes_14 rfl (lv_at hl 0 rfl) ?_
    refine va_get (D := D) (ci := 9) (v := .ref (a 17)) (C := RX9) (T := TX9) (N := 11) hx hb hT in_X9 hown hK hP 0 cw_0 rfl 2 (by decide) (hT _ t453) (fun _ h9 => h9) rfl dX9_likes_15 ?_
    refine va_get (D := D) (ci := 8) (v := .ref (a 18)) (C := RX8) (T := TX8) (N := 6) hx hb hT in_X8 hown hK hP 17 cw_17 rfl 0 (by decide) (hT _ t312) (fun _ h9 => h9) rfl dX9_likes_18 ?_
    refine lv_iload_n hx hb dX9_likes_21 rfl (lv_at hl 2 rfl) ?_
    refine ro_V (As := [.int p1]) (rest := []) S (s_X1_isRoad l D k a st sl  p1 _  hB  ) lkX9_114 ok_X1_isRoad ⟨rfl, rfl, Nat.le_of_ble_eq_true rfl, Nat.le_of_ble_eq_true rfl⟩ (pw_V (ci := 1) (q0 := 18) hK hN rfl cw_18 hP hD0) rfl hl.1 rfl (Nat.le_of_ble_eq_true rfl) ⟨Nat.zero_le _, Nat.zero_le _⟩ dX9_likes_22 (fun r5 er5 => ?_)
    rcases er5 with ⟨rfl, g9⟩ | ⟨rfl, g9⟩
    · skip
      have g6 := g9
      have h7 : Iv 0 7 p1 := g6.1
      refine lv_if_ne (tgt := 31) hx hb dX9_likes_25 (by decide) (fun c8 => ?_) (fun c8 => ?_)
      rotate_left
      · first | exact absurd c8 (by decide) | exact absurd (by decide) c8
      refine lv_aload_n hx hb dX9_likes_31 rfl (lv_at hl 0 rfl) ?_
      refine va_get (D := D) (ci := 9) (v := .ref (a 17)) (C := RX9) (T := TX9) (N := 11) hx hb hT in_X9 hown hK hP 0 cw_0 rfl 2 (by decide) (hT _ t453) (fun _ h9 => h9) rfl dX9_likes_32 ?_
      refine va_get (D := D) (ci := 8) (v := .ref (a 31)) (C := RX8) (T := TX8) (N := 6) hx hb hT in_X8 hown hK hP 17 cw_17 rfl 1 (by decide) (hT _ t314) (fun _ h9 => h9) rfl dX9_likes_35 ?_
      refine lv_iload_n hx hb dX9_likes_38 rfl (lv_at hl 1 rfl) ?_
      refine lv_iload_n hx hb dX9_likes_39 rfl (lv_at hl 2 rfl) ?_
      refine ro_V (As := [.int p0, .int p1]) (rest := []) S (s_X5_likeOf l D k a st sl 31 p0 p1 _ (by decide) hB h3 h7 ) lkX9_133 ok_X5_likeOf ⟨rfl, rfl, Nat.le_of_ble_eq_true rfl, Nat.le_of_ble_eq_true rfl⟩ (pw_V (ci := 5) (q0 := 31) hK hN rfl cw_31 hP hD0) rfl hl.1 rfl (Nat.le_of_ble_eq_true rfl) ⟨Nat.zero_le _, Nat.zero_le _⟩ dX9_likes_40 (fun r9 er9 => ?_)
      have h10 : Iv 0 9 r9 := er9.1
      rw [hQ]
      exact W.iret (v := r9) hx hb hr (fun t ht hW => ⟨r9, rfl, ⟨(iv_mono (c := (-2)) (d := 9) h10 (by decide) (by decide)), trivial⟩, ht⟩) (fun _ h9 => by cases h9) dX9_likes_43
    · skip
      have g11 := g9
      refine lv_if_ne (tgt := 31) hx hb dX9_likes_25 (by decide) (fun c12 => ?_) (fun c12 => ?_)
      · first | exact absurd c12 (by decide) | exact absurd (by decide) c12
      refine lv_bipush (v := (-2)) hx hb dX9_likes_28 (by decide) ?_
      rw [hQ]
      exact W.iret (v := (-2)) hx hb hr (fun t ht hW => ⟨(-2), rfl, ⟨(iv_mono (c := (-2)) (d := 9) (iv_c (by decide) : Iv (-2) (-2) (-2)) (by decide) (by decide)), trivial⟩, ht⟩) (fun _ h9 => by cases h9) dX9_likes_30
  · skip
    have g13 := g9
    refine lv_if_eq (tgt := 28) hx hb dX9_likes_11 (by decide) (fun c14 => ?_) (fun c14 => ?_)
    rotate_left
    · first | exact absurd c14 (by decide) | exact absurd (by decide) c14
    refine lv_bipush (v := (-2)) hx hb dX9_likes_28 (by decide) ?_
    rw [hQ]
    exact W.iret (v := (-2)) hx hb hr (fun t ht hW => ⟨(-2), rfl, ⟨(iv_mono (c := (-2)) (d := 9) (iv_c (by decide) : Iv (-2) (-2) (-2)) (by decide) (by decide)), trivial⟩, ht⟩) (fun _ h9 => by cases h9) dX9_likes_30
set_option maxHeartbeats 4000000 in
set_option maxRecDepth 100000 in
theorem s_X9_wheel (l : Launch) (D : va_G) (k : Nat → ClassId) (a : Nat → Nat) (st : CT) (sl : CL) (p0 : Int32) (p1 : Int32) (sz : Nat) (hB : CB st)  : Met l yX9_wheel (.code yX9_wheel cX9_wheel 3 (some .int) :: TB) (rmk 2) (va_Pc [.ref (a 0), .int p0, .int p1] (PW D k sz (CWS k a st sl))) (vp_Si (fun r => (True))) 0 0 (fun _ => False) := by
  refine Met.ofW (cc := cX9_wheel) (maxL := 3) (ret := (some .int)) (by decide) rfl ?_
  intro p e s m args below meth c s₁ B hml hv
  obtain ⟨rfl, hsz, hP, hK, hD0, hN⟩ := hv
  have hx := B.exec
  have hb := B.bytes
  have hr := B.returns
  have hT : ∀ w9 ∈ TB, w9.before ([.ref (a 0), .int p0, .int p1] : List Value).toArray s = true := fun w9 h => atoms_spec (ws := .code yX9_wheel cX9_wheel 3 (some .int) :: TB) B.pre w9 (List.mem_cons_of_mem _ h)
  have hown : s.vm.findClass RX9 = some m.cls := findClass_of_methodNamed B.named
  have S : CallFix p m c cX9_wheel 3 s _ TB RX9 := ⟨hx, hb, hml, hown, hT⟩
  subst hsz
  have hl := lv_entry ([.ref (a 0), .int p0, .int p1]) (n := 3) (Nat.le_of_ble_eq_true rfl)
  rw [lg_entry_eq]
  generalize (lg_sl ([.ref (a 0), .int p0, .int p1]) ++ List.replicate (3 - (lg_sl ([.ref (a 0), .int p0, .int p1])).length) Slot.unset).toArray = ls at hl ⊢
  have hl : lv_has ls 3 [(0, .ref (a 0)), (1, .int p0), (2, .int p1)] := hl
  refine nameQ (fun Q hQ => ?_)
  refine lv_aload_n hx hb dX9_wheel_0 rfl (lv_at hl 0 rfl) ?_
  refine va_get (D := D) (ci := 9) (v := .ref (a 17)) (C := RX9) (T := TX9) (N := 11) hx hb hT in_X9 hown hK hP 0 cw_0 rfl 2 (by decide) (hT _ t453) (fun _ h9 => h9) rfl dX9_wheel_1 ?_
  refine va_get (D := D) (ci := 8) (v := .ref (a 18)) (C := RX8) (T := TX8) (N := 6) hx hb hT in_X8 hown hK hP 17 cw_17 rfl 0 (by decide) (hT _ t312) (fun _ h9 => h9) rfl dX9_wheel_4 ?_
  refine lv_iload_n hx hb dX9_wheel_7 rfl (lv_at hl 1 rfl) ?_
  refine ro_V (As := [.int p0]) (rest := []) S (s_X1_isWheel l D k a st sl  p0 _  hB  ) lkX9_127 ok_X1_isWheel ⟨rfl, rfl, Nat.le_of_ble_eq_true rfl, Nat.le_of_ble_eq_true rfl⟩ (pw_V (ci := 1) (q0 := 18) hK hN rfl cw_18 hP hD0) rfl hl.1 rfl (Nat.le_of_ble_eq_true rfl) ⟨Nat.zero_le _, Nat.zero_le _⟩ dX9_wheel_8 (fun r1 er1 => ?_)
  rcases er1 with ⟨rfl, g9⟩ | ⟨rfl, g9⟩
  · skip
    have g2 := g9
    have h3 : Iv 0 7 p0 := g2.1
    refine lv_if_ne (tgt := 17) hx hb dX9_wheel_11 (by decide) (fun c4 => ?_) (fun c4 => ?_)
    rotate_left
    · first | exact absurd c4 (by decide) | exact absurd (by decide) c4
    refine lv_iload_n hx hb dX9_wheel_17 rfl (lv_at hl 2 rfl) ?_
    by_cases c5 : p1.toInt < 0 ∨ 2 < p1.toInt
    · refine lv_tableOut (tgt := 82) hx hb dX9_wheel_18 c5 (by decide) ?_
      refine lv_bipush (v := (-2)) hx hb dX9_wheel_82 (by decide) ?_
      rw [hQ]
      exact W.iret (v := (-2)) hx hb hr (fun t ht hW => ⟨(-2), rfl, trivial, ht⟩) (fun _ h9 => by cases h9) dX9_wheel_84
    · skip
      have h6 : Iv 0 2 p1 := ⟨by omega, by omega⟩
      rcases iv_ca3 h6 0 1 2 (by decide) (by decide) (by decide) (by decide) with q9 | q9 | q9
      · have q7 := q9
        refine lv_tableIn (off := 26) (tgt := 44) hx hb dX9_wheel_18 (by rw [q9]; decide) (by rw [q9]; decide) (by rw [q9]; decide +kernel) (by decide) ?_
        have h8 : Iv 0 0 p1 := (by rw [q9]; exact iv_c (by decide))
        refine lv_aload_n hx hb dX9_wheel_44 rfl (lv_at hl 0 rfl) ?_
        refine va_get (D := D) (ci := 9) (v := .ref (a 17)) (C := RX9) (T := TX9) (N := 11) hx hb hT in_X9 hown hK hP 0 cw_0 rfl 2 (by decide) (hT _ t453) (fun _ h9 => h9) rfl dX9_wheel_45 ?_
        refine va_get (D := D) (ci := 8) (v := .ref (a 31)) (C := RX8) (T := TX8) (N := 6) hx hb hT in_X8 hown hK hP 17 cw_17 rfl 1 (by decide) (hT _ t314) (fun _ h9 => h9) rfl dX9_wheel_48 ?_
        refine va_get (D := D) (ci := 5) (v := .ref (a 33)) (C := RX5) (T := TX5) (N := 5) hx hb hT in_X5 hown hK hP 31 cw_31 rfl 1 (by decide) (hT _ t171) (fun _ h9 => h9) rfl dX9_wheel_51 ?_
        refine lv_iload_n hx hb dX9_wheel_54 rfl (lv_at hl 1 rfl) ?_
        refine va_iald hx hb hK hP 33 0 cw_33 rfl (iv_in h3 (by decide) (by decide)) dX9_wheel_55 ?_
        refine lv_topi (fun z9 ez9 => ?_)
        rw [hQ]
        exact W.iret (v := z9) hx hb hr (fun t ht hW => ⟨z9, rfl, trivial, ht⟩) (fun _ h9 => by cases h9) dX9_wheel_56
      · have q10 := q9
        refine lv_tableIn (off := 39) (tgt := 57) hx hb dX9_wheel_18 (by rw [q9]; decide) (by rw [q9]; decide) (by rw [q9]; decide +kernel) (by decide) ?_
        have h11 : Iv 1 1 p1 := (by rw [q9]; exact iv_c (by decide))
        refine lv_aload_n hx hb dX9_wheel_57 rfl (lv_at hl 0 rfl) ?_
        refine va_get (D := D) (ci := 9) (v := .ref (a 17)) (C := RX9) (T := TX9) (N := 11) hx hb hT in_X9 hown hK hP 0 cw_0 rfl 2 (by decide) (hT _ t453) (fun _ h9 => h9) rfl dX9_wheel_58 ?_
        refine va_get (D := D) (ci := 8) (v := .ref (a 31)) (C := RX8) (T := TX8) (N := 6) hx hb hT in_X8 hown hK hP 17 cw_17 rfl 1 (by decide) (hT _ t314) (fun _ h9 => h9) rfl dX9_wheel_61 ?_
        refine va_get (D := D) (ci := 5) (v := .ref (a 34)) (C := RX5) (T := TX5) (N := 5) hx hb hT in_X5 hown hK hP 31 cw_31 rfl 2 (by decide) (hT _ t175) (fun _ h9 => h9) rfl dX9_wheel_64 ?_
        refine lv_iload_n hx hb dX9_wheel_67 rfl (lv_at hl 1 rfl) ?_
        refine va_iald hx hb hK hP 34 0 cw_34 rfl (iv_in h3 (by decide) (by decide)) dX9_wheel_68 ?_
        refine lv_topi (fun z12 ez12 => ?_)
        rw [hQ]
        exact W.iret (v := z12) hx hb hr (fun t ht hW => ⟨z12, rfl, trivial, ht⟩) (fun _ h9 => by cases h9) dX9_wheel_69
      · have q13 := q9
        refine lv_tableIn (off := 52) (tgt := 70) hx hb dX9_wheel_18 (by rw [q9]; decide) (by rw [q9]; decide) (by rw [q9]; decide +kernel) (by decide) ?_
        have h14 : Iv 2 2 p1 := (by rw [q9]; exact iv_c (by decide))
        refine lv_aload_n hx hb dX9_wheel_70 rfl (lv_at hl 0 rfl) ?_
        refine va_get (D := D) (ci := 9) (v := .ref (a 17)) (C := RX9) (T := TX9) (N := 11) hx hb hT in_X9 hown hK hP 0 cw_0 rfl 2 (by decide) (hT _ t453) (fun _ h9 => h9) rfl dX9_wheel_71 ?_
        refine va_get (D := D) (ci := 8) (v := .ref (a 31)) (C := RX8) (T := TX8) (N := 6) hx hb hT in_X8 hown hK hP 17 cw_17 rfl 1 (by decide) (hT _ t314) (fun _ h9 => h9) rfl dX9_wheel_74 ?_
        refine lv_iload_n hx hb dX9_wheel_77 rfl (lv_at hl 1 rfl) ?_
        refine ro_V (As := [.int p0]) (rest := []) S (s_X5_likesAll l D k a st sl 31 p0 _ (by decide) hB h3 ) lkX9_143 ok_X5_likesAll ⟨rfl, rfl, Nat.le_of_ble_eq_true rfl, Nat.le_of_ble_eq_true rfl⟩ (pw_V (ci := 5) (q0 := 31) hK hN rfl cw_31 hP hD0) rfl hl.1 rfl (Nat.le_of_ble_eq_true rfl) ⟨Nat.zero_le _, Nat.zero_le _⟩ dX9_wheel_78 (fun r15 er15 => ?_)
        rw [hQ]
        exact W.iret (v := r15) hx hb hr (fun t ht hW => ⟨r15, rfl, trivial, ht⟩) (fun _ h9 => by cases h9) dX9_wheel_81
  · skip
    have g16 := g9
    refine lv_if_ne (tgt := 17) hx hb dX9_wheel_11 (by decide) (fun c17 => ?_) (fun c17 => ?_)
    · first | exact absurd c17 (by decide) | exact absurd (by decide) c17
    refine lv_bipush (v := (-2)) hx hb dX9_wheel_14 (by decide) ?_
    rw [hQ]
    exact W.iret (v := (-2)) hx hb hr (fun t ht hW => ⟨(-2), rfl, trivial, ht⟩) (fun _ h9 => by cases h9) dX9_wheel_16
set_option maxHeartbeats 4000000 in
set_option maxRecDepth 100000 in
theorem s_X9_cart (l : Launch) (D : va_G) (k : Nat → ClassId) (a : Nat → Nat) (st : CT) (sl : CL) (p0 : Int32) (p1 : Int32) (sz : Nat) (hB : CB st)  : Met l yX9_cart (.code yX9_cart cX9_cart 3 (some .int) :: TB) (rmk 2) (va_Pc [.ref (a 0), .int p0, .int p1] (PW D k sz (CWS k a st sl))) (vp_Si (fun r => (True))) 0 0 (fun _ => False) := by
  refine Met.ofW (cc := cX9_cart) (maxL := 3) (ret := (some .int)) (by decide) rfl ?_
  intro p e s m args below meth c s₁ B hml hv
  obtain ⟨rfl, hsz, hP, hK, hD0, hN⟩ := hv
  have hx := B.exec
  have hb := B.bytes
  have hr := B.returns
  have hT : ∀ w9 ∈ TB, w9.before ([.ref (a 0), .int p0, .int p1] : List Value).toArray s = true := fun w9 h => atoms_spec (ws := .code yX9_cart cX9_cart 3 (some .int) :: TB) B.pre w9 (List.mem_cons_of_mem _ h)
  have hown : s.vm.findClass RX9 = some m.cls := findClass_of_methodNamed B.named
  have S : CallFix p m c cX9_cart 3 s _ TB RX9 := ⟨hx, hb, hml, hown, hT⟩
  subst hsz
  have hl := lv_entry ([.ref (a 0), .int p0, .int p1]) (n := 3) (Nat.le_of_ble_eq_true rfl)
  rw [lg_entry_eq]
  generalize (lg_sl ([.ref (a 0), .int p0, .int p1]) ++ List.replicate (3 - (lg_sl ([.ref (a 0), .int p0, .int p1])).length) Slot.unset).toArray = ls at hl ⊢
  have hl : lv_has ls 3 [(0, .ref (a 0)), (1, .int p0), (2, .int p1)] := hl
  refine nameQ (fun Q hQ => ?_)
  refine lv_aload_n hx hb dX9_cart_0 rfl (lv_at hl 0 rfl) ?_
  refine va_get (D := D) (ci := 9) (v := .ref (a 17)) (C := RX9) (T := TX9) (N := 11) hx hb hT in_X9 hown hK hP 0 cw_0 rfl 2 (by decide) (hT _ t453) (fun _ h9 => h9) rfl dX9_cart_1 ?_
  refine va_get (D := D) (ci := 8) (v := .ref (a 18)) (C := RX8) (T := TX8) (N := 6) hx hb hT in_X8 hown hK hP 17 cw_17 rfl 0 (by decide) (hT _ t312) (fun _ h9 => h9) rfl dX9_cart_4 ?_
  refine lv_iload_n hx hb dX9_cart_7 rfl (lv_at hl 1 rfl) ?_
  refine ro_V (As := [.int p0]) (rest := []) S (s_X1_isCart l D k a st sl  p0 _  hB  ) lkX9_147 ok_X1_isCart ⟨rfl, rfl, Nat.le_of_ble_eq_true rfl, Nat.le_of_ble_eq_true rfl⟩ (pw_V (ci := 1) (q0 := 18) hK hN rfl cw_18 hP hD0) rfl hl.1 rfl (Nat.le_of_ble_eq_true rfl) ⟨Nat.zero_le _, Nat.zero_le _⟩ dX9_cart_8 (fun r1 er1 => ?_)
  rcases er1 with ⟨rfl, g9⟩ | ⟨rfl, g9⟩
  · skip
    have g2 := g9
    have h3 : Iv 0 2 p0 := g2.1
    refine lv_if_ne (tgt := 17) hx hb dX9_cart_11 (by decide) (fun c4 => ?_) (fun c4 => ?_)
    rotate_left
    · first | exact absurd c4 (by decide) | exact absurd (by decide) c4
    refine lv_iload_n hx hb dX9_cart_17 rfl (lv_at hl 2 rfl) ?_
    by_cases c5 : p1.toInt < 0 ∨ 2 < p1.toInt
    · refine lv_tableOut (tgt := 82) hx hb dX9_cart_18 c5 (by decide) ?_
      refine lv_bipush (v := (-2)) hx hb dX9_cart_82 (by decide) ?_
      rw [hQ]
      exact W.iret (v := (-2)) hx hb hr (fun t ht hW => ⟨(-2), rfl, trivial, ht⟩) (fun _ h9 => by cases h9) dX9_cart_84
    · skip
      have h6 : Iv 0 2 p1 := ⟨by omega, by omega⟩
      rcases iv_ca3 h6 0 1 2 (by decide) (by decide) (by decide) (by decide) with q9 | q9 | q9
      · have q7 := q9
        refine lv_tableIn (off := 26) (tgt := 44) hx hb dX9_cart_18 (by rw [q9]; decide) (by rw [q9]; decide) (by rw [q9]; decide +kernel) (by decide) ?_
        have h8 : Iv 0 0 p1 := (by rw [q9]; exact iv_c (by decide))
        refine lv_aload_n hx hb dX9_cart_44 rfl (lv_at hl 0 rfl) ?_
        refine va_get (D := D) (ci := 9) (v := .ref (a 17)) (C := RX9) (T := TX9) (N := 11) hx hb hT in_X9 hown hK hP 0 cw_0 rfl 2 (by decide) (hT _ t453) (fun _ h9 => h9) rfl dX9_cart_45 ?_
        refine va_get (D := D) (ci := 8) (v := .ref (a 31)) (C := RX8) (T := TX8) (N := 6) hx hb hT in_X8 hown hK hP 17 cw_17 rfl 1 (by decide) (hT _ t314) (fun _ h9 => h9) rfl dX9_cart_48 ?_
        refine va_get (D := D) (ci := 5) (v := .ref (a 35)) (C := RX5) (T := TX5) (N := 5) hx hb hT in_X5 hown hK hP 31 cw_31 rfl 3 (by decide) (hT _ t180) (fun _ h9 => h9) rfl dX9_cart_51 ?_
        refine lv_iload_n hx hb dX9_cart_54 rfl (lv_at hl 1 rfl) ?_
        refine va_iald hx hb hK hP 35 0 cw_35 rfl (iv_in h3 (by decide) (by decide)) dX9_cart_55 ?_
        refine lv_topi (fun z9 ez9 => ?_)
        have h10 : Iv 0 5 z9 := by rw [ez9]; exact (rb_35 hB (vp_in_lt (iv_in h3 (by decide) (by decide))))
        rw [hQ]
        exact W.iret (v := z9) hx hb hr (fun t ht hW => ⟨z9, rfl, trivial, ht⟩) (fun _ h9 => by cases h9) dX9_cart_56
      · have q11 := q9
        refine lv_tableIn (off := 39) (tgt := 57) hx hb dX9_cart_18 (by rw [q9]; decide) (by rw [q9]; decide) (by rw [q9]; decide +kernel) (by decide) ?_
        have h12 : Iv 1 1 p1 := (by rw [q9]; exact iv_c (by decide))
        refine lv_aload_n hx hb dX9_cart_57 rfl (lv_at hl 0 rfl) ?_
        refine va_get (D := D) (ci := 9) (v := .ref (a 17)) (C := RX9) (T := TX9) (N := 11) hx hb hT in_X9 hown hK hP 0 cw_0 rfl 2 (by decide) (hT _ t453) (fun _ h9 => h9) rfl dX9_cart_58 ?_
        refine va_get (D := D) (ci := 8) (v := .ref (a 31)) (C := RX8) (T := TX8) (N := 6) hx hb hT in_X8 hown hK hP 17 cw_17 rfl 1 (by decide) (hT _ t314) (fun _ h9 => h9) rfl dX9_cart_61 ?_
        refine lv_iload_n hx hb dX9_cart_64 rfl (lv_at hl 1 rfl) ?_
        refine ro_V (As := [.int p0]) (rest := []) S (s_X5_crewOf l D k a st sl 31 p0 _ (by decide) hB  ) lkX9_153 ok_X5_crewOf ⟨rfl, rfl, Nat.le_of_ble_eq_true rfl, Nat.le_of_ble_eq_true rfl⟩ (pw_V (ci := 5) (q0 := 31) hK hN rfl cw_31 hP hD0) rfl hl.1 rfl (Nat.le_of_ble_eq_true rfl) ⟨Nat.zero_le _, Nat.zero_le _⟩ dX9_cart_65 (fun r13 er13 => ?_)
        have h14 : Iv 0 255 r13 := er13.1
        rw [hQ]
        exact W.iret (v := r13) hx hb hr (fun t ht hW => ⟨r13, rfl, trivial, ht⟩) (fun _ h9 => by cases h9) dX9_cart_68
      · have q15 := q9
        refine lv_tableIn (off := 51) (tgt := 69) hx hb dX9_cart_18 (by rw [q9]; decide) (by rw [q9]; decide) (by rw [q9]; decide +kernel) (by decide) ?_
        have h16 : Iv 2 2 p1 := (by rw [q9]; exact iv_c (by decide))
        refine lv_aload_n hx hb dX9_cart_69 rfl (lv_at hl 0 rfl) ?_
        refine va_get (D := D) (ci := 9) (v := .ref (a 17)) (C := RX9) (T := TX9) (N := 11) hx hb hT in_X9 hown hK hP 0 cw_0 rfl 2 (by decide) (hT _ t453) (fun _ h9 => h9) rfl dX9_cart_70 ?_
        refine va_get (D := D) (ci := 8) (v := .ref (a 31)) (C := RX8) (T := TX8) (N := 6) hx hb hT in_X8 hown hK hP 17 cw_17 rfl 1 (by decide) (hT _ t314) (fun _ h9 => h9) rfl dX9_cart_73 ?_
        refine va_get (D := D) (ci := 5) (v := .ref (a 36)) (C := RX5) (T := TX5) (N := 5) hx hb hT in_X5 hown hK hP 31 cw_31 rfl 4 (by decide) (hT _ t182) (fun _ h9 => h9) rfl dX9_cart_76 ?_
        refine lv_iload_n hx hb dX9_cart_79 rfl (lv_at hl 1 rfl) ?_
        refine va_iald hx hb hK hP 36 0 cw_36 rfl (iv_in h3 (by decide) (by decide)) dX9_cart_80 ?_
        refine lv_topi (fun z17 ez17 => ?_)
        rw [hQ]
        exact W.iret (v := z17) hx hb hr (fun t ht hW => ⟨z17, rfl, trivial, ht⟩) (fun _ h9 => by cases h9) dX9_cart_81
  · skip
    have g18 := g9
    refine lv_if_ne (tgt := 17) hx hb dX9_cart_11 (by decide) (fun c19 => ?_) (fun c19 => ?_)
    · first | exact absurd c19 (by decide) | exact absurd (by decide) c19
    refine lv_bipush (v := (-2)) hx hb dX9_cart_14 (by decide) ?_
    rw [hQ]
    exact W.iret (v := (-2)) hx hb hr (fun t ht hW => ⟨(-2), rfl, trivial, ht⟩) (fun _ h9 => by cases h9) dX9_cart_16
set_option maxHeartbeats 4000000 in
set_option maxRecDepth 100000 in
theorem s_X9_errand (l : Launch) (D : va_G) (k : Nat → ClassId) (a : Nat → Nat) (st : CT) (sl : CL) (p0 : Int32) (p1 : Int32) (sz : Nat) (hB : CB st)  : Met l yX9_errand (.code yX9_errand cX9_errand 3 (some .int) :: TB) (rmk 2) (va_Pc [.ref (a 0), .int p0, .int p1] (PW D k sz (CWS k a st sl))) (vp_Si (fun r => (True))) 0 0 (fun _ => False) := by
  refine Met.ofW (cc := cX9_errand) (maxL := 3) (ret := (some .int)) (by decide) rfl ?_
  intro p e s m args below meth c s₁ B hml hv
  obtain ⟨rfl, hsz, hP, hK, hD0, hN⟩ := hv
  have hx := B.exec
  have hb := B.bytes
  have hr := B.returns
  have hT : ∀ w9 ∈ TB, w9.before ([.ref (a 0), .int p0, .int p1] : List Value).toArray s = true := fun w9 h => atoms_spec (ws := .code yX9_errand cX9_errand 3 (some .int) :: TB) B.pre w9 (List.mem_cons_of_mem _ h)
  have hown : s.vm.findClass RX9 = some m.cls := findClass_of_methodNamed B.named
  have S : CallFix p m c cX9_errand 3 s _ TB RX9 := ⟨hx, hb, hml, hown, hT⟩
  subst hsz
  have hl := lv_entry ([.ref (a 0), .int p0, .int p1]) (n := 3) (Nat.le_of_ble_eq_true rfl)
  rw [lg_entry_eq]
  generalize (lg_sl ([.ref (a 0), .int p0, .int p1]) ++ List.replicate (3 - (lg_sl ([.ref (a 0), .int p0, .int p1])).length) Slot.unset).toArray = ls at hl ⊢
  have hl : lv_has ls 3 [(0, .ref (a 0)), (1, .int p0), (2, .int p1)] := hl
  refine nameQ (fun Q hQ => ?_)
  refine lv_aload_n hx hb dX9_errand_0 rfl (lv_at hl 0 rfl) ?_
  refine va_get (D := D) (ci := 9) (v := .ref (a 17)) (C := RX9) (T := TX9) (N := 11) hx hb hT in_X9 hown hK hP 0 cw_0 rfl 2 (by decide) (hT _ t453) (fun _ h9 => h9) rfl dX9_errand_1 ?_
  refine va_get (D := D) (ci := 8) (v := .ref (a 18)) (C := RX8) (T := TX8) (N := 6) hx hb hT in_X8 hown hK hP 17 cw_17 rfl 0 (by decide) (hT _ t312) (fun _ h9 => h9) rfl dX9_errand_4 ?_
  refine lv_iload_n hx hb dX9_errand_7 rfl (lv_at hl 1 rfl) ?_
  refine ro_V (As := [.int p0]) (rest := []) S (s_X1_isErrand l D k a st sl  p0 _  hB  ) lkX9_159 ok_X1_isErrand ⟨rfl, rfl, Nat.le_of_ble_eq_true rfl, Nat.le_of_ble_eq_true rfl⟩ (pw_V (ci := 1) (q0 := 18) hK hN rfl cw_18 hP hD0) rfl hl.1 rfl (Nat.le_of_ble_eq_true rfl) ⟨Nat.zero_le _, Nat.zero_le _⟩ dX9_errand_8 (fun r1 er1 => ?_)
  rcases er1 with ⟨rfl, g9⟩ | ⟨rfl, g9⟩
  · skip
    have g2 := g9
    have h3 : Iv 0 5 p0 := g2.1
    refine lv_if_ne (tgt := 17) hx hb dX9_errand_11 (by decide) (fun c4 => ?_) (fun c4 => ?_)
    rotate_left
    · first | exact absurd c4 (by decide) | exact absurd (by decide) c4
    refine lv_iload_n hx hb dX9_errand_17 rfl (lv_at hl 2 rfl) ?_
    by_cases c5 : p1.toInt < 0 ∨ 2 < p1.toInt
    · refine lv_tableOut (tgt := 83) hx hb dX9_errand_18 c5 (by decide) ?_
      refine lv_bipush (v := (-2)) hx hb dX9_errand_83 (by decide) ?_
      rw [hQ]
      exact W.iret (v := (-2)) hx hb hr (fun t ht hW => ⟨(-2), rfl, trivial, ht⟩) (fun _ h9 => by cases h9) dX9_errand_85
    · skip
      have h6 : Iv 0 2 p1 := ⟨by omega, by omega⟩
      rcases iv_ca3 h6 0 1 2 (by decide) (by decide) (by decide) (by decide) with q9 | q9 | q9
      · have q7 := q9
        refine lv_tableIn (off := 26) (tgt := 44) hx hb dX9_errand_18 (by rw [q9]; decide) (by rw [q9]; decide) (by rw [q9]; decide +kernel) (by decide) ?_
        have h8 : Iv 0 0 p1 := (by rw [q9]; exact iv_c (by decide))
        refine lv_aload_n hx hb dX9_errand_44 rfl (lv_at hl 0 rfl) ?_
        refine va_get (D := D) (ci := 9) (v := .ref (a 17)) (C := RX9) (T := TX9) (N := 11) hx hb hT in_X9 hown hK hP 0 cw_0 rfl 2 (by decide) (hT _ t453) (fun _ h9 => h9) rfl dX9_errand_45 ?_
        refine va_get (D := D) (ci := 8) (v := .ref (a 18)) (C := RX8) (T := TX8) (N := 6) hx hb hT in_X8 hown hK hP 17 cw_17 rfl 0 (by decide) (hT _ t312) (fun _ h9 => h9) rfl dX9_errand_48 ?_
        refine va_get (D := D) (ci := 1) (v := .ref (a 22)) (C := RX1) (T := TX1) (N := 14) hx hb hT in_X1 hown hK hP 18 cw_18 rfl 10 (by decide) (hT _ t234) (fun _ h9 => h9) rfl dX9_errand_51 ?_
        refine lv_iload_n hx hb dX9_errand_54 rfl (lv_at hl 1 rfl) ?_
        refine va_iald hx hb hK hP 22 0 cw_22 rfl (iv_in h3 (by decide) (by decide)) dX9_errand_55 ?_
        refine lv_topi (fun z9 ez9 => ?_)
        have h10 : Iv 0 2 z9 := by rw [ez9]; exact (rb_22 hB (vp_in_lt (iv_in h3 (by decide) (by decide))))
        rw [hQ]
        exact W.iret (v := z9) hx hb hr (fun t ht hW => ⟨z9, rfl, trivial, ht⟩) (fun _ h9 => by cases h9) dX9_errand_56
      · have q11 := q9
        refine lv_tableIn (off := 39) (tgt := 57) hx hb dX9_errand_18 (by rw [q9]; decide) (by rw [q9]; decide) (by rw [q9]; decide +kernel) (by decide) ?_
        have h12 : Iv 1 1 p1 := (by rw [q9]; exact iv_c (by decide))
        refine lv_aload_n hx hb dX9_errand_57 rfl (lv_at hl 0 rfl) ?_
        refine va_get (D := D) (ci := 9) (v := .ref (a 17)) (C := RX9) (T := TX9) (N := 11) hx hb hT in_X9 hown hK hP 0 cw_0 rfl 2 (by decide) (hT _ t453) (fun _ h9 => h9) rfl dX9_errand_58 ?_
        refine va_get (D := D) (ci := 8) (v := .ref (a 18)) (C := RX8) (T := TX8) (N := 6) hx hb hT in_X8 hown hK hP 17 cw_17 rfl 0 (by decide) (hT _ t312) (fun _ h9 => h9) rfl dX9_errand_61 ?_
        refine va_get (D := D) (ci := 1) (v := .ref (a 23)) (C := RX1) (T := TX1) (N := 14) hx hb hT in_X1 hown hK hP 18 cw_18 rfl 11 (by decide) (hT _ t236) (fun _ h9 => h9) rfl dX9_errand_64 ?_
        refine lv_iload_n hx hb dX9_errand_67 rfl (lv_at hl 1 rfl) ?_
        refine va_iald hx hb hK hP 23 0 cw_23 rfl (iv_in h3 (by decide) (by decide)) dX9_errand_68 ?_
        refine lv_topi (fun z13 ez13 => ?_)
        have h14 : Iv 0 5 z13 := by rw [ez13]; exact (rb_23 hB (vp_in_lt (iv_in h3 (by decide) (by decide))))
        rw [hQ]
        exact W.iret (v := z13) hx hb hr (fun t ht hW => ⟨z13, rfl, trivial, ht⟩) (fun _ h9 => by cases h9) dX9_errand_69
      · have q15 := q9
        refine lv_tableIn (off := 52) (tgt := 70) hx hb dX9_errand_18 (by rw [q9]; decide) (by rw [q9]; decide) (by rw [q9]; decide +kernel) (by decide) ?_
        have h16 : Iv 2 2 p1 := (by rw [q9]; exact iv_c (by decide))
        refine lv_aload_n hx hb dX9_errand_70 rfl (lv_at hl 0 rfl) ?_
        refine va_get (D := D) (ci := 9) (v := .ref (a 17)) (C := RX9) (T := TX9) (N := 11) hx hb hT in_X9 hown hK hP 0 cw_0 rfl 2 (by decide) (hT _ t453) (fun _ h9 => h9) rfl dX9_errand_71 ?_
        refine va_get (D := D) (ci := 8) (v := .ref (a 18)) (C := RX8) (T := TX8) (N := 6) hx hb hT in_X8 hown hK hP 17 cw_17 rfl 0 (by decide) (hT _ t312) (fun _ h9 => h9) rfl dX9_errand_74 ?_
        refine va_get (D := D) (ci := 1) (v := .ref (a 24)) (C := RX1) (T := TX1) (N := 14) hx hb hT in_X1 hown hK hP 18 cw_18 rfl 12 (by decide) (hT _ t238) (fun _ h9 => h9) rfl dX9_errand_77 ?_
        refine lv_iload_n hx hb dX9_errand_80 rfl (lv_at hl 1 rfl) ?_
        refine va_iald hx hb hK hP 24 0 cw_24 rfl (iv_in h3 (by decide) (by decide)) dX9_errand_81 ?_
        refine lv_topi (fun z17 ez17 => ?_)
        rw [hQ]
        exact W.iret (v := z17) hx hb hr (fun t ht hW => ⟨z17, rfl, trivial, ht⟩) (fun _ h9 => by cases h9) dX9_errand_82
  · skip
    have g18 := g9
    refine lv_if_ne (tgt := 17) hx hb dX9_errand_11 (by decide) (fun c19 => ?_) (fun c19 => ?_)
    · first | exact absurd c19 (by decide) | exact absurd (by decide) c19
    refine lv_bipush (v := (-2)) hx hb dX9_errand_14 (by decide) ?_
    rw [hQ]
    exact W.iret (v := (-2)) hx hb hr (fun t ht hW => ⟨(-2), rfl, trivial, ht⟩) (fun _ h9 => by cases h9) dX9_errand_16
set_option maxHeartbeats 4000000 in
set_option maxRecDepth 100000 in
theorem s_X9_roads (l : Launch) (D : va_G) (k : Nat → ClassId) (a : Nat → Nat) (st : CT) (sl : CL) (p0 : Int32) (sz : Nat) (hB : CB st)  : Met l yX9_roads (.code yX9_roads cX9_roads 2 (some .int) :: TB) (rmk 3) (va_Pc [.ref (a 0), .int p0] (PW D k sz (CWS k a st sl))) (vp_Si (fun r => Iv (-2) 255 r ∧ (True))) 0 0 (fun _ => False) := by
  refine Met.ofW (cc := cX9_roads) (maxL := 2) (ret := (some .int)) (by decide) rfl ?_
  intro p e s m args below meth c s₁ B hml hv
  obtain ⟨rfl, hsz, hP, hK, hD0, hN⟩ := hv
  have hx := B.exec
  have hb := B.bytes
  have hr := B.returns
  have hT : ∀ w9 ∈ TB, w9.before ([.ref (a 0), .int p0] : List Value).toArray s = true := fun w9 h => atoms_spec (ws := .code yX9_roads cX9_roads 2 (some .int) :: TB) B.pre w9 (List.mem_cons_of_mem _ h)
  have hown : s.vm.findClass RX9 = some m.cls := findClass_of_methodNamed B.named
  have S : CallFix p m c cX9_roads 2 s _ TB RX9 := ⟨hx, hb, hml, hown, hT⟩
  subst hsz
  have hl := lv_entry ([.ref (a 0), .int p0]) (n := 2) (Nat.le_of_ble_eq_true rfl)
  rw [lg_entry_eq]
  generalize (lg_sl ([.ref (a 0), .int p0]) ++ List.replicate (2 - (lg_sl ([.ref (a 0), .int p0])).length) Slot.unset).toArray = ls at hl ⊢
  have hl : lv_has ls 2 [(0, .ref (a 0)), (1, .int p0)] := hl
  refine nameQ (fun Q hQ => ?_)
  refine lv_aload_n hx hb dX9_roads_0 rfl (lv_at hl 0 rfl) ?_
  refine va_get (D := D) (ci := 9) (v := .ref (a 17)) (C := RX9) (T := TX9) (N := 11) hx hb hT in_X9 hown hK hP 0 cw_0 rfl 2 (by decide) (hT _ t453) (fun _ h9 => h9) rfl dX9_roads_1 ?_
  refine va_get (D := D) (ci := 8) (v := .ref (a 18)) (C := RX8) (T := TX8) (N := 6) hx hb hT in_X8 hown hK hP 17 cw_17 rfl 0 (by decide) (hT _ t312) (fun _ h9 => h9) rfl dX9_roads_4 ?_
  refine lv_iload_n hx hb dX9_roads_7 rfl (lv_at hl 1 rfl) ?_
  refine ro_V (As := [.int p0]) (rest := []) S (s_X1_isPlace l D k a st sl  p0 _  hB  ) lkX9_171 ok_X1_isPlace ⟨rfl, rfl, Nat.le_of_ble_eq_true rfl, Nat.le_of_ble_eq_true rfl⟩ (pw_V (ci := 1) (q0 := 18) hK hN rfl cw_18 hP hD0) rfl hl.1 rfl (Nat.le_of_ble_eq_true rfl) ⟨Nat.zero_le _, Nat.zero_le _⟩ dX9_roads_8 (fun r1 er1 => ?_)
  rcases er1 with ⟨rfl, g9⟩ | ⟨rfl, g9⟩
  · skip
    have g2 := g9
    have h3 : Iv 0 5 p0 := g2.1
    refine lv_if_eq (tgt := 28) hx hb dX9_roads_11 (by decide) (fun c4 => ?_) (fun c4 => ?_)
    · first | exact absurd c4 (by decide) | exact absurd (by decide) c4
    refine lv_aload_n hx hb dX9_roads_14 rfl (lv_at hl 0 rfl) ?_
    refine va_get (D := D) (ci := 9) (v := .ref (a 17)) (C := RX9) (T := TX9) (N := 11) hx hb hT in_X9 hown hK hP 0 cw_0 rfl 2 (by decide) (hT _ t453) (fun _ h9 => h9) rfl dX9_roads_15 ?_
    refine va_get (D := D) (ci := 8) (v := .ref (a 18)) (C := RX8) (T := TX8) (N := 6) hx hb hT in_X8 hown hK hP 17 cw_17 rfl 0 (by decide) (hT _ t312) (fun _ h9 => h9) rfl dX9_roads_18 ?_
    refine lv_iload_n hx hb dX9_roads_21 rfl (lv_at hl 1 rfl) ?_
    refine ro_V (As := [.int p0]) (rest := []) S (s_X1_roadsAt l D k a st sl  p0 _  hB  ) lkX9_174 ok_X1_roadsAt ⟨rfl, rfl, Nat.le_of_ble_eq_true rfl, Nat.le_of_ble_eq_true rfl⟩ (pw_V (ci := 1) (q0 := 18) hK hN rfl cw_18 hP hD0) rfl hl.1 rfl (Nat.le_of_ble_eq_true rfl) ⟨Nat.zero_le _, Nat.zero_le _⟩ dX9_roads_22 (fun r5 er5 => ?_)
    have h6 : Iv 0 255 r5 := er5.1
    refine lv_goto (tgt := 30) hx hb dX9_roads_25 (by decide) ?_
    rw [hQ]
    exact W.iret (v := r5) hx hb hr (fun t ht hW => ⟨r5, rfl, ⟨(iv_mono (c := (-2)) (d := 255) h6 (by decide) (by decide)), trivial⟩, ht⟩) (fun _ h9 => by cases h9) dX9_roads_30
  · skip
    have g7 := g9
    refine lv_if_eq (tgt := 28) hx hb dX9_roads_11 (by decide) (fun c8 => ?_) (fun c8 => ?_)
    rotate_left
    · first | exact absurd c8 (by decide) | exact absurd (by decide) c8
    refine lv_bipush (v := (-2)) hx hb dX9_roads_28 (by decide) ?_
    rw [hQ]
    exact W.iret (v := (-2)) hx hb hr (fun t ht hW => ⟨(-2), rfl, ⟨(iv_mono (c := (-2)) (d := 255) (iv_c (by decide) : Iv (-2) (-2) (-2)) (by decide) (by decide)), trivial⟩, ht⟩) (fun _ h9 => by cases h9) dX9_roads_30
set_option maxHeartbeats 4000000 in
set_option maxRecDepth 100000 in
theorem s_X9_pull (l : Launch) (D : va_G) (k : Nat → ClassId) (a : Nat → Nat) (st : CT) (sl : CL) (p0 : Int32) (p1 : Int32) (sz : Nat) (hB : CB st)  : Met l yX9_pull (.code yX9_pull cX9_pull 3 (some .int) :: TB) (rmk 2) (va_Pc [.ref (a 0), .int p0, .int p1] (PW D k sz (CWS k a st sl))) (vp_Si (fun r => Iv (-2) 72 r ∧ (True))) 0 0 (fun _ => False) := by
  refine Met.ofW (cc := cX9_pull) (maxL := 3) (ret := (some .int)) (by decide) rfl ?_
  intro p e s m args below meth c s₁ B hml hv
  obtain ⟨rfl, hsz, hP, hK, hD0, hN⟩ := hv
  have hx := B.exec
  have hb := B.bytes
  have hr := B.returns
  have hT : ∀ w9 ∈ TB, w9.before ([.ref (a 0), .int p0, .int p1] : List Value).toArray s = true := fun w9 h => atoms_spec (ws := .code yX9_pull cX9_pull 3 (some .int) :: TB) B.pre w9 (List.mem_cons_of_mem _ h)
  have hown : s.vm.findClass RX9 = some m.cls := findClass_of_methodNamed B.named
  have S : CallFix p m c cX9_pull 3 s _ TB RX9 := ⟨hx, hb, hml, hown, hT⟩
  subst hsz
  have hl := lv_entry ([.ref (a 0), .int p0, .int p1]) (n := 3) (Nat.le_of_ble_eq_true rfl)
  rw [lg_entry_eq]
  generalize (lg_sl ([.ref (a 0), .int p0, .int p1]) ++ List.replicate (3 - (lg_sl ([.ref (a 0), .int p0, .int p1])).length) Slot.unset).toArray = ls at hl ⊢
  have hl : lv_has ls 3 [(0, .ref (a 0)), (1, .int p0), (2, .int p1)] := hl
  refine nameQ (fun Q hQ => ?_)
  refine lv_aload_n hx hb dX9_pull_0 rfl (lv_at hl 0 rfl) ?_
  refine va_get (D := D) (ci := 9) (v := .ref (a 17)) (C := RX9) (T := TX9) (N := 11) hx hb hT in_X9 hown hK hP 0 cw_0 rfl 2 (by decide) (hT _ t453) (fun _ h9 => h9) rfl dX9_pull_1 ?_
  refine va_get (D := D) (ci := 8) (v := .ref (a 18)) (C := RX8) (T := TX8) (N := 6) hx hb hT in_X8 hown hK hP 17 cw_17 rfl 0 (by decide) (hT _ t312) (fun _ h9 => h9) rfl dX9_pull_4 ?_
  refine lv_iload_n hx hb dX9_pull_7 rfl (lv_at hl 1 rfl) ?_
  refine ro_V (As := [.int p0]) (rest := []) S (s_X1_isCart l D k a st sl  p0 _  hB  ) lkX9_147 ok_X1_isCart ⟨rfl, rfl, Nat.le_of_ble_eq_true rfl, Nat.le_of_ble_eq_true rfl⟩ (pw_V (ci := 1) (q0 := 18) hK hN rfl cw_18 hP hD0) rfl hl.1 rfl (Nat.le_of_ble_eq_true rfl) ⟨Nat.zero_le _, Nat.zero_le _⟩ dX9_pull_8 (fun r1 er1 => ?_)
  rcases er1 with ⟨rfl, g9⟩ | ⟨rfl, g9⟩
  · skip
    have g2 := g9
    have h3 : Iv 0 2 p0 := g2.1
    refine lv_if_eq (tgt := 28) hx hb dX9_pull_11 (by decide) (fun c4 => ?_) (fun c4 => ?_)
    · first | exact absurd c4 (by decide) | exact absurd (by decide) c4
    refine lv_aload_n hx hb dX9_pull_14 rfl (lv_at hl 0 rfl) ?_
    refine va_get (D := D) (ci := 9) (v := .ref (a 17)) (C := RX9) (T := TX9) (N := 11) hx hb hT in_X9 hown hK hP 0 cw_0 rfl 2 (by decide) (hT _ t453) (fun _ h9 => h9) rfl dX9_pull_15 ?_
    refine va_get (D := D) (ci := 8) (v := .ref (a 18)) (C := RX8) (T := TX8) (N := 6) hx hb hT in_X8 hown hK hP 17 cw_17 rfl 0 (by decide) (hT _ t312) (fun _ h9 => h9) rfl dX9_pull_18 ?_
    refine lv_iload_n hx hb dX9_pull_21 rfl (lv_at hl 2 rfl) ?_
    refine ro_V (As := [.int p1]) (rest := []) S (s_X1_isRoad l D k a st sl  p1 _  hB  ) lkX9_114 ok_X1_isRoad ⟨rfl, rfl, Nat.le_of_ble_eq_true rfl, Nat.le_of_ble_eq_true rfl⟩ (pw_V (ci := 1) (q0 := 18) hK hN rfl cw_18 hP hD0) rfl hl.1 rfl (Nat.le_of_ble_eq_true rfl) ⟨Nat.zero_le _, Nat.zero_le _⟩ dX9_pull_22 (fun r5 er5 => ?_)
    rcases er5 with ⟨rfl, g9⟩ | ⟨rfl, g9⟩
    · skip
      have g6 := g9
      have h7 : Iv 0 7 p1 := g6.1
      refine lv_if_ne (tgt := 31) hx hb dX9_pull_25 (by decide) (fun c8 => ?_) (fun c8 => ?_)
      rotate_left
      · first | exact absurd c8 (by decide) | exact absurd (by decide) c8
      refine lv_aload_n hx hb dX9_pull_31 rfl (lv_at hl 0 rfl) ?_
      refine va_get (D := D) (ci := 9) (v := .ref (a 17)) (C := RX9) (T := TX9) (N := 11) hx hb hT in_X9 hown hK hP 0 cw_0 rfl 2 (by decide) (hT _ t453) (fun _ h9 => h9) rfl dX9_pull_32 ?_
      refine va_get (D := D) (ci := 8) (v := .ref (a 31)) (C := RX8) (T := TX8) (N := 6) hx hb hT in_X8 hown hK hP 17 cw_17 rfl 1 (by decide) (hT _ t314) (fun _ h9 => h9) rfl dX9_pull_35 ?_
      refine lv_aload_n hx hb dX9_pull_38 rfl (lv_at hl 0 rfl) ?_
      refine va_get (D := D) (ci := 9) (v := .ref (a 17)) (C := RX9) (T := TX9) (N := 11) hx hb hT in_X9 hown hK hP 0 cw_0 rfl 2 (by decide) (hT _ t453) (fun _ h9 => h9) rfl dX9_pull_39 ?_
      refine va_get (D := D) (ci := 8) (v := .ref (a 31)) (C := RX8) (T := TX8) (N := 6) hx hb hT in_X8 hown hK hP 17 cw_17 rfl 1 (by decide) (hT _ t314) (fun _ h9 => h9) rfl dX9_pull_42 ?_
      refine lv_iload_n hx hb dX9_pull_45 rfl (lv_at hl 1 rfl) ?_
      refine ro_V (As := [.int p0]) (rest := [.ref (a 31)]) S (s_X5_crewOf l D k a st sl 31 p0 _ (by decide) hB  ) lkX9_153 ok_X5_crewOf ⟨rfl, rfl, Nat.le_of_ble_eq_true rfl, Nat.le_of_ble_eq_true rfl⟩ (pw_V (ci := 5) (q0 := 31) hK hN rfl cw_31 hP hD0) rfl hl.1 rfl (Nat.le_of_ble_eq_true rfl) ⟨Nat.zero_le _, Nat.zero_le _⟩ dX9_pull_46 (fun r9 er9 => ?_)
      have h10 : Iv 0 255 r9 := er9.1
      refine lv_iload_n hx hb dX9_pull_49 rfl (lv_at hl 2 rfl) ?_
      refine ro_V (As := [.int r9, .int p1]) (rest := []) S (s_X5_pullOf l D k a st sl 31 r9 p1 _ (by decide) hB h7 ) lkX9_177 ok_X5_pullOf ⟨rfl, rfl, Nat.le_of_ble_eq_true rfl, Nat.le_of_ble_eq_true rfl⟩ (pw_V (ci := 5) (q0 := 31) hK hN rfl cw_31 hP hD0) rfl hl.1 rfl (Nat.le_of_ble_eq_true rfl) ⟨Nat.zero_le _, Nat.zero_le _⟩ dX9_pull_50 (fun r11 er11 => ?_)
      have h12 : Iv 0 72 r11 := er11.1
      rw [hQ]
      exact W.iret (v := r11) hx hb hr (fun t ht hW => ⟨r11, rfl, ⟨(iv_mono (c := (-2)) (d := 72) h12 (by decide) (by decide)), trivial⟩, ht⟩) (fun _ h9 => by cases h9) dX9_pull_53
    · skip
      have g13 := g9
      refine lv_if_ne (tgt := 31) hx hb dX9_pull_25 (by decide) (fun c14 => ?_) (fun c14 => ?_)
      · first | exact absurd c14 (by decide) | exact absurd (by decide) c14
      refine lv_bipush (v := (-2)) hx hb dX9_pull_28 (by decide) ?_
      rw [hQ]
      exact W.iret (v := (-2)) hx hb hr (fun t ht hW => ⟨(-2), rfl, ⟨(iv_mono (c := (-2)) (d := 72) (iv_c (by decide) : Iv (-2) (-2) (-2)) (by decide) (by decide)), trivial⟩, ht⟩) (fun _ h9 => by cases h9) dX9_pull_30
  · skip
    have g15 := g9
    refine lv_if_eq (tgt := 28) hx hb dX9_pull_11 (by decide) (fun c16 => ?_) (fun c16 => ?_)
    rotate_left
    · first | exact absurd c16 (by decide) | exact absurd (by decide) c16
    refine lv_bipush (v := (-2)) hx hb dX9_pull_28 (by decide) ?_
    rw [hQ]
    exact W.iret (v := (-2)) hx hb hr (fun t ht hW => ⟨(-2), rfl, ⟨(iv_mono (c := (-2)) (d := 72) (iv_c (by decide) : Iv (-2) (-2) (-2)) (by decide) (by decide)), trivial⟩, ht⟩) (fun _ h9 => by cases h9) dX9_pull_30
set_option maxHeartbeats 4000000 in
set_option maxRecDepth 100000 in
theorem s_X9_takes (l : Launch) (D : va_G) (k : Nat → ClassId) (a : Nat → Nat) (st : CT) (sl : CL) (p0 : Int32) (p1 : Int32) (sz : Nat) (hB : CB st)  : Met l yX9_takes (.code yX9_takes cX9_takes 3 (some .int) :: TB) (rmk 4) (va_Pc [.ref (a 0), .int p0, .int p1] (PW D k sz (CWS k a st sl))) (vp_Si (fun r => Iv (-2) 7 r ∧ (True))) 0 0 (fun _ => False) := by
  refine Met.ofW (cc := cX9_takes) (maxL := 3) (ret := (some .int)) (by decide) rfl ?_
  intro p e s m args below meth c s₁ B hml hv
  obtain ⟨rfl, hsz, hP, hK, hD0, hN⟩ := hv
  have hx := B.exec
  have hb := B.bytes
  have hr := B.returns
  have hT : ∀ w9 ∈ TB, w9.before ([.ref (a 0), .int p0, .int p1] : List Value).toArray s = true := fun w9 h => atoms_spec (ws := .code yX9_takes cX9_takes 3 (some .int) :: TB) B.pre w9 (List.mem_cons_of_mem _ h)
  have hown : s.vm.findClass RX9 = some m.cls := findClass_of_methodNamed B.named
  have S : CallFix p m c cX9_takes 3 s _ TB RX9 := ⟨hx, hb, hml, hown, hT⟩
  subst hsz
  have hl := lv_entry ([.ref (a 0), .int p0, .int p1]) (n := 3) (Nat.le_of_ble_eq_true rfl)
  rw [lg_entry_eq]
  generalize (lg_sl ([.ref (a 0), .int p0, .int p1]) ++ List.replicate (3 - (lg_sl ([.ref (a 0), .int p0, .int p1])).length) Slot.unset).toArray = ls at hl ⊢
  have hl : lv_has ls 3 [(0, .ref (a 0)), (1, .int p0), (2, .int p1)] := hl
  refine nameQ (fun Q hQ => ?_)
  refine lv_aload_n hx hb dX9_takes_0 rfl (lv_at hl 0 rfl) ?_
  refine lv_iload_n hx hb dX9_takes_1 rfl (lv_at hl 1 rfl) ?_
  refine lv_iload_n hx hb dX9_takes_2 rfl (lv_at hl 2 rfl) ?_
  refine ro_V (As := [.int p0, .int p1]) (rest := []) S (s_X9_canWant l D k a st sl  p0 p1 _  hB  ) lkX9_180 ok_X9_canWant ⟨rfl, rfl, Nat.le_of_ble_eq_true rfl, Nat.le_of_ble_eq_true rfl⟩ (pw_V (ci := 9) (q0 := 0) hK hN rfl cw_0 hP hD0) rfl hl.1 rfl (Nat.le_of_ble_eq_true rfl) ⟨Nat.zero_le _, Nat.zero_le _⟩ dX9_takes_3 (fun r1 er1 => ?_)
  rcases er1 with ⟨rfl, g9⟩ | ⟨rfl, g9⟩
  · skip
    have g2 := g9
    have h3 : Iv 0 2 p0 := g2.1
    have h4 : Iv (-1) 7 p1 := g2.2.1
    refine lv_if_ne (tgt := 12) hx hb dX9_takes_6 (by decide) (fun c5 => ?_) (fun c5 => ?_)
    rotate_left
    · first | exact absurd c5 (by decide) | exact absurd (by decide) c5
    refine lv_aload_n hx hb dX9_takes_12 rfl (lv_at hl 0 rfl) ?_
    refine va_get (D := D) (ci := 9) (v := .ref (a 17)) (C := RX9) (T := TX9) (N := 11) hx hb hT in_X9 hown hK hP 0 cw_0 rfl 2 (by decide) (hT _ t453) (fun _ h9 => h9) rfl dX9_takes_13 ?_
    refine va_get (D := D) (ci := 8) (v := .ref (a 31)) (C := RX8) (T := TX8) (N := 6) hx hb hT in_X8 hown hK hP 17 cw_17 rfl 1 (by decide) (hT _ t314) (fun _ h9 => h9) rfl dX9_takes_16 ?_
    refine lv_aload_n hx hb dX9_takes_19 rfl (lv_at hl 0 rfl) ?_
    refine va_get (D := D) (ci := 9) (v := .ref (a 17)) (C := RX9) (T := TX9) (N := 11) hx hb hT in_X9 hown hK hP 0 cw_0 rfl 2 (by decide) (hT _ t453) (fun _ h9 => h9) rfl dX9_takes_20 ?_
    refine va_get (D := D) (ci := 8) (v := .ref (a 18)) (C := RX8) (T := TX8) (N := 6) hx hb hT in_X8 hown hK hP 17 cw_17 rfl 0 (by decide) (hT _ t312) (fun _ h9 => h9) rfl dX9_takes_23 ?_
    refine lv_iload_n hx hb dX9_takes_26 rfl (lv_at hl 1 rfl) ?_
    refine lv_iload_n hx hb dX9_takes_27 rfl (lv_at hl 2 rfl) ?_
    refine ro_V (As := [.ref (a 18), .int p0, .int p1]) (rest := []) S (s_X5_turnOf l D k a st sl 31 p0 p1 _ (by decide) hB h3 h4 ) lkX9_184 ok_X5_turnOf ⟨rfl, rfl, Nat.le_of_ble_eq_true rfl, Nat.le_of_ble_eq_true rfl⟩ (pw_V (ci := 5) (q0 := 31) hK hN rfl cw_31 hP hD0) rfl hl.1 rfl (Nat.le_of_ble_eq_true rfl) ⟨Nat.zero_le _, Nat.zero_le _⟩ dX9_takes_28 (fun r6 er6 => ?_)
    have h7 : Iv (-1) 7 r6 := er6.1
    rw [hQ]
    exact W.iret (v := r6) hx hb hr (fun t ht hW => ⟨r6, rfl, ⟨(iv_mono (c := (-2)) (d := 7) h7 (by decide) (by decide)), trivial⟩, ht⟩) (fun _ h9 => by cases h9) dX9_takes_31
  · skip
    have g8 := g9
    refine lv_if_ne (tgt := 12) hx hb dX9_takes_6 (by decide) (fun c9 => ?_) (fun c9 => ?_)
    · first | exact absurd c9 (by decide) | exact absurd (by decide) c9
    refine lv_bipush (v := (-2)) hx hb dX9_takes_9 (by decide) ?_
    rw [hQ]
    exact W.iret (v := (-2)) hx hb hr (fun t ht hW => ⟨(-2), rfl, ⟨(iv_mono (c := (-2)) (d := 7) (iv_c (by decide) : Iv (-2) (-2) (-2)) (by decide) (by decide)), trivial⟩, ht⟩) (fun _ h9 => by cases h9) dX9_takes_11
set_option maxHeartbeats 4000000 in
set_option maxRecDepth 100000 in
theorem s_X9_aside (l : Launch) (D : va_G) (k : Nat → ClassId) (a : Nat → Nat) (st : CT) (sl : CL) (p0 : Int32) (sz : Nat) (hB : CB st)  : Met l yX9_aside (.code yX9_aside cX9_aside 4 (some .int) :: TB) (rmk 4) (va_Pc [.ref (a 0), .int p0] (PW D k sz (CWS k a st sl))) (vp_Si (fun r => Iv (-2) 255 r ∧ (True))) 0 0 (fun _ => False) := by
  refine Met.ofW (cc := cX9_aside) (maxL := 4) (ret := (some .int)) (by decide) rfl ?_
  intro p e s m args below meth c s₁ B hml hv
  obtain ⟨rfl, hsz, hP, hK, hD0, hN⟩ := hv
  have hx := B.exec
  have hb := B.bytes
  have hr := B.returns
  have hT : ∀ w9 ∈ TB, w9.before ([.ref (a 0), .int p0] : List Value).toArray s = true := fun w9 h => atoms_spec (ws := .code yX9_aside cX9_aside 4 (some .int) :: TB) B.pre w9 (List.mem_cons_of_mem _ h)
  have hown : s.vm.findClass RX9 = some m.cls := findClass_of_methodNamed B.named
  have S : CallFix p m c cX9_aside 4 s _ TB RX9 := ⟨hx, hb, hml, hown, hT⟩
  subst hsz
  have hl := lv_entry ([.ref (a 0), .int p0]) (n := 4) (Nat.le_of_ble_eq_true rfl)
  rw [lg_entry_eq]
  generalize (lg_sl ([.ref (a 0), .int p0]) ++ List.replicate (4 - (lg_sl ([.ref (a 0), .int p0])).length) Slot.unset).toArray = ls at hl ⊢
  have hl : lv_has ls 4 [(0, .ref (a 0)), (1, .int p0)] := hl
  refine nameQ (fun Q hQ => ?_)
  refine lv_aload_n hx hb dX9_aside_0 rfl (lv_at hl 0 rfl) ?_
  refine va_get (D := D) (ci := 9) (v := .ref (a 17)) (C := RX9) (T := TX9) (N := 11) hx hb hT in_X9 hown hK hP 0 cw_0 rfl 2 (by decide) (hT _ t453) (fun _ h9 => h9) rfl dX9_aside_1 ?_
  refine va_get (D := D) (ci := 8) (v := .ref (a 18)) (C := RX8) (T := TX8) (N := 6) hx hb hT in_X8 hown hK hP 17 cw_17 rfl 0 (by decide) (hT _ t312) (fun _ h9 => h9) rfl dX9_aside_4 ?_
  refine lv_iload_n hx hb dX9_aside_7 rfl (lv_at hl 1 rfl) ?_
  refine ro_V (As := [.int p0]) (rest := []) S (s_X1_isCart l D k a st sl  p0 _  hB  ) lkX9_147 ok_X1_isCart ⟨rfl, rfl, Nat.le_of_ble_eq_true rfl, Nat.le_of_ble_eq_true rfl⟩ (pw_V (ci := 1) (q0 := 18) hK hN rfl cw_18 hP hD0) rfl hl.1 rfl (Nat.le_of_ble_eq_true rfl) ⟨Nat.zero_le _, Nat.zero_le _⟩ dX9_aside_8 (fun r1 er1 => ?_)
  rcases er1 with ⟨rfl, g9⟩ | ⟨rfl, g9⟩
  · skip
    have g2 := g9
    have h3 : Iv 0 2 p0 := g2.1
    refine lv_if_ne (tgt := 17) hx hb dX9_aside_11 (by decide) (fun c4 => ?_) (fun c4 => ?_)
    rotate_left
    · first | exact absurd c4 (by decide) | exact absurd (by decide) c4
    refine lv_iconst (v := 0) hx hb dX9_aside_17 (by decide) ?_
    refine lv_istore_n (lv' := [(2, .int 0), (0, .ref (a 0)), (1, .int p0)]) hx hb dX9_aside_18 rfl hl (by decide) rfl (fun ls hl => ?_)
    refine lv_iconst (v := 0) hx hb dX9_aside_19 (by decide) ?_
    refine lv_istore_n (lv' := [(3, .int 0), (2, .int 0), (0, .ref (a 0)), (1, .int p0)]) hx hb dX9_aside_20 rfl hl (by decide) rfl (fun ls hl => ?_)
    have lp21 : ∀ (n9_21 : Nat) (v3_21 : Int32) (v2_21 : Int32) (ls : Array Slot), Iv 0 8 v3_21 → Iv 0 255 v2_21 → lv_has ls 4 [(3, .int v3_21), (2, .int v2_21), (0, .ref (a 0)), (1, .int p0)] → (8 : Int) - v3_21.toInt < (n9_21 : Int) → W p l e (rmk 4) s m ([.ref (a 0), .int p0] : List Value).toArray below meth c s.heap [] 0 0 Q (F0 m 21 ls []) := by
      clear hl
      intro n9_21
      induction n9_21 with
      | zero =>
        intro v3_21 v2_21 ls iv3_21 iv2_21 hl hm21
        exact (fu_0 iv3_21 hm21).elim
      | succ n9_21 ih21 =>
        intro v3_21 v2_21 ls iv3_21 iv2_21 hl hm21
        refine lv_iload_n hx hb dX9_aside_21 rfl (lv_at hl 0 rfl) ?_
        refine lv_aload_n hx hb dX9_aside_22 rfl (lv_at hl 2 rfl) ?_
        refine va_get (D := D) (ci := 9) (v := .ref (a 17)) (C := RX9) (T := TX9) (N := 11) hx hb hT in_X9 hown hK hP 0 cw_0 rfl 2 (by decide) (hT _ t453) (fun _ h9 => h9) rfl dX9_aside_23 ?_
        refine va_get (D := D) (ci := 8) (v := .ref (a 18)) (C := RX8) (T := TX8) (N := 6) hx hb hT in_X8 hown hK hP 17 cw_17 rfl 0 (by decide) (hT _ t312) (fun _ h9 => h9) rfl dX9_aside_26 ?_
        refine va_get (D := D) (ci := 1) (v := .int (st 18 3)) (C := RX1) (T := TX1) (N := 14) hx hb hT in_X1 hown hK hP 18 cw_18 rfl 3 (by decide) (hT _ t211) (fun _ h9 => h9) rfl dX9_aside_29 ?_
        have h230 : Iv 0 8 (st 18 3) := (rb_18_3 hB)
        refine lv_icmp_ge (tgt := 79) hx hb dX9_aside_32 (by decide) (fun c231 => ?_) (fun c231 => ?_)
        · skip
          have n232 : (st 18 3).toInt ≤ v3_21.toInt := (i_le c231)
          refine lv_iload_n hx hb dX9_aside_79 rfl (lv_at hl 1 rfl) ?_
          rw [hQ]
          exact W.iret (v := v2_21) hx hb hr (fun t ht hW => ⟨v2_21, rfl, ⟨(iv_mono (c := (-2)) (d := 255) iv2_21 (by decide) (by decide)), trivial⟩, ht⟩) (fun _ h9 => by cases h9) dX9_aside_80
        · skip
          have n233 : v3_21.toInt < (st 18 3).toInt := (i_nle c231)
          have h234 : Iv 0 7 v3_21 := lt_l iv3_21 n233 h230 (by decide)
          have h235 : Iv 1 8 (st 18 3) := lt_r iv3_21 n233 h230 (by decide)
          refine lv_aload_n hx hb dX9_aside_35 rfl (lv_at hl 2 rfl) ?_
          refine lv_iload_n hx hb dX9_aside_36 rfl (lv_at hl 3 rfl) ?_
          refine lv_iload_n hx hb dX9_aside_37 rfl (lv_at hl 0 rfl) ?_
          refine ro_V (As := [.int p0, .int v3_21]) (rest := []) S (s_X9_isByCart l D k a st sl  p0 v3_21 _  hB  ) lkX9_191 ok_X9_isByCart ⟨rfl, rfl, Nat.le_of_ble_eq_true rfl, Nat.le_of_ble_eq_true rfl⟩ (pw_V (ci := 9) (q0 := 0) hK hN rfl cw_0 hP hD0) rfl hl.1 rfl (Nat.le_of_ble_eq_true rfl) ⟨Nat.zero_le _, Nat.zero_le _⟩ dX9_aside_38 (fun r236 er236 => ?_)
          rcases er236 with ⟨rfl, g9⟩ | ⟨rfl, g9⟩
          · skip
            have g237 := g9
            refine lv_if_eq (tgt := 73) hx hb dX9_aside_41 (by decide) (fun c238 => ?_) (fun c238 => ?_)
            · first | exact absurd c238 (by decide) | exact absurd (by decide) c238
            refine lv_aload_n hx hb dX9_aside_44 rfl (lv_at hl 2 rfl) ?_
            refine va_get (D := D) (ci := 9) (v := .ref (a 17)) (C := RX9) (T := TX9) (N := 11) hx hb hT in_X9 hown hK hP 0 cw_0 rfl 2 (by decide) (hT _ t453) (fun _ h9 => h9) rfl dX9_aside_45 ?_
            refine va_get (D := D) (ci := 8) (v := .ref (a 31)) (C := RX8) (T := TX8) (N := 6) hx hb hT in_X8 hown hK hP 17 cw_17 rfl 1 (by decide) (hT _ t314) (fun _ h9 => h9) rfl dX9_aside_48 ?_
            refine lv_aload_n hx hb dX9_aside_51 rfl (lv_at hl 2 rfl) ?_
            refine va_get (D := D) (ci := 9) (v := .ref (a 17)) (C := RX9) (T := TX9) (N := 11) hx hb hT in_X9 hown hK hP 0 cw_0 rfl 2 (by decide) (hT _ t453) (fun _ h9 => h9) rfl dX9_aside_52 ?_
            refine va_get (D := D) (ci := 8) (v := .ref (a 18)) (C := RX8) (T := TX8) (N := 6) hx hb hT in_X8 hown hK hP 17 cw_17 rfl 0 (by decide) (hT _ t312) (fun _ h9 => h9) rfl dX9_aside_55 ?_
            refine lv_iload_n hx hb dX9_aside_58 rfl (lv_at hl 3 rfl) ?_
            refine lv_iload_n hx hb dX9_aside_59 rfl (lv_at hl 0 rfl) ?_
            refine ro_V (As := [.ref (a 18), .int p0, .int v3_21]) (rest := []) S (s_X5_turnOf l D k a st sl 31 p0 v3_21 _ (by decide) hB h3 (iv_mono (c := (-1)) (d := 7) h234 (by decide) (by decide)) ) lkX9_184 ok_X5_turnOf ⟨rfl, rfl, Nat.le_of_ble_eq_true rfl, Nat.le_of_ble_eq_true rfl⟩ (pw_V (ci := 5) (q0 := 31) hK hN rfl cw_31 hP hD0) rfl hl.1 rfl (Nat.le_of_ble_eq_true rfl) ⟨Nat.zero_le _, Nat.zero_le _⟩ dX9_aside_60 (fun r239 er239 => ?_)
            have h240 : Iv (-1) 7 r239 := er239.1
            refine lv_iload_n hx hb dX9_aside_63 rfl (lv_at hl 0 rfl) ?_
            refine lv_icmp_eq (tgt := 73) hx hb dX9_aside_64 (by decide) (fun c241 => ?_) (fun c241 => ?_)
            · skip
              have h242 : Iv 0 7 r239 := eq_l c241 h234
              obtain ⟨z243, ez243⟩ : ∃ z9 : Int32, z9 = v3_21 + Int32.ofInt 1 := ⟨_, rfl⟩
              have h244 : Iv 1 8 z243 := iv_inc ez243 h234 (by decide) (by decide) (by decide) (by decide) (by decide) (by decide)
              refine lv_iinc (v := z243) (lv' := [(3, .int z243), (2, .int v2_21), (0, .ref (a 0)), (1, .int p0)]) hx hb dX9_aside_73 hl (k := 0) rfl ez243.symm (by decide) rfl (fun ls hl => ?_)
              refine lv_goto (tgt := 21) hx hb dX9_aside_76 (by decide) ?_
              exact ih21 z243 v2_21 _ (iv_mono (c := 0) (d := 8) h244 (by decide) (by decide)) iv2_21 (lv_sub hl [0, 1, 2, 3] rfl) (fu_s (lo := 0) (ti_inc ez243 h234 (by decide) (by decide) (by decide) (by decide)) (by decide) hm21)
            · skip
              refine lv_iload_n hx hb dX9_aside_67 rfl (lv_at hl 1 rfl) ?_
              refine lv_iconst (v := 1) hx hb dX9_aside_68 (by decide) ?_
              refine lv_iload_n hx hb dX9_aside_69 rfl (lv_at hl 0 rfl) ?_
              refine lv_ishl hx hb dX9_aside_70 ?_
              refine lv_topi (fun z245 ez245 => ?_)
              have h246 : Iv 1 128 z245 := iv_shl 7 ez245 h234 (by decide) (by decide) (by decide)
              refine lv_ior hx hb dX9_aside_71 ?_
              refine lv_topi (fun z247 ez247 => ?_)
              have h248 : Iv 0 255 z247 := iv_or 8 ez247 iv2_21 (iv_mono (c := 0) (d := 128) h246 (by decide) (by decide)) (by decide) (by decide) (by decide) (by decide)
              refine lv_istore_n (lv' := [(2, .int z247), (3, .int v3_21), (0, .ref (a 0)), (1, .int p0)]) hx hb dX9_aside_72 rfl hl (by decide) rfl (fun ls hl => ?_)
              obtain ⟨z249, ez249⟩ : ∃ z9 : Int32, z9 = v3_21 + Int32.ofInt 1 := ⟨_, rfl⟩
              have h250 : Iv 1 8 z249 := iv_inc ez249 h234 (by decide) (by decide) (by decide) (by decide) (by decide) (by decide)
              refine lv_iinc (v := z249) (lv' := [(3, .int z249), (2, .int z247), (0, .ref (a 0)), (1, .int p0)]) hx hb dX9_aside_73 hl (k := 1) rfl ez249.symm (by decide) rfl (fun ls hl => ?_)
              refine lv_goto (tgt := 21) hx hb dX9_aside_76 (by decide) ?_
              exact ih21 z249 z247 _ (iv_mono (c := 0) (d := 8) h250 (by decide) (by decide)) h248 (lv_sub hl [0, 1, 2, 3] rfl) (fu_s (lo := 0) (ti_inc ez249 h234 (by decide) (by decide) (by decide) (by decide)) (by decide) hm21)
          · skip
            have g251 := g9
            refine lv_if_eq (tgt := 73) hx hb dX9_aside_41 (by decide) (fun c252 => ?_) (fun c252 => ?_)
            rotate_left
            · first | exact absurd c252 (by decide) | exact absurd (by decide) c252
            obtain ⟨z253, ez253⟩ : ∃ z9 : Int32, z9 = v3_21 + Int32.ofInt 1 := ⟨_, rfl⟩
            have h254 : Iv 1 8 z253 := iv_inc ez253 h234 (by decide) (by decide) (by decide) (by decide) (by decide) (by decide)
            refine lv_iinc (v := z253) (lv' := [(3, .int z253), (2, .int v2_21), (0, .ref (a 0)), (1, .int p0)]) hx hb dX9_aside_73 hl (k := 0) rfl ez253.symm (by decide) rfl (fun ls hl => ?_)
            refine lv_goto (tgt := 21) hx hb dX9_aside_76 (by decide) ?_
            exact ih21 z253 v2_21 _ (iv_mono (c := 0) (d := 8) h254 (by decide) (by decide)) iv2_21 (lv_sub hl [0, 1, 2, 3] rfl) (fu_s (lo := 0) (ti_inc ez253 h234 (by decide) (by decide) (by decide) (by decide)) (by decide) hm21)
    exact lp21 9 0 0 _ (iv_mono (c := 0) (d := 8) (iv_c (by decide) : Iv 0 0 0) (by decide) (by decide)) (iv_mono (c := 0) (d := 255) (iv_c (by decide) : Iv 0 0 0) (by decide) (by decide)) (lv_sub hl [0, 1, 2, 3] rfl) (fu_i (iv_mono (c := 0) (d := 8) (iv_c (by decide) : Iv 0 0 0) (by decide) (by decide)) (by decide))
  · skip
    have g255 := g9
    refine lv_if_ne (tgt := 17) hx hb dX9_aside_11 (by decide) (fun c256 => ?_) (fun c256 => ?_)
    · first | exact absurd c256 (by decide) | exact absurd (by decide) c256
    refine lv_bipush (v := (-2)) hx hb dX9_aside_14 (by decide) ?_
    rw [hQ]
    exact W.iret (v := (-2)) hx hb hr (fun t ht hW => ⟨(-2), rfl, ⟨(iv_mono (c := (-2)) (d := 255) (iv_c (by decide) : Iv (-2) (-2) (-2)) (by decide) (by decide)), trivial⟩, ht⟩) (fun _ h9 => by cases h9) dX9_aside_16
set_option maxHeartbeats 4000000 in
set_option maxRecDepth 100000 in
theorem s_X9_argue (l : Launch) (D : va_G) (k : Nat → ClassId) (a : Nat → Nat) (st : CT) (sl : CL) (p0 : Int32) (p1 : Int32) (sz : Nat) (hB : CB st)  : Met l yX9_argue (.code yX9_argue cX9_argue 6 (some .int) :: TB) (rmk 3) (va_Pc [.ref (a 0), .int p0, .int p1] (PW D k sz (CWS k a st sl))) (vp_Si (fun r => Iv (-2) 40 r ∧ (True))) 0 0 (fun _ => False) := by
  refine Met.ofW (cc := cX9_argue) (maxL := 6) (ret := (some .int)) (by decide) rfl ?_
  intro p e s m args below meth c s₁ B hml hv
  obtain ⟨rfl, hsz, hP, hK, hD0, hN⟩ := hv
  have hx := B.exec
  have hb := B.bytes
  have hr := B.returns
  have hT : ∀ w9 ∈ TB, w9.before ([.ref (a 0), .int p0, .int p1] : List Value).toArray s = true := fun w9 h => atoms_spec (ws := .code yX9_argue cX9_argue 6 (some .int) :: TB) B.pre w9 (List.mem_cons_of_mem _ h)
  have hown : s.vm.findClass RX9 = some m.cls := findClass_of_methodNamed B.named
  have S : CallFix p m c cX9_argue 6 s _ TB RX9 := ⟨hx, hb, hml, hown, hT⟩
  subst hsz
  have hl := lv_entry ([.ref (a 0), .int p0, .int p1]) (n := 6) (Nat.le_of_ble_eq_true rfl)
  rw [lg_entry_eq]
  generalize (lg_sl ([.ref (a 0), .int p0, .int p1]) ++ List.replicate (6 - (lg_sl ([.ref (a 0), .int p0, .int p1])).length) Slot.unset).toArray = ls at hl ⊢
  have hl : lv_has ls 6 [(0, .ref (a 0)), (1, .int p0), (2, .int p1)] := hl
  refine nameQ (fun Q hQ => ?_)
  refine lv_aload_n hx hb dX9_argue_0 rfl (lv_at hl 0 rfl) ?_
  refine lv_iload_n hx hb dX9_argue_1 rfl (lv_at hl 1 rfl) ?_
  refine lv_iload_n hx hb dX9_argue_2 rfl (lv_at hl 2 rfl) ?_
  refine ro_V (As := [.int p0, .int p1]) (rest := []) S (s_X9_isByCart l D k a st sl  p0 p1 _  hB  ) lkX9_191 ok_X9_isByCart ⟨rfl, rfl, Nat.le_of_ble_eq_true rfl, Nat.le_of_ble_eq_true rfl⟩ (pw_V (ci := 9) (q0 := 0) hK hN rfl cw_0 hP hD0) rfl hl.1 rfl (Nat.le_of_ble_eq_true rfl) ⟨Nat.zero_le _, Nat.zero_le _⟩ dX9_argue_3 (fun r1 er1 => ?_)
  rcases er1 with ⟨rfl, g9⟩ | ⟨rfl, g9⟩
  · skip
    have g2 := g9
    have h3 : Iv 0 2 p0 := g2.1
    have h4 : Iv 0 7 p1 := g2.2.1
    refine lv_if_ne (tgt := 12) hx hb dX9_argue_6 (by decide) (fun c5 => ?_) (fun c5 => ?_)
    rotate_left
    · first | exact absurd c5 (by decide) | exact absurd (by decide) c5
    refine lv_aload_n hx hb dX9_argue_12 rfl (lv_at hl 0 rfl) ?_
    refine va_get (D := D) (ci := 9) (v := .ref (a 17)) (C := RX9) (T := TX9) (N := 11) hx hb hT in_X9 hown hK hP 0 cw_0 rfl 2 (by decide) (hT _ t453) (fun _ h9 => h9) rfl dX9_argue_13 ?_
    refine va_get (D := D) (ci := 8) (v := .ref (a 31)) (C := RX8) (T := TX8) (N := 6) hx hb hT in_X8 hown hK hP 17 cw_17 rfl 1 (by decide) (hT _ t314) (fun _ h9 => h9) rfl dX9_argue_16 ?_
    refine lv_iload_n hx hb dX9_argue_19 rfl (lv_at hl 1 rfl) ?_
    refine ro_V (As := [.int p0]) (rest := []) S (s_X5_crewOf l D k a st sl 31 p0 _ (by decide) hB  ) lkX9_153 ok_X5_crewOf ⟨rfl, rfl, Nat.le_of_ble_eq_true rfl, Nat.le_of_ble_eq_true rfl⟩ (pw_V (ci := 5) (q0 := 31) hK hN rfl cw_31 hP hD0) rfl hl.1 rfl (Nat.le_of_ble_eq_true rfl) ⟨Nat.zero_le _, Nat.zero_le _⟩ dX9_argue_20 (fun r6 er6 => ?_)
    have h7 : Iv 0 255 r6 := er6.1
    refine lv_istore_n (lv' := [(3, .int r6), (0, .ref (a 0)), (1, .int p0), (2, .int p1)]) hx hb dX9_argue_23 rfl hl (by decide) rfl (fun ls hl => ?_)
    refine lv_aload_n hx hb dX9_argue_24 rfl (lv_at hl 1 rfl) ?_
    refine va_get (D := D) (ci := 9) (v := .ref (a 17)) (C := RX9) (T := TX9) (N := 11) hx hb hT in_X9 hown hK hP 0 cw_0 rfl 2 (by decide) (hT _ t453) (fun _ h9 => h9) rfl dX9_argue_25 ?_
    refine va_get (D := D) (ci := 8) (v := .ref (a 31)) (C := RX8) (T := TX8) (N := 6) hx hb hT in_X8 hown hK hP 17 cw_17 rfl 1 (by decide) (hT _ t314) (fun _ h9 => h9) rfl dX9_argue_28 ?_
    refine lv_aload_n hx hb dX9_argue_31 rfl (lv_at hl 1 rfl) ?_
    refine va_get (D := D) (ci := 9) (v := .ref (a 17)) (C := RX9) (T := TX9) (N := 11) hx hb hT in_X9 hown hK hP 0 cw_0 rfl 2 (by decide) (hT _ t453) (fun _ h9 => h9) rfl dX9_argue_32 ?_
    refine va_get (D := D) (ci := 8) (v := .ref (a 18)) (C := RX8) (T := TX8) (N := 6) hx hb hT in_X8 hown hK hP 17 cw_17 rfl 0 (by decide) (hT _ t312) (fun _ h9 => h9) rfl dX9_argue_35 ?_
    refine lv_iload_n hx hb dX9_argue_38 rfl (lv_at hl 0 rfl) ?_
    refine lv_aload_n hx hb dX9_argue_39 rfl (lv_at hl 1 rfl) ?_
    refine va_get (D := D) (ci := 9) (v := .ref (a 17)) (C := RX9) (T := TX9) (N := 11) hx hb hT in_X9 hown hK hP 0 cw_0 rfl 2 (by decide) (hT _ t453) (fun _ h9 => h9) rfl dX9_argue_40 ?_
    refine va_get (D := D) (ci := 8) (v := .ref (a 31)) (C := RX8) (T := TX8) (N := 6) hx hb hT in_X8 hown hK hP 17 cw_17 rfl 1 (by decide) (hT _ t314) (fun _ h9 => h9) rfl dX9_argue_43 ?_
    refine va_get (D := D) (ci := 5) (v := .ref (a 35)) (C := RX5) (T := TX5) (N := 5) hx hb hT in_X5 hown hK hP 31 cw_31 rfl 3 (by decide) (hT _ t180) (fun _ h9 => h9) rfl dX9_argue_46 ?_
    refine lv_iload_n hx hb dX9_argue_49 rfl (lv_at hl 2 rfl) ?_
    refine va_iald hx hb hK hP 35 0 cw_35 rfl (iv_in h3 (by decide) (by decide)) dX9_argue_50 ?_
    refine lv_topi (fun z8 ez8 => ?_)
    have h9 : Iv 0 5 z8 := by rw [ez8]; exact (rb_35 hB (vp_in_lt (iv_in h3 (by decide) (by decide))))
    refine ro_V (As := [.ref (a 18), .int r6, .int z8]) (rest := []) S (s_X5_favourite l D k a st sl 31 r6 z8 _ (by decide) hB  ) lkX9_194 ok_X5_favourite ⟨rfl, rfl, Nat.le_of_ble_eq_true rfl, Nat.le_of_ble_eq_true rfl⟩ (pw_V (ci := 5) (q0 := 31) hK hN rfl cw_31 hP hD0) rfl hl.1 rfl (Nat.le_of_ble_eq_true rfl) ⟨Nat.zero_le _, Nat.zero_le _⟩ dX9_argue_51 (fun r10 er10 => ?_)
    have h11 : Iv (-1) 7 r10 := er10.1
    have k12 := er10.2
    refine lv_istore (lv' := [(4, .int r10), (3, .int r6), (0, .ref (a 0)), (1, .int p0), (2, .int p1)]) hx hb dX9_argue_54 hl (by decide) rfl (fun ls hl => ?_)
    refine lv_iconst (v := 0) hx hb dX9_argue_56 (by decide) ?_
    refine lv_istore (lv' := [(5, .int 0), (4, .int r10), (3, .int r6), (0, .ref (a 0)), (1, .int p0), (2, .int p1)]) hx hb dX9_argue_57 hl (by decide) rfl (fun ls hl => ?_)
    have lp59 : ∀ (n9_59 : Nat) (v5_59 : Int32) (ls : Array Slot), Iv 0 41 v5_59 → lv_has ls 6 [(5, .int v5_59), (4, .int r10), (3, .int r6), (0, .ref (a 0)), (1, .int p0), (2, .int p1)] → (41 : Int) - v5_59.toInt < (n9_59 : Int) → W p l e (rmk 3) s m ([.ref (a 0), .int p0, .int p1] : List Value).toArray below meth c s.heap [] 0 0 Q (F0 m 59 ls []) := by
      clear hl
      intro n9_59
      induction n9_59 with
      | zero =>
        intro v5_59 ls iv5_59 hl hm59
        exact (fu_0 iv5_59 hm59).elim
      | succ n9_59 ih59 =>
        intro v5_59 ls iv5_59 hl hm59
        refine lv_iload hx hb dX9_argue_59 (lv_at hl 0 rfl) ?_
        refine lv_bipush (v := 40) hx hb dX9_argue_61 (by decide) ?_
        refine lv_icmp_gt (tgt := 95) hx hb dX9_argue_63 (by decide) (fun c177 => ?_) (fun c177 => ?_)
        · skip
          have n178 : (40 : Int32).toInt < v5_59.toInt := (i_lt c177)
          have h179 : Iv 41 41 v5_59 := lt_r (iv_c (by decide) : Iv 40 40 40) n178 iv5_59 (by decide)
          refine lv_iconst (v := (-1)) hx hb dX9_argue_95 (by decide) ?_
          rw [hQ]
          exact W.iret (v := (-1)) hx hb hr (fun t ht hW => ⟨(-1), rfl, ⟨(iv_mono (c := (-2)) (d := 40) (iv_c (by decide) : Iv (-1) (-1) (-1)) (by decide) (by decide)), trivial⟩, ht⟩) (fun _ h9 => by cases h9) dX9_argue_96
        · skip
          have n180 : v5_59.toInt ≤ (40 : Int32).toInt := (i_nlt c177)
          have h181 : Iv 0 40 v5_59 := le_l iv5_59 n180 (iv_c (by decide) : Iv 40 40 40) (by decide)
          refine lv_aload_n hx hb dX9_argue_66 rfl (lv_at hl 3 rfl) ?_
          refine va_get (D := D) (ci := 9) (v := .ref (a 17)) (C := RX9) (T := TX9) (N := 11) hx hb hT in_X9 hown hK hP 0 cw_0 rfl 2 (by decide) (hT _ t453) (fun _ h9 => h9) rfl dX9_argue_67 ?_
          refine va_get (D := D) (ci := 8) (v := .ref (a 31)) (C := RX8) (T := TX8) (N := 6) hx hb hT in_X8 hown hK hP 17 cw_17 rfl 1 (by decide) (hT _ t314) (fun _ h9 => h9) rfl dX9_argue_70 ?_
          refine lv_iload_n hx hb dX9_argue_73 rfl (lv_at hl 2 rfl) ?_
          refine lv_iload hx hb dX9_argue_74 (lv_at hl 1 rfl) ?_
          refine lv_iload_n hx hb dX9_argue_76 rfl (lv_at hl 5 rfl) ?_
          refine lv_iload hx hb dX9_argue_77 (lv_at hl 0 rfl) ?_
          refine ro_V (As := [.int r6, .int r10, .int p1, .int v5_59]) (rest := []) S (s_X5_yieldTo l D k a st sl 31 r6 r10 p1 v5_59 _ (by decide) hB h11 (iv_mono (c := (-1)) (d := 7) h4 (by decide) (by decide)) ) lkX9_197 ok_X5_yieldTo ⟨rfl, rfl, Nat.le_of_ble_eq_true rfl, Nat.le_of_ble_eq_true rfl⟩ (pw_V (ci := 5) (q0 := 31) hK hN rfl cw_31 hP hD0) rfl hl.1 rfl (Nat.le_of_ble_eq_true rfl) ⟨Nat.zero_le _, Nat.zero_le _⟩ dX9_argue_79 (fun r182 er182 => ?_)
          have h183 : Iv (-1) 7 r182 := er182.1
          refine lv_iload_n hx hb dX9_argue_82 rfl (lv_at hl 5 rfl) ?_
          refine lv_icmp_ne (tgt := 89) hx hb dX9_argue_83 (by decide) (fun c184 => ?_) (fun c184 => ?_)
          · skip
            obtain ⟨z185, ez185⟩ : ∃ z9 : Int32, z9 = v5_59 + Int32.ofInt 1 := ⟨_, rfl⟩
            have h186 : Iv 1 41 z185 := iv_inc ez185 h181 (by decide) (by decide) (by decide) (by decide) (by decide) (by decide)
            refine lv_iinc (v := z185) (lv' := [(5, .int z185), (4, .int r10), (3, .int r6), (0, .ref (a 0)), (1, .int p0), (2, .int p1)]) hx hb dX9_argue_89 hl (k := 0) rfl ez185.symm (by decide) rfl (fun ls hl => ?_)
            refine lv_goto (tgt := 59) hx hb dX9_argue_92 (by decide) ?_
            exact ih59 z185 _ (iv_mono (c := 0) (d := 41) h186 (by decide) (by decide)) (lv_sub hl [0, 1, 2, 3, 4, 5] rfl) (fu_s (lo := 0) (ti_inc ez185 h181 (by decide) (by decide) (by decide) (by decide)) (by decide) hm59)
          · skip
            have h187 : Iv 0 7 r182 := eq_l c184 h4
            refine lv_iload hx hb dX9_argue_86 (lv_at hl 0 rfl) ?_
            rw [hQ]
            exact W.iret (v := v5_59) hx hb hr (fun t ht hW => ⟨v5_59, rfl, ⟨(iv_mono (c := (-2)) (d := 40) h181 (by decide) (by decide)), trivial⟩, ht⟩) (fun _ h9 => by cases h9) dX9_argue_88
    exact lp59 42 0 _ (iv_mono (c := 0) (d := 41) (iv_c (by decide) : Iv 0 0 0) (by decide) (by decide)) (lv_sub hl [0, 1, 2, 3, 4, 5] rfl) (fu_i (iv_mono (c := 0) (d := 41) (iv_c (by decide) : Iv 0 0 0) (by decide) (by decide)) (by decide))
  · skip
    have g188 := g9
    refine lv_if_ne (tgt := 12) hx hb dX9_argue_6 (by decide) (fun c189 => ?_) (fun c189 => ?_)
    · first | exact absurd c189 (by decide) | exact absurd (by decide) c189
    refine lv_bipush (v := (-2)) hx hb dX9_argue_9 (by decide) ?_
    rw [hQ]
    exact W.iret (v := (-2)) hx hb hr (fun t ht hW => ⟨(-2), rfl, ⟨(iv_mono (c := (-2)) (d := 40) (iv_c (by decide) : Iv (-2) (-2) (-2)) (by decide) (by decide)), trivial⟩, ht⟩) (fun _ h9 => by cases h9) dX9_argue_11
