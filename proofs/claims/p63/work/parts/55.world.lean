set_option maxHeartbeats 4000000 in
set_option maxRecDepth 100000 in
theorem s_X8_perform (l : Launch) (D : va_G) (k : Nat → ClassId) (a : Nat → Nat) (st : CT) (sl : CL) (p0 : Int32) (p1 : Int32) (p2 : Int32) (sz : Nat) (hB : CB st)  (hpa : PA p0 p1 p2) : Met l yX8_perform (.code yX8_perform cX8_perform 5 none :: TB) (rmw 5 0 0) (va_Pc [.ref (a 17), .int p0, .int p1, .int p2] (PW D k sz (CWS k a st sl))) (QV D (S := CT) (fun u => CB u ∧ FR [32, 34, 33, 35, 36] st u ∧ (True)) (fun u => CWS k a u sl) (fun _ => []) (CWS k a st sl) sz) 0 0 (va_A (CWS k a st sl) sz) := by
  refine Met.ofW (cc := cX8_perform) (maxL := 5) (ret := none) (by decide) rfl ?_
  intro p e s m args below meth c s₁ B hml hv
  obtain ⟨rfl, hsz, hP, hK, hD0, hN⟩ := hv
  have hx := B.exec
  have hb := B.bytes
  have hr := B.returns
  have hT : ∀ w9 ∈ TB, w9.before ([.ref (a 17), .int p0, .int p1, .int p2] : List Value).toArray s = true := fun w9 h => atoms_spec (ws := .code yX8_perform cX8_perform 5 none :: TB) B.pre w9 (List.mem_cons_of_mem _ h)
  have hown : s.vm.findClass RX8 = some m.cls := findClass_of_methodNamed B.named
  have S : CallFix p m c cX8_perform 5 s _ TB RX8 := ⟨hx, hb, hml, hown, hT⟩
  subst hsz
  have hD := hD0.self (sz := s.heap.size)
  generalize hAe : va_A (CWS k a st sl) s.heap.size = A at hD ⊢
  have hA : ∀ q : Nat, s.heap.size ≤ q → A q := fun q h => by rw [← hAe]; exact Or.inr h
  have hS : va_S A s.heap s.heap [] := va_S.rf
  have hl := lv_entry ([.ref (a 17), .int p0, .int p1, .int p2]) (n := 5) (Nat.le_of_ble_eq_true rfl)
  rw [lg_entry_eq]
  generalize (lg_sl ([.ref (a 17), .int p0, .int p1, .int p2]) ++ List.replicate (5 - (lg_sl ([.ref (a 17), .int p0, .int p1, .int p2])).length) Slot.unset).toArray = ls at hl ⊢
  have hl : lv_has ls 5 [(0, .ref (a 17)), (1, .int p0), (2, .int p1), (3, .int p2)] := hl
  refine nameQ (fun Q hQ => ?_)
  refine lv_iload_n hx hb dX8_perform_0 rfl (lv_at hl 1 rfl) ?_
  refine lv_if_ne (tgt := 21) hx hb dX8_perform_1 (by decide) (fun c1 => ?_) (fun c1 => ?_)
  · skip
    refine lv_iload_n hx hb dX8_perform_21 rfl (lv_at hl 1 rfl) ?_
    refine lv_iconst (v := 1) hx hb dX8_perform_22 (by decide) ?_
    refine lv_icmp_ne (tgt := 69) hx hb dX8_perform_23 (by decide) (fun c2 => ?_) (fun c2 => ?_)
    · skip
      have h3 : Iv 0 7 p1 := hpa.2.2 c1 c2
      refine lv_aload_n hx hb dX8_perform_69 rfl (lv_at hl 0 rfl) ?_
      refine va_get (D := D) (ci := 8) (v := .ref (a 31)) (C := RX8) (T := TX8) (N := 6) hx hb hT in_X8 hown hK hP 17 cw_17 rfl 1 (by decide) (hT _ t313) (fun _ h9 => h9) rfl dX8_perform_70 ?_
      refine lv_iload_n hx hb dX8_perform_73 rfl (lv_at hl 2 rfl) ?_
      refine ca_v hP hD hS hA (fun hDc => run_V (mc := 0) (ms := 0) (As := [.int p1]) (rest := []) S (s_X5_likeNothing l D k a st sl 31 p1 _ (by decide) hB h3 ) lkX8_70 ok_X5_likeNothing ⟨rfl, rfl, Nat.le_of_ble_eq_true rfl, Nat.le_of_ble_eq_true rfl⟩ (pw_V (ci := 5) (q0 := 31) hK hN rfl cw_31 hP hDc) rfl hl.1 rfl (Nat.le_of_ble_eq_true rfl) ⟨Nat.zero_le _, Nat.zero_le _⟩ dX8_perform_74) (fun s4 H9 locs9 hs4 hP9 hD9 hS9 => ?_)
      clear hP hD hS
      have hS := hS9
      have hP := hP9
      have hD := hD9
      clear hP9 hD9 hS9
      obtain ⟨hBs4, gs4, fs4⟩ := hs4
      have hFs4 : FR [32, 34, 33, 35, 36] st s4 := fr_ca fr_rf gs4 (sub_1 (List.mem_of_getElem? (i := 0) rfl) sub_0)
      rw [hQ]
      exact W.vret hx hb hr (fun t ht hW => ⟨⟨s4, rfl, ⟨hBs4, hFs4, trivial⟩, by rw [ht]; exact hP, va_K.moved hW.alike (hK.sub (tys' := []) [] rfl), by rw [hAe]; exact hD⟩, by rw [hAe]; exact hS.F ht⟩) hS.2.2 dX8_perform_77
    · skip
      have h6 : Iv 1 1 p0 := eq_l c2 (iv_c (by decide) : Iv 1 1 1)
      have h7 : Iv 0 7 p1 := (hpa.2.1 (iv_eq 1 h6 rfl)).1
      have h8 : Iv 0 7 p2 := (hpa.2.1 (iv_eq 1 h6 rfl)).2
      refine lv_aload_n hx hb dX8_perform_26 rfl (lv_at hl 0 rfl) ?_
      refine va_get (D := D) (ci := 8) (v := .ref (a 31)) (C := RX8) (T := TX8) (N := 6) hx hb hT in_X8 hown hK hP 17 cw_17 rfl 1 (by decide) (hT _ t313) (fun _ h9 => h9) rfl dX8_perform_27 ?_
      refine va_get (D := D) (ci := 5) (v := .ref (a 34)) (C := RX5) (T := TX5) (N := 5) hx hb hT in_X5 hown hK hP 31 cw_31 rfl 2 (by decide) (hT _ t173) (fun _ h9 => h9) rfl dX8_perform_30 ?_
      refine lv_iload_n hx hb dX8_perform_33 rfl (lv_at hl 2 rfl) ?_
      refine va_iald hx hb hK hP 34 0 cw_34 rfl (iv_in h7 (by decide) (by decide)) dX8_perform_34 ?_
      refine lv_topi (fun z9 ez9 => ?_)
      refine lv_istore (lv' := [(4, .int z9), (0, .ref (a 17)), (1, .int p0), (2, .int p1), (3, .int p2)]) hx hb dX8_perform_35 hl (by decide) rfl (fun ls hl => ?_)
      refine lv_aload_n hx hb dX8_perform_37 rfl (lv_at hl 1 rfl) ?_
      refine va_get (D := D) (ci := 8) (v := .ref (a 31)) (C := RX8) (T := TX8) (N := 6) hx hb hT in_X8 hown hK hP 17 cw_17 rfl 1 (by decide) (hT _ t313) (fun _ h9 => h9) rfl dX8_perform_38 ?_
      refine va_get (D := D) (ci := 5) (v := .ref (a 34)) (C := RX5) (T := TX5) (N := 5) hx hb hT in_X5 hown hK hP 31 cw_31 rfl 2 (by decide) (hT _ t173) (fun _ h9 => h9) rfl dX8_perform_41 ?_
      refine lv_iload_n hx hb dX8_perform_44 rfl (lv_at hl 3 rfl) ?_
      refine lv_aload_n hx hb dX8_perform_45 rfl (lv_at hl 1 rfl) ?_
      refine va_get (D := D) (ci := 8) (v := .ref (a 31)) (C := RX8) (T := TX8) (N := 6) hx hb hT in_X8 hown hK hP 17 cw_17 rfl 1 (by decide) (hT _ t313) (fun _ h9 => h9) rfl dX8_perform_46 ?_
      refine va_get (D := D) (ci := 5) (v := .ref (a 34)) (C := RX5) (T := TX5) (N := 5) hx hb hT in_X5 hown hK hP 31 cw_31 rfl 2 (by decide) (hT _ t173) (fun _ h9 => h9) rfl dX8_perform_49 ?_
      refine lv_iload_n hx hb dX8_perform_52 rfl (lv_at hl 4 rfl) ?_
      refine va_iald hx hb hK hP 34 0 cw_34 rfl (iv_in h8 (by decide) (by decide)) dX8_perform_53 ?_
      refine lv_topi (fun z10 ez10 => ?_)
      refine c_ist hx hb hK hP hD hS cw_34 cs_34 (iv_in h7 (by decide) (by decide)) dX8_perform_54 (fun s11 H9 locs9 es11 hP9 hD9 hS9 => ?_)
      clear hP hD hS
      have hS := hS9
      have hP := hP9
      have hD := hD9
      clear hP9 hD9 hS9
      have hBs11 : CB s11 := by rw [es11]; exact cb_sw hB trivial
      have hFs11 : FR [32, 34, 33, 35, 36] st s11 := fr_sw fr_rf (List.mem_of_getElem? (i := 1) rfl) es11
      refine lv_aload_n hx hb dX8_perform_55 rfl (lv_at hl 1 rfl) ?_
      refine va_get (D := D) (ci := 8) (v := .ref (a 31)) (C := RX8) (T := TX8) (N := 6) hx hb hT in_X8 hown hK hP 17 cw_17 rfl 1 (by decide) (hT _ t313) (fun _ h9 => h9) rfl dX8_perform_56 ?_
      refine va_get (D := D) (ci := 5) (v := .ref (a 34)) (C := RX5) (T := TX5) (N := 5) hx hb hT in_X5 hown hK hP 31 cw_31 rfl 2 (by decide) (hT _ t173) (fun _ h9 => h9) rfl dX8_perform_59 ?_
      refine lv_iload_n hx hb dX8_perform_62 rfl (lv_at hl 4 rfl) ?_
      refine lv_iload hx hb dX8_perform_63 (lv_at hl 0 rfl) ?_
      refine c_ist hx hb hK hP hD hS cw_34 cs_34 (iv_in h8 (by decide) (by decide)) dX8_perform_65 (fun s12 H9 locs9 es12 hP9 hD9 hS9 => ?_)
      clear hP hD hS
      have hS := hS9
      have hP := hP9
      have hD := hD9
      clear hP9 hD9 hS9
      have hBs12 : CB s12 := by rw [es12]; exact cb_sw hBs11 trivial
      have hFs12 : FR [32, 34, 33, 35, 36] st s12 := fr_sw hFs11 (List.mem_of_getElem? (i := 1) rfl) es12
      refine lv_goto (tgt := 77) hx hb dX8_perform_66 (by decide) ?_
      rw [hQ]
      exact W.vret hx hb hr (fun t ht hW => ⟨⟨s12, rfl, ⟨hBs12, hFs12, trivial⟩, by rw [ht]; exact hP, va_K.moved hW.alike (hK.sub (tys' := []) [] rfl), by rw [hAe]; exact hD⟩, by rw [hAe]; exact hS.F ht⟩) hS.2.2 dX8_perform_77
  · skip
    have h13 : Iv 0 0 p0 := eq_l c1 (iv_c (by decide) : Iv 0 0 0)
    have h14 : Iv 0 2 p1 := hpa.1 (iv_eq 0 h13 rfl)
    refine lv_aload_n hx hb dX8_perform_4 rfl (lv_at hl 0 rfl) ?_
    refine va_get (D := D) (ci := 8) (v := .ref (a 31)) (C := RX8) (T := TX8) (N := 6) hx hb hT in_X8 hown hK hP 17 cw_17 rfl 1 (by decide) (hT _ t313) (fun _ h9 => h9) rfl dX8_perform_5 ?_
    refine lv_aload_n hx hb dX8_perform_8 rfl (lv_at hl 0 rfl) ?_
    refine va_get (D := D) (ci := 8) (v := .ref (a 18)) (C := RX8) (T := TX8) (N := 6) hx hb hT in_X8 hown hK hP 17 cw_17 rfl 0 (by decide) (hT _ t311) (fun _ h9 => h9) rfl dX8_perform_9 ?_
    refine lv_iload_n hx hb dX8_perform_12 rfl (lv_at hl 2 rfl) ?_
    refine lv_iload_n hx hb dX8_perform_13 rfl (lv_at hl 3 rfl) ?_
    refine ca_i hP hD hS hA (fun hDc => run_V (mc := 0) (ms := 0) (As := [.ref (a 18), .int p1, .int p2]) (rest := []) S (s_X5_go l D k a st sl 31 p1 p2 _ (by decide) hB h14 ) lkX8_63 ok_X5_go ⟨rfl, rfl, Nat.le_of_ble_eq_true rfl, Nat.le_of_ble_eq_true rfl⟩ (pw_V (ci := 5) (q0 := 31) hK hN rfl cw_31 hP hDc) rfl hl.1 rfl (Nat.le_of_ble_eq_true rfl) ⟨Nat.zero_le _, Nat.zero_le _⟩ dX8_perform_14) (fun r16 s15 H9 locs9 hs15 hP9 hD9 hS9 => ?_)
    clear hP hD hS
    have hS := hS9
    have hP := hP9
    have hD := hD9
    clear hP9 hD9 hS9
    obtain ⟨hBs15, gs15, fs15⟩ := hs15
    have hFs15 : FR [32, 34, 33, 35, 36] st s15 := fr_ca fr_rf gs15 (sub_1 (List.mem_of_getElem? (i := 0) rfl) (sub_1 (List.mem_of_getElem? (i := 2) rfl) (sub_1 (List.mem_of_getElem? (i := 3) rfl) (sub_1 (List.mem_of_getElem? (i := 4) rfl) sub_0))))
    have h17 : Iv (-1) 7 r16 := fs15.1
    refine lv_pop hx hb dX8_perform_17 rfl ?_
    refine lv_goto (tgt := 77) hx hb dX8_perform_18 (by decide) ?_
    rw [hQ]
    exact W.vret hx hb hr (fun t ht hW => ⟨⟨s15, rfl, ⟨hBs15, hFs15, trivial⟩, by rw [ht]; exact hP, va_K.moved hW.alike (hK.sub (tys' := []) [] rfl), by rw [hAe]; exact hD⟩, by rw [hAe]; exact hS.F ht⟩) hS.2.2 dX8_perform_77
set_option maxHeartbeats 4000000 in
set_option maxRecDepth 100000 in
theorem s_X8_isFull (l : Launch) (D : va_G) (k : Nat → ClassId) (a : Nat → Nat) (st : CT) (sl : CL) (sz : Nat) (hB : CB st)  : Met l yX8_isFull (.code yX8_isFull cX8_isFull 1 (some .boolean) :: TB) (rmk 1) (va_Pc [.ref (a 17)] (PW D k sz (CWS k a st sl))) (vp_Si (fun r => (r = 1 ∧ (True)) ∨ (r = 0 ∧ (Iv 0 39 (st 17 2))))) 0 0 (fun _ => False) := by
  refine Met.ofW (cc := cX8_isFull) (maxL := 1) (ret := (some .boolean)) (by decide) rfl ?_
  intro p e s m args below meth c s₁ B hml hv
  obtain ⟨rfl, hsz, hP, hK, hD0, hN⟩ := hv
  have hx := B.exec
  have hb := B.bytes
  have hr := B.returns
  have hT : ∀ w9 ∈ TB, w9.before ([.ref (a 17)] : List Value).toArray s = true := fun w9 h => atoms_spec (ws := .code yX8_isFull cX8_isFull 1 (some .boolean) :: TB) B.pre w9 (List.mem_cons_of_mem _ h)
  have hown : s.vm.findClass RX8 = some m.cls := findClass_of_methodNamed B.named
  have S : CallFix p m c cX8_isFull 1 s _ TB RX8 := ⟨hx, hb, hml, hown, hT⟩
  subst hsz
  have hl := lv_entry ([.ref (a 17)]) (n := 1) (Nat.le_of_ble_eq_true rfl)
  rw [lg_entry_eq]
  generalize (lg_sl ([.ref (a 17)]) ++ List.replicate (1 - (lg_sl ([.ref (a 17)])).length) Slot.unset).toArray = ls at hl ⊢
  have hl : lv_has ls 1 [(0, .ref (a 17))] := hl
  refine nameQ (fun Q hQ => ?_)
  refine lv_aload_n hx hb dX8_isFull_0 rfl (lv_at hl 0 rfl) ?_
  refine va_get (D := D) (ci := 8) (v := .int (st 17 2)) (C := RX8) (T := TX8) (N := 6) hx hb hT in_X8 hown hK hP 17 cw_17 rfl 2 (by decide) (hT _ t315) (fun _ h9 => h9) rfl dX8_isFull_1 ?_
  have h1 : Iv 0 40 (st 17 2) := (rb_17_2 hB)
  refine lv_bipush (v := 40) hx hb dX8_isFull_4 (by decide) ?_
  refine lv_icmp_lt (tgt := 13) hx hb dX8_isFull_6 (by decide) (fun c2 => ?_) (fun c2 => ?_)
  · skip
    have n3 : (st 17 2).toInt < (40 : Int32).toInt := (i_lt c2)
    have h4 : Iv 0 39 (st 17 2) := lt_l h1 n3 (iv_c (by decide) : Iv 40 40 40) (by decide)
    refine lv_iconst (v := 0) hx hb dX8_isFull_13 (by decide) ?_
    rw [hQ]
    exact W.zret (v := 0) (ty := .boolean) hx hb hr rfl (fun t ht hW => ⟨0, rfl, Or.inr ⟨rfl, h4⟩, ht⟩) (fun _ h9 => by cases h9) dX8_isFull_14
  · skip
    have n5 : (40 : Int32).toInt ≤ (st 17 2).toInt := (i_nlt c2)
    have h6 : Iv 40 40 (st 17 2) := le_r (iv_c (by decide) : Iv 40 40 40) n5 h1 (by decide)
    refine lv_iconst (v := 1) hx hb dX8_isFull_9 (by decide) ?_
    refine lv_goto (tgt := 14) hx hb dX8_isFull_10 (by decide) ?_
    rw [hQ]
    exact W.zret (v := 1) (ty := .boolean) hx hb hr rfl (fun t ht hW => ⟨1, rfl, Or.inl ⟨rfl, trivial⟩, ht⟩) (fun _ h9 => by cases h9) dX8_isFull_14
set_option maxHeartbeats 4000000 in
set_option maxRecDepth 100000 in
theorem s_X8_act (l : Launch) (D : va_G) (k : Nat → ClassId) (a : Nat → Nat) (st : CT) (sl : CL) (p0 : Int32) (p1 : Int32) (p2 : Int32) (sz : Nat) (hB : CB st)  (hpa : PA p0 p1 p2) (hX : WI st 17) : Met l yX8_act (.code yX8_act cX8_act 4 none :: TB) (rmw 6 0 0) (va_Pc [.ref (a 17), .int p0, .int p1, .int p2] (PW D k sz (CWS k a st sl))) (QV D (S := CT) (fun u => CB u ∧ FR [37, 38, 39, 17, 32, 34, 33, 35, 36] st u ∧ (WI u 17)) (fun u => CWS k a u sl) (fun _ => []) (CWS k a st sl) sz) 0 0 (va_A (CWS k a st sl) sz) := by
  refine Met.ofW (cc := cX8_act) (maxL := 4) (ret := none) (by decide) rfl ?_
  intro p e s m args below meth c s₁ B hml hv
  obtain ⟨rfl, hsz, hP, hK, hD0, hN⟩ := hv
  have hx := B.exec
  have hb := B.bytes
  have hr := B.returns
  have hT : ∀ w9 ∈ TB, w9.before ([.ref (a 17), .int p0, .int p1, .int p2] : List Value).toArray s = true := fun w9 h => atoms_spec (ws := .code yX8_act cX8_act 4 none :: TB) B.pre w9 (List.mem_cons_of_mem _ h)
  have hown : s.vm.findClass RX8 = some m.cls := findClass_of_methodNamed B.named
  have S : CallFix p m c cX8_act 4 s _ TB RX8 := ⟨hx, hb, hml, hown, hT⟩
  subst hsz
  have hD := hD0.self (sz := s.heap.size)
  generalize hAe : va_A (CWS k a st sl) s.heap.size = A at hD ⊢
  have hA : ∀ q : Nat, s.heap.size ≤ q → A q := fun q h => by rw [← hAe]; exact Or.inr h
  have hS : va_S A s.heap s.heap [] := va_S.rf
  have hl := lv_entry ([.ref (a 17), .int p0, .int p1, .int p2]) (n := 4) (Nat.le_of_ble_eq_true rfl)
  rw [lg_entry_eq]
  generalize (lg_sl ([.ref (a 17), .int p0, .int p1, .int p2]) ++ List.replicate (4 - (lg_sl ([.ref (a 17), .int p0, .int p1, .int p2])).length) Slot.unset).toArray = ls at hl ⊢
  have hl : lv_has ls 4 [(0, .ref (a 17)), (1, .int p0), (2, .int p1), (3, .int p2)] := hl
  refine nameQ (fun Q hQ => ?_)
  refine lv_aload_n hx hb dX8_act_0 rfl (lv_at hl 0 rfl) ?_
  refine ro_V (As := []) (rest := []) S (s_X8_isFull l D k a st sl   _  hB  ) lkX8_55 ok_X8_isFull ⟨rfl, rfl, Nat.le_of_ble_eq_true rfl, Nat.le_of_ble_eq_true rfl⟩ (pw_V (ci := 8) (q0 := 17) hK hN rfl cw_17 hP (hD.weaken (fun _ _ _ _ => trivial))) rfl hl.1 rfl (Nat.le_of_ble_eq_true rfl) ⟨Nat.zero_le _, Nat.zero_le _⟩ dX8_act_1 (fun r1 er1 => ?_)
  rcases er1 with ⟨rfl, g9⟩ | ⟨rfl, g9⟩
  · skip
    have g2 := g9
    refine lv_if_ne (tgt := 54) hx hb dX8_act_4 (by decide) (fun c3 => ?_) (fun c3 => ?_)
    rotate_left
    · first | exact absurd c3 (by decide) | exact absurd (by decide) c3
    rw [hQ]
    exact W.vret hx hb hr (fun t ht hW => ⟨⟨st, rfl, ⟨hB, fr_rf, hX⟩, by rw [ht]; exact hP, va_K.moved hW.alike (hK.sub (tys' := []) [] rfl), by rw [hAe]; exact hD⟩, by rw [hAe]; exact hS.F ht⟩) hS.2.2 dX8_act_54
  · skip
    have g4 := g9
    have h5 : Iv 0 39 (st 17 2) := g4
    refine lv_if_ne (tgt := 54) hx hb dX8_act_4 (by decide) (fun c6 => ?_) (fun c6 => ?_)
    · first | exact absurd c6 (by decide) | exact absurd (by decide) c6
    refine lv_aload_n hx hb dX8_act_7 rfl (lv_at hl 0 rfl) ?_
    refine va_get (D := D) (ci := 8) (v := .ref (a 37)) (C := RX8) (T := TX8) (N := 6) hx hb hT in_X8 hown hK hP 17 cw_17 rfl 3 (by decide) (hT _ t317) (fun _ h9 => h9) rfl dX8_act_8 ?_
    refine lv_aload_n hx hb dX8_act_11 rfl (lv_at hl 0 rfl) ?_
    refine va_get (D := D) (ci := 8) (v := .int (st 17 2)) (C := RX8) (T := TX8) (N := 6) hx hb hT in_X8 hown hK hP 17 cw_17 rfl 2 (by decide) (hT _ t315) (fun _ h9 => h9) rfl dX8_act_12 ?_
    refine lv_iload_n hx hb dX8_act_15 rfl (lv_at hl 1 rfl) ?_
    refine c_ist hx hb hK hP hD hS cw_37 cs_37 (iv_in (⟨h5.1, h5.2⟩ : Iv 0 39 (st 17 2)) (by decide) (by decide)) dX8_act_16 (fun s7 H9 locs9 es7 hP9 hD9 hS9 => ?_)
    clear hP hD hS
    have hS := hS9
    have hP := hP9
    have hD := hD9
    clear hP9 hD9 hS9
    have hBs7 : CB s7 := by rw [es7]; exact cb_sw hB trivial
    have hFs7 : FR [37, 38, 39, 17, 32, 34, 33, 35, 36] st s7 := fr_sw fr_rf (List.mem_of_getElem? (i := 0) rfl) es7
    refine lv_aload_n hx hb dX8_act_17 rfl (lv_at hl 0 rfl) ?_
    refine va_get (D := D) (ci := 8) (v := .ref (a 38)) (C := RX8) (T := TX8) (N := 6) hx hb hT in_X8 hown hK hP 17 cw_17 rfl 4 (by decide) (hT _ t318) (fun _ h9 => h9) rfl dX8_act_18 ?_
    refine lv_aload_n hx hb dX8_act_21 rfl (lv_at hl 0 rfl) ?_
    refine va_get (D := D) (ci := 8) (v := .int (s7 17 2)) (C := RX8) (T := TX8) (N := 6) hx hb hT in_X8 hown hK hP 17 cw_17 rfl 2 (by decide) (hT _ t315) (fun _ h9 => h9) rfl dX8_act_22 ?_
    refine k_top (y := (st 17 2)) (congrFun (sw_at es7 (by decide)) 2) ?_
    refine lv_iload_n hx hb dX8_act_25 rfl (lv_at hl 2 rfl) ?_
    refine c_ist hx hb hK hP hD hS cw_38 cs_38 (iv_in (⟨h5.1, h5.2⟩ : Iv 0 39 (st 17 2)) (by decide) (by decide)) dX8_act_26 (fun s8 H9 locs9 es8 hP9 hD9 hS9 => ?_)
    clear hP hD hS
    have hS := hS9
    have hP := hP9
    have hD := hD9
    clear hP9 hD9 hS9
    have hBs8 : CB s8 := by rw [es8]; exact cb_sw hBs7 trivial
    have hFs8 : FR [37, 38, 39, 17, 32, 34, 33, 35, 36] st s8 := fr_sw hFs7 (List.mem_of_getElem? (i := 1) rfl) es8
    refine lv_aload_n hx hb dX8_act_27 rfl (lv_at hl 0 rfl) ?_
    refine va_get (D := D) (ci := 8) (v := .ref (a 39)) (C := RX8) (T := TX8) (N := 6) hx hb hT in_X8 hown hK hP 17 cw_17 rfl 5 (by decide) (hT _ t319) (fun _ h9 => h9) rfl dX8_act_28 ?_
    refine lv_aload_n hx hb dX8_act_31 rfl (lv_at hl 0 rfl) ?_
    refine va_get (D := D) (ci := 8) (v := .int (s8 17 2)) (C := RX8) (T := TX8) (N := 6) hx hb hT in_X8 hown hK hP 17 cw_17 rfl 2 (by decide) (hT _ t315) (fun _ h9 => h9) rfl dX8_act_32 ?_
    refine k_top (y := (st 17 2)) (Eq.trans (congrFun (sw_at es8 (by decide)) 2) (congrFun (sw_at es7 (by decide)) 2)) ?_
    refine lv_iload_n hx hb dX8_act_35 rfl (lv_at hl 3 rfl) ?_
    refine c_ist hx hb hK hP hD hS cw_39 cs_39 (iv_in (⟨h5.1, h5.2⟩ : Iv 0 39 (st 17 2)) (by decide) (by decide)) dX8_act_36 (fun s9 H9 locs9 es9 hP9 hD9 hS9 => ?_)
    clear hP hD hS
    have hS := hS9
    have hP := hP9
    have hD := hD9
    clear hP9 hD9 hS9
    have hBs9 : CB s9 := by rw [es9]; exact cb_sw hBs8 trivial
    have hFs9 : FR [37, 38, 39, 17, 32, 34, 33, 35, 36] st s9 := fr_sw hFs8 (List.mem_of_getElem? (i := 2) rfl) es9
    refine lv_aload_n hx hb dX8_act_37 rfl (lv_at hl 0 rfl) ?_
    refine lv_dup hx hb dX8_act_38 rfl ?_
    refine va_get (D := D) (ci := 8) (v := .int (s9 17 2)) (C := RX8) (T := TX8) (N := 6) hx hb hT in_X8 hown hK hP 17 cw_17 rfl 2 (by decide) (hT _ t315) (fun _ h9 => h9) rfl dX8_act_39 ?_
    refine k_top (y := (st 17 2)) (Eq.trans (congrFun (sw_at es9 (by decide)) 2) (Eq.trans (congrFun (sw_at es8 (by decide)) 2) (congrFun (sw_at es7 (by decide)) 2))) ?_
    refine lv_iconst (v := 1) hx hb dX8_act_42 (by decide) ?_
    refine lv_iadd hx hb dX8_act_43 ?_
    refine lv_topi (fun z10 ez10 => ?_)
    have h11 : Iv 1 40 z10 := iv_add ez10 (⟨h5.1, h5.2⟩ : Iv 0 39 (st 17 2)) (iv_c (by decide) : Iv 1 1 1) (by decide) (by decide) (by decide) (by decide)
    refine c_put (ci := 8) (C := RX8) (T := TX8) (N := 6) (j := 2) (v := z10) hx hb hT in_X8 tyX8 tyX8_ok nmX8 hown hK hP hD hS cw_17 rfl (by decide) (hT _ t315) (by decide +kernel) (by decide +kernel) rfl rfl (Nat.le_of_ble_eq_true rfl) (cs_17 (upd (s9 17) 2 z10)) dX8_act_44 (fun s12 H9 locs9 es12 hP9 hD9 hS9 => ?_)
    clear hP hD hS
    have hS := hS9
    have hP := hP9
    have hD := hD9
    clear hP9 hD9 hS9
    have hBs12 : CB s12 := by rw [es12]; exact cb_sw hBs9 (ki_7_2 (hBs9 17) (iv_mono (c := 0) (d := 40) h11 (by decide) (by decide)))
    have hFs12 : FR [37, 38, 39, 17, 32, 34, 33, 35, 36] st s12 := fr_sw hFs9 (List.mem_of_getElem? (i := 3) rfl) es12
    refine lv_aload_n hx hb dX8_act_47 rfl (lv_at hl 0 rfl) ?_
    refine lv_iload_n hx hb dX8_act_48 rfl (lv_at hl 1 rfl) ?_
    refine lv_iload_n hx hb dX8_act_49 rfl (lv_at hl 2 rfl) ?_
    refine lv_iload_n hx hb dX8_act_50 rfl (lv_at hl 3 rfl) ?_
    refine ca_v hP hD hS hA (fun hDc => run_V (mc := 0) (ms := 0) (As := [.int p0, .int p1, .int p2]) (rest := []) S (s_X8_perform l D k a s12 sl  p0 p1 p2 _  hBs12  hpa) lkX8_59 ok_X8_perform ⟨rfl, rfl, Nat.le_of_ble_eq_true rfl, Nat.le_of_ble_eq_true rfl⟩ (pw_V (ci := 8) (q0 := 17) hK hN rfl cw_17 hP hDc) rfl hl.1 rfl (Nat.le_of_ble_eq_true rfl) ⟨Nat.zero_le _, Nat.zero_le _⟩ dX8_act_51) (fun s13 H9 locs9 hs13 hP9 hD9 hS9 => ?_)
    clear hP hD hS
    have hS := hS9
    have hP := hP9
    have hD := hD9
    clear hP9 hD9 hS9
    obtain ⟨hBs13, gs13, fs13⟩ := hs13
    have hFs13 : FR [37, 38, 39, 17, 32, 34, 33, 35, 36] st s13 := fr_ca hFs12 gs13 (sub_1 (List.mem_of_getElem? (i := 4) rfl) (sub_1 (List.mem_of_getElem? (i := 5) rfl) (sub_1 (List.mem_of_getElem? (i := 6) rfl) (sub_1 (List.mem_of_getElem? (i := 7) rfl) (sub_1 (List.mem_of_getElem? (i := 8) rfl) sub_0)))))
    rw [hQ]
    exact W.vret hx hb hr (fun t ht hW => ⟨⟨s13, rfl, ⟨hBs13, hFs13, (wi_act hX rfl (⟨h5.1, h5.2⟩ : Iv 0 39 (st 17 2)) (Eq.trans (congrFun (gs13 17 (nm_1 (by decide) (nm_1 (by decide) (nm_1 (by decide) (nm_1 (by decide) (nm_1 (by decide) nm_0)))))) 2) (congrFun (sw_it es12) 2)) (ti_add ez10 (⟨h5.1, h5.2⟩ : Iv 0 39 (st 17 2)) (iv_c (by decide) : Iv 1 1 1) (by decide) (by decide)) (Eq.trans (gs13 37 (nm_1 (by decide) (nm_1 (by decide) (nm_1 (by decide) (nm_1 (by decide) (nm_1 (by decide) nm_0)))))) (Eq.trans (sw_at es12 (by decide)) (Eq.trans (sw_at es9 (by decide)) (Eq.trans (sw_at es8 (by decide)) (sw_it es7))))) (Eq.trans (gs13 38 (nm_1 (by decide) (nm_1 (by decide) (nm_1 (by decide) (nm_1 (by decide) (nm_1 (by decide) nm_0)))))) (Eq.trans (sw_at es12 (by decide)) (Eq.trans (sw_at es9 (by decide)) (Eq.trans (sw_it es8) (congrArg (fun f9 => upd f9 ((st 17 2)).toNatClampNeg p1) (sw_at es7 (by decide))))))) (Eq.trans (gs13 39 (nm_1 (by decide) (nm_1 (by decide) (nm_1 (by decide) (nm_1 (by decide) (nm_1 (by decide) nm_0)))))) (Eq.trans (sw_at es12 (by decide)) (Eq.trans (sw_it es9) (congrArg (fun f9 => upd f9 ((st 17 2)).toNatClampNeg p2) (Eq.trans (sw_at es8 (by decide)) (sw_at es7 (by decide))))))) hpa)⟩, by rw [ht]; exact hP, va_K.moved hW.alike (hK.sub (tys' := []) [] rfl), by rw [hAe]; exact hD⟩, by rw [hAe]; exact hS.F ht⟩) hS.2.2 dX8_act_54
set_option maxHeartbeats 4000000 in
set_option maxRecDepth 100000 in
theorem s_X8_keepActs (l : Launch) (D : va_G) (k : Nat → ClassId) (a : Nat → Nat) (st : CT) (sl : CL) (p0 : Int32) (sz : Nat) (hB : CB st) (hp0 : Iv 0 40 p0) (hX : WI st 17) (hn : p0.toInt ≤ (st 17 2).toInt) : Met l yX8_keepActs (.code yX8_keepActs cX8_keepActs 3 none :: TB) (rmw 6 0 0) (va_Pc [.ref (a 17), .int p0] (PW D k sz (CWS k a st sl))) (QV D (S := CT) (fun u => CB u ∧ FR [17, 32, 33, 34, 35, 36] st u ∧ (WI u 17)) (fun u => CWS k a u sl) (fun _ => []) (CWS k a st sl) sz) 0 0 (va_A (CWS k a st sl) sz) := by
  refine Met.ofW (cc := cX8_keepActs) (maxL := 3) (ret := none) (by decide) rfl ?_
  intro p e s m args below meth c s₁ B hml hv
  obtain ⟨rfl, hsz, hP, hK, hD0, hN⟩ := hv
  have hx := B.exec
  have hb := B.bytes
  have hr := B.returns
  have hT : ∀ w9 ∈ TB, w9.before ([.ref (a 17), .int p0] : List Value).toArray s = true := fun w9 h => atoms_spec (ws := .code yX8_keepActs cX8_keepActs 3 none :: TB) B.pre w9 (List.mem_cons_of_mem _ h)
  have hown : s.vm.findClass RX8 = some m.cls := findClass_of_methodNamed B.named
  have S : CallFix p m c cX8_keepActs 3 s _ TB RX8 := ⟨hx, hb, hml, hown, hT⟩
  subst hsz
  have hD := hD0.self (sz := s.heap.size)
  generalize hAe : va_A (CWS k a st sl) s.heap.size = A at hD ⊢
  have hA : ∀ q : Nat, s.heap.size ≤ q → A q := fun q h => by rw [← hAe]; exact Or.inr h
  have hS : va_S A s.heap s.heap [] := va_S.rf
  have hl := lv_entry ([.ref (a 17), .int p0]) (n := 3) (Nat.le_of_ble_eq_true rfl)
  rw [lg_entry_eq]
  generalize (lg_sl ([.ref (a 17), .int p0]) ++ List.replicate (3 - (lg_sl ([.ref (a 17), .int p0])).length) Slot.unset).toArray = ls at hl ⊢
  have hl : lv_has ls 3 [(0, .ref (a 17)), (1, .int p0)] := hl
  refine nameQ (fun Q hQ => ?_)
  refine lv_aload_n hx hb dX8_keepActs_0 rfl (lv_at hl 0 rfl) ?_
  refine lv_iload_n hx hb dX8_keepActs_1 rfl (lv_at hl 1 rfl) ?_
  refine c_put (ci := 8) (C := RX8) (T := TX8) (N := 6) (j := 2) (v := p0) hx hb hT in_X8 tyX8 tyX8_ok nmX8 hown hK hP hD hS cw_17 rfl (by decide) (hT _ t315) (by decide +kernel) (by decide +kernel) rfl rfl (Nat.le_of_ble_eq_true rfl) (cs_17 (upd (st 17) 2 p0)) dX8_keepActs_2 (fun s1 H9 locs9 es1 hP9 hD9 hS9 => ?_)
  clear hP hD hS
  have hS := hS9
  have hP := hP9
  have hD := hD9
  clear hP9 hD9 hS9
  have hBs1 : CB s1 := by rw [es1]; exact cb_sw hB (ki_7_2 (hB 17) hp0)
  have hFs1 : FR [17, 32, 33, 34, 35, 36] st s1 := fr_sw fr_rf (List.mem_of_getElem? (i := 0) rfl) es1
  refine lv_aload_n hx hb dX8_keepActs_5 rfl (lv_at hl 0 rfl) ?_
  refine va_get (D := D) (ci := 8) (v := .ref (a 31)) (C := RX8) (T := TX8) (N := 6) hx hb hT in_X8 hown hK hP 17 cw_17 rfl 1 (by decide) (hT _ t313) (fun _ h9 => h9) rfl dX8_keepActs_6 ?_
  refine lv_aload_n hx hb dX8_keepActs_9 rfl (lv_at hl 0 rfl) ?_
  refine va_get (D := D) (ci := 8) (v := .ref (a 18)) (C := RX8) (T := TX8) (N := 6) hx hb hT in_X8 hown hK hP 17 cw_17 rfl 0 (by decide) (hT _ t311) (fun _ h9 => h9) rfl dX8_keepActs_10 ?_
  refine va_get (D := D) (ci := 1) (v := .ref (a 25)) (C := RX1) (T := TX1) (N := 14) hx hb hT in_X1 hown hK hP 18 cw_18 rfl 13 (by decide) (hT _ t240) (fun _ h9 => h9) rfl dX8_keepActs_13 ?_
  refine ca_v hP hD hS hA (fun hDc => run_V (mc := 0) (ms := 0) (As := [.ref (a 25)]) (rest := []) S (s_X5_copy l D k a s1 sl 31 25  _ (by decide) (by decide) hBs1  ) lkX8_42 ok_X5_copy ⟨rfl, rfl, Nat.le_of_ble_eq_true rfl, Nat.le_of_ble_eq_true rfl⟩ (pw_V (ci := 5) (q0 := 31) hK hN rfl cw_31 hP hDc) rfl hl.1 rfl (Nat.le_of_ble_eq_true rfl) ⟨Nat.zero_le _, Nat.zero_le _⟩ dX8_keepActs_16) (fun s2 H9 locs9 hs2 hP9 hD9 hS9 => ?_)
  clear hP hD hS
  have hS := hS9
  have hP := hP9
  have hD := hD9
  clear hP9 hD9 hS9
  obtain ⟨hBs2, gs2, fs2⟩ := hs2
  have hFs2 : FR [17, 32, 33, 34, 35, 36] st s2 := fr_ca hFs1 gs2 (sub_1 (List.mem_of_getElem? (i := 1) rfl) (sub_1 (List.mem_of_getElem? (i := 2) rfl) (sub_1 (List.mem_of_getElem? (i := 3) rfl) (sub_1 (List.mem_of_getElem? (i := 4) rfl) (sub_1 (List.mem_of_getElem? (i := 5) rfl) sub_0)))))
  refine lv_iconst (v := 0) hx hb dX8_keepActs_19 (by decide) ?_
  refine lv_istore_n (lv' := [(2, .int 0), (0, .ref (a 17)), (1, .int p0)]) hx hb dX8_keepActs_20 rfl hl (by decide) rfl (fun ls hl => ?_)
  have lp21 : ∀ (n9_21 : Nat) (v2_21 : Int32) (t21 : CT) (H9 : Heap) (locs9 : List Loc) (ls : Array Slot), Iv 0 40 v2_21 → CB t21 → FR [32, 34, 33, 35, 36] s2 t21 → va_P D vwCl (CWS k a t21 sl) H9 → va_D A (CWS k a t21 sl) → va_S A s.heap H9 locs9 → lv_has ls 3 [(2, .int v2_21), (0, .ref (a 17)), (1, .int p0)] → (40 : Int) - v2_21.toInt < (n9_21 : Int) → W p l e (rmw 6 0 0) s m ([.ref (a 17), .int p0] : List Value).toArray below meth c H9 locs9 0 0 Q (F0 m 21 ls []) := by
    clear hl hP hD hS
    intro n9_21
    induction n9_21 with
    | zero =>
      intro v2_21 t21 H9 locs9 ls iv2_21 hBt21 gt21 hP hD hS hl hm21
      exact (fu_0 iv2_21 hm21).elim
    | succ n9_21 ih21 =>
      intro v2_21 t21 H9 locs9 ls iv2_21 hBt21 gt21 hP hD hS hl hm21
      have hFt21 : FR [17, 32, 33, 34, 35, 36] st t21 := fr_ca hFs2 gt21 (sub_1 (List.mem_of_getElem? (i := 1) rfl) (sub_1 (List.mem_of_getElem? (i := 3) rfl) (sub_1 (List.mem_of_getElem? (i := 2) rfl) (sub_1 (List.mem_of_getElem? (i := 4) rfl) (sub_1 (List.mem_of_getElem? (i := 5) rfl) sub_0)))))
      refine lv_iload_n hx hb dX8_keepActs_21 rfl (lv_at hl 0 rfl) ?_
      refine lv_iload_n hx hb dX8_keepActs_22 rfl (lv_at hl 2 rfl) ?_
      refine lv_icmp_ge (tgt := 60) hx hb dX8_keepActs_23 (by decide) (fun c259 => ?_) (fun c259 => ?_)
      · skip
        have n260 : p0.toInt ≤ v2_21.toInt := (i_le c259)
        rw [hQ]
        exact W.vret hx hb hr (fun t ht hW => ⟨⟨t21, rfl, ⟨hBt21, hFt21, (wi_keep hX hn (Eq.trans (congrFun (gt21 17 (nm_1 (by decide) (nm_1 (by decide) (nm_1 (by decide) (nm_1 (by decide) (nm_1 (by decide) nm_0)))))) 2) (Eq.trans (congrFun (gs2 17 (nm_1 (by decide) (nm_1 (by decide) (nm_1 (by decide) (nm_1 (by decide) (nm_1 (by decide) nm_0)))))) 2) (congrFun (sw_it es1) 2))) (hFt21 37 (nm_1 (by decide) (nm_1 (by decide) (nm_1 (by decide) (nm_1 (by decide) (nm_1 (by decide) (nm_1 (by decide) nm_0))))))) (hFt21 38 (nm_1 (by decide) (nm_1 (by decide) (nm_1 (by decide) (nm_1 (by decide) (nm_1 (by decide) (nm_1 (by decide) nm_0))))))) (hFt21 39 (nm_1 (by decide) (nm_1 (by decide) (nm_1 (by decide) (nm_1 (by decide) (nm_1 (by decide) (nm_1 (by decide) nm_0))))))))⟩, by rw [ht]; exact hP, va_K.moved hW.alike (hK.sub (tys' := []) [] rfl), by rw [hAe]; exact hD⟩, by rw [hAe]; exact hS.F ht⟩) hS.2.2 dX8_keepActs_60
      · skip
        have n261 : v2_21.toInt < p0.toInt := (i_nle c259)
        have h262 : Iv 0 39 v2_21 := lt_l iv2_21 n261 hp0 (by decide)
        have h263 : Iv 1 40 p0 := lt_r iv2_21 n261 hp0 (by decide)
        refine lv_iload_n hx hb dX8_keepActs_26 rfl (lv_at hl 0 rfl) ?_
        refine lv_bipush (v := 40) hx hb dX8_keepActs_27 (by decide) ?_
        refine lv_icmp_ge (tgt := 60) hx hb dX8_keepActs_29 (by decide) (fun c264 => ?_) (fun c264 => ?_)
        · skip
          have n265 : (40 : Int32).toInt ≤ v2_21.toInt := (i_le c264)
          exact (iv_no (le_l (u := 39) (iv_c (by decide) : Iv 40 40 40) n265 h262 (by decide)) (by decide)).elim
        · skip
          have n266 : v2_21.toInt < (40 : Int32).toInt := (i_nle c264)
          refine lv_aload_n hx hb dX8_keepActs_32 rfl (lv_at hl 1 rfl) ?_
          refine lv_aload_n hx hb dX8_keepActs_33 rfl (lv_at hl 1 rfl) ?_
          refine va_get (D := D) (ci := 8) (v := .ref (a 37)) (C := RX8) (T := TX8) (N := 6) hx hb hT in_X8 hown hK hP 17 cw_17 rfl 3 (by decide) (hT _ t317) (fun _ h9 => h9) rfl dX8_keepActs_34 ?_
          refine lv_iload_n hx hb dX8_keepActs_37 rfl (lv_at hl 0 rfl) ?_
          refine va_iald hx hb hK hP 37 0 cw_37 rfl (iv_in h262 (by decide) (by decide)) dX8_keepActs_38 ?_
          refine lv_topi (fun z267 ez267 => ?_)
          refine lv_aload_n hx hb dX8_keepActs_39 rfl (lv_at hl 1 rfl) ?_
          refine va_get (D := D) (ci := 8) (v := .ref (a 38)) (C := RX8) (T := TX8) (N := 6) hx hb hT in_X8 hown hK hP 17 cw_17 rfl 4 (by decide) (hT _ t318) (fun _ h9 => h9) rfl dX8_keepActs_40 ?_
          refine lv_iload_n hx hb dX8_keepActs_43 rfl (lv_at hl 0 rfl) ?_
          refine va_iald hx hb hK hP 38 0 cw_38 rfl (iv_in h262 (by decide) (by decide)) dX8_keepActs_44 ?_
          refine lv_topi (fun z268 ez268 => ?_)
          refine lv_aload_n hx hb dX8_keepActs_45 rfl (lv_at hl 1 rfl) ?_
          refine va_get (D := D) (ci := 8) (v := .ref (a 39)) (C := RX8) (T := TX8) (N := 6) hx hb hT in_X8 hown hK hP 17 cw_17 rfl 5 (by decide) (hT _ t319) (fun _ h9 => h9) rfl dX8_keepActs_46 ?_
          refine lv_iload_n hx hb dX8_keepActs_49 rfl (lv_at hl 0 rfl) ?_
          refine va_iald hx hb hK hP 39 0 cw_39 rfl (iv_in h262 (by decide) (by decide)) dX8_keepActs_50 ?_
          refine lv_topi (fun z269 ez269 => ?_)
          refine ca_v hP hD hS hA (fun hDc => run_V (mc := 0) (ms := 0) (As := [.int z267, .int z268, .int z269]) (rest := []) S (s_X8_perform l D k a t21 sl  z267 z268 z269 _  hBt21  (pa_of hX h262 n261 hn ez267 ez268 ez269 (hFt21 37 (nm_1 (by decide) (nm_1 (by decide) (nm_1 (by decide) (nm_1 (by decide) (nm_1 (by decide) (nm_1 (by decide) nm_0))))))) (hFt21 38 (nm_1 (by decide) (nm_1 (by decide) (nm_1 (by decide) (nm_1 (by decide) (nm_1 (by decide) (nm_1 (by decide) nm_0))))))) (hFt21 39 (nm_1 (by decide) (nm_1 (by decide) (nm_1 (by decide) (nm_1 (by decide) (nm_1 (by decide) (nm_1 (by decide) nm_0))))))))) lkX8_59 ok_X8_perform ⟨rfl, rfl, Nat.le_of_ble_eq_true rfl, Nat.le_of_ble_eq_true rfl⟩ (pw_V (ci := 8) (q0 := 17) hK hN rfl cw_17 hP hDc) rfl hl.1 rfl (Nat.le_of_ble_eq_true rfl) ⟨Nat.zero_le _, Nat.zero_le _⟩ dX8_keepActs_51) (fun s270 H9 locs9 hs270 hP9 hD9 hS9 => ?_)
          clear hP hD hS
          have hS := hS9
          have hP := hP9
          have hD := hD9
          clear hP9 hD9 hS9
          obtain ⟨hBs270, gs270, fs270⟩ := hs270
          have hFs270 : FR [17, 32, 33, 34, 35, 36] st s270 := fr_ca hFt21 gs270 (sub_1 (List.mem_of_getElem? (i := 1) rfl) (sub_1 (List.mem_of_getElem? (i := 3) rfl) (sub_1 (List.mem_of_getElem? (i := 2) rfl) (sub_1 (List.mem_of_getElem? (i := 4) rfl) (sub_1 (List.mem_of_getElem? (i := 5) rfl) sub_0)))))
          obtain ⟨z272, ez272⟩ : ∃ z9 : Int32, z9 = v2_21 + Int32.ofInt 1 := ⟨_, rfl⟩
          have h273 : Iv 1 40 z272 := iv_inc ez272 h262 (by decide) (by decide) (by decide) (by decide) (by decide) (by decide)
          refine lv_iinc (v := z272) (lv' := [(2, .int z272), (0, .ref (a 17)), (1, .int p0)]) hx hb dX8_keepActs_54 hl (k := 0) rfl ez272.symm (by decide) rfl (fun ls hl => ?_)
          refine lv_goto (tgt := 21) hx hb dX8_keepActs_57 (by decide) ?_
          exact ih21 z272 s270 _ _ _ (iv_mono (c := 0) (d := 40) h273 (by decide) (by decide)) hBs270 (fr_ca gt21 gs270 (sub_1 (List.mem_of_getElem? (i := 0) rfl) (sub_1 (List.mem_of_getElem? (i := 1) rfl) (sub_1 (List.mem_of_getElem? (i := 2) rfl) (sub_1 (List.mem_of_getElem? (i := 3) rfl) (sub_1 (List.mem_of_getElem? (i := 4) rfl) sub_0)))))) hP hD hS (lv_sub hl [0, 1, 2] rfl) (fu_s (lo := 0) (ti_inc ez272 h262 (by decide) (by decide) (by decide) (by decide)) (by decide) hm21)
  exact lp21 41 0 s2 _ _ _ (iv_mono (c := 0) (d := 40) (iv_c (by decide) : Iv 0 0 0) (by decide) (by decide)) hBs2 fr_rf hP hD hS (lv_sub hl [0, 1, 2] rfl) (fu_i (iv_mono (c := 0) (d := 40) (iv_c (by decide) : Iv 0 0 0) (by decide) (by decide)) (by decide))
set_option maxHeartbeats 4000000 in
set_option maxRecDepth 100000 in
theorem s_X8_begin (l : Launch) (D : va_G) (k : Nat → ClassId) (a : Nat → Nat) (st : CT) (sl : CL) (sz : Nat) (hB : CB st)  : Met l yX8_begin (.code yX8_begin cX8_begin 2 none :: TB) (rmw 3 0 0) (va_Pc [.ref (a 17), .ref (a 4)] (PW D k sz (CWS k a st sl))) (QV D (S := CT) (fun u => CB u ∧ FR [18, 19, 20, 21, 22, 23, 24, 26, 27, 28, 29, 30, 32, 33, 34, 35, 36, 17] st u ∧ (WI u 17)) (fun u => CWS k a u sl) (fun _ => []) (CWS k a st sl) sz) 0 0 (va_A (CWS k a st sl) sz) := by
  refine Met.ofW (cc := cX8_begin) (maxL := 2) (ret := none) (by decide) rfl ?_
  intro p e s m args below meth c s₁ B hml hv
  obtain ⟨rfl, hsz, hP, hK, hD0, hN⟩ := hv
  have hx := B.exec
  have hb := B.bytes
  have hr := B.returns
  have hT : ∀ w9 ∈ TB, w9.before ([.ref (a 17), .ref (a 4)] : List Value).toArray s = true := fun w9 h => atoms_spec (ws := .code yX8_begin cX8_begin 2 none :: TB) B.pre w9 (List.mem_cons_of_mem _ h)
  have hown : s.vm.findClass RX8 = some m.cls := findClass_of_methodNamed B.named
  have S : CallFix p m c cX8_begin 2 s _ TB RX8 := ⟨hx, hb, hml, hown, hT⟩
  subst hsz
  have hD := hD0.self (sz := s.heap.size)
  generalize hAe : va_A (CWS k a st sl) s.heap.size = A at hD ⊢
  have hA : ∀ q : Nat, s.heap.size ≤ q → A q := fun q h => by rw [← hAe]; exact Or.inr h
  have hS : va_S A s.heap s.heap [] := va_S.rf
  have hl := lv_entry ([.ref (a 17), .ref (a 4)]) (n := 2) (Nat.le_of_ble_eq_true rfl)
  rw [lg_entry_eq]
  generalize (lg_sl ([.ref (a 17), .ref (a 4)]) ++ List.replicate (2 - (lg_sl ([.ref (a 17), .ref (a 4)])).length) Slot.unset).toArray = ls at hl ⊢
  have hl : lv_has ls 2 [(0, .ref (a 17)), (1, .ref (a 4))] := hl
  refine nameQ (fun Q hQ => ?_)
  refine lv_aload_n hx hb dX8_begin_0 rfl (lv_at hl 0 rfl) ?_
  refine va_get (D := D) (ci := 8) (v := .ref (a 18)) (C := RX8) (T := TX8) (N := 6) hx hb hT in_X8 hown hK hP 17 cw_17 rfl 0 (by decide) (hT _ t311) (fun _ h9 => h9) rfl dX8_begin_1 ?_
  refine lv_aload_n hx hb dX8_begin_4 rfl (lv_at hl 1 rfl) ?_
  refine ca_v hP hD hS hA (fun hDc => run_V (mc := 0) (ms := 0) (As := [.ref (a 4)]) (rest := []) S (s_X1_copy_0 l D k a st sl   _  hB  ) lkX8_35 ok_X1_copy ⟨rfl, rfl, Nat.le_of_ble_eq_true rfl, Nat.le_of_ble_eq_true rfl⟩ (pw_V (ci := 1) (q0 := 18) hK hN rfl cw_18 hP hDc) rfl hl.1 rfl (Nat.le_of_ble_eq_true rfl) ⟨Nat.zero_le _, Nat.zero_le _⟩ dX8_begin_5) (fun s1 H9 locs9 hs1 hP9 hD9 hS9 => ?_)
  clear hP hD hS
  have hS := hS9
  have hP := hP9
  have hD := hD9
  clear hP9 hD9 hS9
  obtain ⟨hBs1, gs1, fs1⟩ := hs1
  have hFs1 : FR [18, 19, 20, 21, 22, 23, 24, 26, 27, 28, 29, 30, 32, 33, 34, 35, 36, 17] st s1 := fr_ca fr_rf gs1 (sub_1 (List.mem_of_getElem? (i := 0) rfl) (sub_1 (List.mem_of_getElem? (i := 1) rfl) (sub_1 (List.mem_of_getElem? (i := 2) rfl) (sub_1 (List.mem_of_getElem? (i := 3) rfl) (sub_1 (List.mem_of_getElem? (i := 4) rfl) (sub_1 (List.mem_of_getElem? (i := 5) rfl) (sub_1 (List.mem_of_getElem? (i := 6) rfl) (sub_1 (List.mem_of_getElem? (i := 7) rfl) (sub_1 (List.mem_of_getElem? (i := 8) rfl) (sub_1 (List.mem_of_getElem? (i := 9) rfl) (sub_1 (List.mem_of_getElem? (i := 10) rfl) (sub_1 (List.mem_of_getElem? (i := 11) rfl) sub_0))))))))))))
  refine lv_aload_n hx hb dX8_begin_8 rfl (lv_at hl 0 rfl) ?_
  refine va_get (D := D) (ci := 8) (v := .ref (a 31)) (C := RX8) (T := TX8) (N := 6) hx hb hT in_X8 hown hK hP 17 cw_17 rfl 1 (by decide) (hT _ t313) (fun _ h9 => h9) rfl dX8_begin_9 ?_
  refine lv_aload_n hx hb dX8_begin_12 rfl (lv_at hl 1 rfl) ?_
  refine va_get (D := D) (ci := 1) (v := .ref (a 11)) (C := RX1) (T := TX1) (N := 14) hx hb hT in_X1 hown hK hP 4 cw_4 rfl 13 (by decide) (hT _ t240) (fun _ h9 => h9) rfl dX8_begin_13 ?_
  refine ca_v hP hD hS hA (fun hDc => run_V (mc := 0) (ms := 0) (As := [.ref (a 11)]) (rest := []) S (s_X5_copy l D k a s1 sl 31 11  _ (by decide) (by decide) hBs1  ) lkX8_42 ok_X5_copy ⟨rfl, rfl, Nat.le_of_ble_eq_true rfl, Nat.le_of_ble_eq_true rfl⟩ (pw_V (ci := 5) (q0 := 31) hK hN rfl cw_31 hP hDc) rfl hl.1 rfl (Nat.le_of_ble_eq_true rfl) ⟨Nat.zero_le _, Nat.zero_le _⟩ dX8_begin_16) (fun s3 H9 locs9 hs3 hP9 hD9 hS9 => ?_)
  clear hP hD hS
  have hS := hS9
  have hP := hP9
  have hD := hD9
  clear hP9 hD9 hS9
  obtain ⟨hBs3, gs3, fs3⟩ := hs3
  have hFs3 : FR [18, 19, 20, 21, 22, 23, 24, 26, 27, 28, 29, 30, 32, 33, 34, 35, 36, 17] st s3 := fr_ca hFs1 gs3 (sub_1 (List.mem_of_getElem? (i := 12) rfl) (sub_1 (List.mem_of_getElem? (i := 13) rfl) (sub_1 (List.mem_of_getElem? (i := 14) rfl) (sub_1 (List.mem_of_getElem? (i := 15) rfl) (sub_1 (List.mem_of_getElem? (i := 16) rfl) sub_0)))))
  refine lv_aload_n hx hb dX8_begin_19 rfl (lv_at hl 0 rfl) ?_
  refine lv_iconst (v := 0) hx hb dX8_begin_20 (by decide) ?_
  refine c_put (ci := 8) (C := RX8) (T := TX8) (N := 6) (j := 2) (v := 0) hx hb hT in_X8 tyX8 tyX8_ok nmX8 hown hK hP hD hS cw_17 rfl (by decide) (hT _ t315) (by decide +kernel) (by decide +kernel) rfl rfl (Nat.le_of_ble_eq_true rfl) (cs_17 (upd (s3 17) 2 0)) dX8_begin_21 (fun s5 H9 locs9 es5 hP9 hD9 hS9 => ?_)
  clear hP hD hS
  have hS := hS9
  have hP := hP9
  have hD := hD9
  clear hP9 hD9 hS9
  have hBs5 : CB s5 := by rw [es5]; exact cb_sw hBs3 (ki_7_2 (hBs3 17) (iv_mono (c := 0) (d := 40) (iv_c (by decide) : Iv 0 0 0) (by decide) (by decide)))
  have hFs5 : FR [18, 19, 20, 21, 22, 23, 24, 26, 27, 28, 29, 30, 32, 33, 34, 35, 36, 17] st s5 := fr_sw hFs3 (List.mem_of_getElem? (i := 17) rfl) es5
  rw [hQ]
  exact W.vret hx hb hr (fun t ht hW => ⟨⟨s5, rfl, ⟨hBs5, hFs5, (wi_zero (congrFun (sw_it es5) 2))⟩, by rw [ht]; exact hP, va_K.moved hW.alike (hK.sub (tys' := []) [] rfl), by rw [hAe]; exact hD⟩, by rw [hAe]; exact hS.F ht⟩) hS.2.2 dX8_begin_24
set_option maxHeartbeats 4000000 in
set_option maxRecDepth 100000 in
theorem s_X8_copy_41_17 (l : Launch) (D : va_G) (k : Nat → ClassId) (a : Nat → Nat) (st : CT) (sl : CL) (sz : Nat) (hB : CB st)  (hX : WI st 17) : Met l yX8_copy (.code yX8_copy cX8_copy 2 none :: TB) (rmw 3 0 0) (va_Pc [.ref (a 41), .ref (a 17)] (PW D k sz (CWS k a st sl))) (QV D (S := CT) (fun u => CB u ∧ FR [42, 43, 44, 45, 46, 47, 48, 50, 51, 52, 53, 54, 56, 57, 58, 59, 60, 41, 61, 62, 63] st u ∧ (WI u 41)) (fun u => CWS k a u sl) (fun _ => []) (CWS k a st sl) sz) 0 0 (va_A (CWS k a st sl) sz) := by
  refine Met.ofW (cc := cX8_copy) (maxL := 2) (ret := none) (by decide) rfl ?_
  intro p e s m args below meth c s₁ B hml hv
  obtain ⟨rfl, hsz, hP, hK, hD0, hN⟩ := hv
  have hx := B.exec
  have hb := B.bytes
  have hr := B.returns
  have hT : ∀ w9 ∈ TB, w9.before ([.ref (a 41), .ref (a 17)] : List Value).toArray s = true := fun w9 h => atoms_spec (ws := .code yX8_copy cX8_copy 2 none :: TB) B.pre w9 (List.mem_cons_of_mem _ h)
  have hown : s.vm.findClass RX8 = some m.cls := findClass_of_methodNamed B.named
  have S : CallFix p m c cX8_copy 2 s _ TB RX8 := ⟨hx, hb, hml, hown, hT⟩
  subst hsz
  have hD := hD0.self (sz := s.heap.size)
  generalize hAe : va_A (CWS k a st sl) s.heap.size = A at hD ⊢
  have hA : ∀ q : Nat, s.heap.size ≤ q → A q := fun q h => by rw [← hAe]; exact Or.inr h
  have hS : va_S A s.heap s.heap [] := va_S.rf
  have hl := lv_entry ([.ref (a 41), .ref (a 17)]) (n := 2) (Nat.le_of_ble_eq_true rfl)
  rw [lg_entry_eq]
  generalize (lg_sl ([.ref (a 41), .ref (a 17)]) ++ List.replicate (2 - (lg_sl ([.ref (a 41), .ref (a 17)])).length) Slot.unset).toArray = ls at hl ⊢
  have hl : lv_has ls 2 [(0, .ref (a 41)), (1, .ref (a 17))] := hl
  refine nameQ (fun Q hQ => ?_)
  refine lv_aload_n hx hb dX8_copy_0 rfl (lv_at hl 0 rfl) ?_
  refine va_get (D := D) (ci := 8) (v := .ref (a 42)) (C := RX8) (T := TX8) (N := 6) hx hb hT in_X8 hown hK hP 41 cw_41 rfl 0 (by decide) (hT _ t311) (fun _ h9 => h9) rfl dX8_copy_1 ?_
  refine lv_aload_n hx hb dX8_copy_4 rfl (lv_at hl 1 rfl) ?_
  refine va_get (D := D) (ci := 8) (v := .ref (a 18)) (C := RX8) (T := TX8) (N := 6) hx hb hT in_X8 hown hK hP 17 cw_17 rfl 0 (by decide) (hT _ t311) (fun _ h9 => h9) rfl dX8_copy_5 ?_
  refine ca_v hP hD hS hA (fun hDc => run_V (mc := 0) (ms := 0) (As := [.ref (a 18)]) (rest := []) S (s_X1_copy_1 l D k a st sl   _  hB  ) lkX8_35 ok_X1_copy ⟨rfl, rfl, Nat.le_of_ble_eq_true rfl, Nat.le_of_ble_eq_true rfl⟩ (pw_V (ci := 1) (q0 := 42) hK hN rfl cw_42 hP hDc) rfl hl.1 rfl (Nat.le_of_ble_eq_true rfl) ⟨Nat.zero_le _, Nat.zero_le _⟩ dX8_copy_8) (fun s1 H9 locs9 hs1 hP9 hD9 hS9 => ?_)
  clear hP hD hS
  have hS := hS9
  have hP := hP9
  have hD := hD9
  clear hP9 hD9 hS9
  obtain ⟨hBs1, gs1, fs1⟩ := hs1
  have hFs1 : FR [42, 43, 44, 45, 46, 47, 48, 50, 51, 52, 53, 54, 56, 57, 58, 59, 60, 41, 61, 62, 63] st s1 := fr_ca fr_rf gs1 (sub_1 (List.mem_of_getElem? (i := 0) rfl) (sub_1 (List.mem_of_getElem? (i := 1) rfl) (sub_1 (List.mem_of_getElem? (i := 2) rfl) (sub_1 (List.mem_of_getElem? (i := 3) rfl) (sub_1 (List.mem_of_getElem? (i := 4) rfl) (sub_1 (List.mem_of_getElem? (i := 5) rfl) (sub_1 (List.mem_of_getElem? (i := 6) rfl) (sub_1 (List.mem_of_getElem? (i := 7) rfl) (sub_1 (List.mem_of_getElem? (i := 8) rfl) (sub_1 (List.mem_of_getElem? (i := 9) rfl) (sub_1 (List.mem_of_getElem? (i := 10) rfl) (sub_1 (List.mem_of_getElem? (i := 11) rfl) sub_0))))))))))))
  refine lv_aload_n hx hb dX8_copy_11 rfl (lv_at hl 0 rfl) ?_
  refine va_get (D := D) (ci := 8) (v := .ref (a 55)) (C := RX8) (T := TX8) (N := 6) hx hb hT in_X8 hown hK hP 41 cw_41 rfl 1 (by decide) (hT _ t313) (fun _ h9 => h9) rfl dX8_copy_12 ?_
  refine lv_aload_n hx hb dX8_copy_15 rfl (lv_at hl 1 rfl) ?_
  refine va_get (D := D) (ci := 8) (v := .ref (a 31)) (C := RX8) (T := TX8) (N := 6) hx hb hT in_X8 hown hK hP 17 cw_17 rfl 1 (by decide) (hT _ t313) (fun _ h9 => h9) rfl dX8_copy_16 ?_
  refine ca_v hP hD hS hA (fun hDc => run_V (mc := 0) (ms := 0) (As := [.ref (a 31)]) (rest := []) S (s_X5_copy l D k a s1 sl 55 31  _ (by decide) (by decide) hBs1  ) lkX8_42 ok_X5_copy ⟨rfl, rfl, Nat.le_of_ble_eq_true rfl, Nat.le_of_ble_eq_true rfl⟩ (pw_V (ci := 5) (q0 := 55) hK hN rfl cw_55 hP hDc) rfl hl.1 rfl (Nat.le_of_ble_eq_true rfl) ⟨Nat.zero_le _, Nat.zero_le _⟩ dX8_copy_19) (fun s3 H9 locs9 hs3 hP9 hD9 hS9 => ?_)
  clear hP hD hS
  have hS := hS9
  have hP := hP9
  have hD := hD9
  clear hP9 hD9 hS9
  obtain ⟨hBs3, gs3, fs3⟩ := hs3
  have hFs3 : FR [42, 43, 44, 45, 46, 47, 48, 50, 51, 52, 53, 54, 56, 57, 58, 59, 60, 41, 61, 62, 63] st s3 := fr_ca hFs1 gs3 (sub_1 (List.mem_of_getElem? (i := 12) rfl) (sub_1 (List.mem_of_getElem? (i := 13) rfl) (sub_1 (List.mem_of_getElem? (i := 14) rfl) (sub_1 (List.mem_of_getElem? (i := 15) rfl) (sub_1 (List.mem_of_getElem? (i := 16) rfl) sub_0)))))
  refine lv_aload_n hx hb dX8_copy_22 rfl (lv_at hl 0 rfl) ?_
  refine lv_aload_n hx hb dX8_copy_23 rfl (lv_at hl 1 rfl) ?_
  refine va_get (D := D) (ci := 8) (v := .int (s3 17 2)) (C := RX8) (T := TX8) (N := 6) hx hb hT in_X8 hown hK hP 17 cw_17 rfl 2 (by decide) (hT _ t315) (fun _ h9 => h9) rfl dX8_copy_24 ?_
  refine k_top (y := (st 17 2)) (congrFun (hFs3 17 (nm_1 (by decide) (nm_1 (by decide) (nm_1 (by decide) (nm_1 (by decide) (nm_1 (by decide) (nm_1 (by decide) (nm_1 (by decide) (nm_1 (by decide) (nm_1 (by decide) (nm_1 (by decide) (nm_1 (by decide) (nm_1 (by decide) (nm_1 (by decide) (nm_1 (by decide) (nm_1 (by decide) (nm_1 (by decide) (nm_1 (by decide) (nm_1 (by decide) (nm_1 (by decide) (nm_1 (by decide) (nm_1 (by decide) nm_0)))))))))))))))))))))) 2) ?_
  have h5 : Iv 0 40 (st 17 2) := (rb_17_2 hB)
  refine c_put (ci := 8) (C := RX8) (T := TX8) (N := 6) (j := 2) (v := (st 17 2)) hx hb hT in_X8 tyX8 tyX8_ok nmX8 hown hK hP hD hS cw_41 rfl (by decide) (hT _ t315) (by decide +kernel) (by decide +kernel) rfl rfl (Nat.le_of_ble_eq_true rfl) (cs_41 (upd (s3 41) 2 (st 17 2))) dX8_copy_27 (fun s6 H9 locs9 es6 hP9 hD9 hS9 => ?_)
  clear hP hD hS
  have hS := hS9
  have hP := hP9
  have hD := hD9
  clear hP9 hD9 hS9
  have hBs6 : CB s6 := by rw [es6]; exact cb_sw hBs3 (ki_7_2 (hBs3 41) h5)
  have hFs6 : FR [42, 43, 44, 45, 46, 47, 48, 50, 51, 52, 53, 54, 56, 57, 58, 59, 60, 41, 61, 62, 63] st s6 := fr_sw hFs3 (List.mem_of_getElem? (i := 17) rfl) es6
  refine lv_aload_n hx hb dX8_copy_30 rfl (lv_at hl 1 rfl) ?_
  refine va_get (D := D) (ci := 8) (v := .ref (a 37)) (C := RX8) (T := TX8) (N := 6) hx hb hT in_X8 hown hK hP 17 cw_17 rfl 3 (by decide) (hT _ t317) (fun _ h9 => h9) rfl dX8_copy_31 ?_
  refine lv_iconst (v := 0) hx hb dX8_copy_34 (by decide) ?_
  refine lv_aload_n hx hb dX8_copy_35 rfl (lv_at hl 0 rfl) ?_
  refine va_get (D := D) (ci := 8) (v := .ref (a 61)) (C := RX8) (T := TX8) (N := 6) hx hb hT in_X8 hown hK hP 41 cw_41 rfl 3 (by decide) (hT _ t317) (fun _ h9 => h9) rfl dX8_copy_36 ?_
  refine lv_iconst (v := 0) hx hb dX8_copy_39 (by decide) ?_
  refine lv_bipush (v := 40) hx hb dX8_copy_40 (by decide) ?_
  refine c_cpy hx hb (hml.trans hl.1.symm) hown (hT _ t1218) (hT _ t686) (hT _ t685) (hT _ t121) hK hP hD hS cw_37 cw_61 cs_61 (Nat.le_of_ble_eq_true rfl) (Nat.le_of_ble_eq_true rfl) (by decide) (by decide) (by decide) dX8_copy_42 (fun s7 H9 locs9 fs7 es7 gs7 hP9 hD9 hS9 => ?_)
  clear hP hD hS
  have hS := hS9
  have hP := hP9
  have hD := hD9
  clear hP9 hD9 hS9
  have hBs7 : CB s7 := by rw [es7]; exact cb_sw hBs6 trivial
  have hFs7 : FR [42, 43, 44, 45, 46, 47, 48, 50, 51, 52, 53, 54, 56, 57, 58, 59, 60, 41, 61, 62, 63] st s7 := fr_sw hFs6 (List.mem_of_getElem? (i := 18) rfl) es7
  refine lv_aload_n hx hb dX8_copy_45 rfl (lv_at hl 1 rfl) ?_
  refine va_get (D := D) (ci := 8) (v := .ref (a 38)) (C := RX8) (T := TX8) (N := 6) hx hb hT in_X8 hown hK hP 17 cw_17 rfl 4 (by decide) (hT _ t318) (fun _ h9 => h9) rfl dX8_copy_46 ?_
  refine lv_iconst (v := 0) hx hb dX8_copy_49 (by decide) ?_
  refine lv_aload_n hx hb dX8_copy_50 rfl (lv_at hl 0 rfl) ?_
  refine va_get (D := D) (ci := 8) (v := .ref (a 62)) (C := RX8) (T := TX8) (N := 6) hx hb hT in_X8 hown hK hP 41 cw_41 rfl 4 (by decide) (hT _ t318) (fun _ h9 => h9) rfl dX8_copy_51 ?_
  refine lv_iconst (v := 0) hx hb dX8_copy_54 (by decide) ?_
  refine lv_bipush (v := 40) hx hb dX8_copy_55 (by decide) ?_
  refine c_cpy hx hb (hml.trans hl.1.symm) hown (hT _ t1218) (hT _ t686) (hT _ t685) (hT _ t121) hK hP hD hS cw_38 cw_62 cs_62 (Nat.le_of_ble_eq_true rfl) (Nat.le_of_ble_eq_true rfl) (by decide) (by decide) (by decide) dX8_copy_57 (fun s8 H9 locs9 fs8 es8 gs8 hP9 hD9 hS9 => ?_)
  clear hP hD hS
  have hS := hS9
  have hP := hP9
  have hD := hD9
  clear hP9 hD9 hS9
  have hBs8 : CB s8 := by rw [es8]; exact cb_sw hBs7 trivial
  have hFs8 : FR [42, 43, 44, 45, 46, 47, 48, 50, 51, 52, 53, 54, 56, 57, 58, 59, 60, 41, 61, 62, 63] st s8 := fr_sw hFs7 (List.mem_of_getElem? (i := 19) rfl) es8
  refine lv_aload_n hx hb dX8_copy_60 rfl (lv_at hl 1 rfl) ?_
  refine va_get (D := D) (ci := 8) (v := .ref (a 39)) (C := RX8) (T := TX8) (N := 6) hx hb hT in_X8 hown hK hP 17 cw_17 rfl 5 (by decide) (hT _ t319) (fun _ h9 => h9) rfl dX8_copy_61 ?_
  refine lv_iconst (v := 0) hx hb dX8_copy_64 (by decide) ?_
  refine lv_aload_n hx hb dX8_copy_65 rfl (lv_at hl 0 rfl) ?_
  refine va_get (D := D) (ci := 8) (v := .ref (a 63)) (C := RX8) (T := TX8) (N := 6) hx hb hT in_X8 hown hK hP 41 cw_41 rfl 5 (by decide) (hT _ t319) (fun _ h9 => h9) rfl dX8_copy_66 ?_
  refine lv_iconst (v := 0) hx hb dX8_copy_69 (by decide) ?_
  refine lv_bipush (v := 40) hx hb dX8_copy_70 (by decide) ?_
  refine c_cpy hx hb (hml.trans hl.1.symm) hown (hT _ t1218) (hT _ t686) (hT _ t685) (hT _ t121) hK hP hD hS cw_39 cw_63 cs_63 (Nat.le_of_ble_eq_true rfl) (Nat.le_of_ble_eq_true rfl) (by decide) (by decide) (by decide) dX8_copy_72 (fun s9 H9 locs9 fs9 es9 gs9 hP9 hD9 hS9 => ?_)
  clear hP hD hS
  have hS := hS9
  have hP := hP9
  have hD := hD9
  clear hP9 hD9 hS9
  have hBs9 : CB s9 := by rw [es9]; exact cb_sw hBs8 trivial
  have hFs9 : FR [42, 43, 44, 45, 46, 47, 48, 50, 51, 52, 53, 54, 56, 57, 58, 59, 60, 41, 61, 62, 63] st s9 := fr_sw hFs8 (List.mem_of_getElem? (i := 20) rfl) es9
  rw [hQ]
  exact W.vret hx hb hr (fun t ht hW => ⟨⟨s9, rfl, ⟨hBs9, hFs9, (wi_copy hX h5 (Eq.trans (congrFun (sw_at es9 (by decide)) 2) (Eq.trans (congrFun (sw_at es8 (by decide)) 2) (Eq.trans (congrFun (sw_at es7 (by decide)) 2) (congrFun (sw_it es6) 2)))) (fun j9 h9 => Eq.trans (congrFun (Eq.trans (sw_at es9 (by decide)) (Eq.trans (sw_at es8 (by decide)) (sw_it es7))) j9) (Eq.trans (gs7 j9 h9) (congrFun (hFs6 37 (nm_1 (by decide) (nm_1 (by decide) (nm_1 (by decide) (nm_1 (by decide) (nm_1 (by decide) (nm_1 (by decide) (nm_1 (by decide) (nm_1 (by decide) (nm_1 (by decide) (nm_1 (by decide) (nm_1 (by decide) (nm_1 (by decide) (nm_1 (by decide) (nm_1 (by decide) (nm_1 (by decide) (nm_1 (by decide) (nm_1 (by decide) (nm_1 (by decide) (nm_1 (by decide) (nm_1 (by decide) (nm_1 (by decide) nm_0)))))))))))))))))))))) j9))) (fun j9 h9 => Eq.trans (congrFun (Eq.trans (sw_at es9 (by decide)) (sw_it es8)) j9) (Eq.trans (gs8 j9 h9) (congrFun (hFs7 38 (nm_1 (by decide) (nm_1 (by decide) (nm_1 (by decide) (nm_1 (by decide) (nm_1 (by decide) (nm_1 (by decide) (nm_1 (by decide) (nm_1 (by decide) (nm_1 (by decide) (nm_1 (by decide) (nm_1 (by decide) (nm_1 (by decide) (nm_1 (by decide) (nm_1 (by decide) (nm_1 (by decide) (nm_1 (by decide) (nm_1 (by decide) (nm_1 (by decide) (nm_1 (by decide) (nm_1 (by decide) (nm_1 (by decide) nm_0)))))))))))))))))))))) j9))) (fun j9 h9 => Eq.trans (congrFun (sw_it es9) j9) (Eq.trans (gs9 j9 h9) (congrFun (hFs8 39 (nm_1 (by decide) (nm_1 (by decide) (nm_1 (by decide) (nm_1 (by decide) (nm_1 (by decide) (nm_1 (by decide) (nm_1 (by decide) (nm_1 (by decide) (nm_1 (by decide) (nm_1 (by decide) (nm_1 (by decide) (nm_1 (by decide) (nm_1 (by decide) (nm_1 (by decide) (nm_1 (by decide) (nm_1 (by decide) (nm_1 (by decide) (nm_1 (by decide) (nm_1 (by decide) (nm_1 (by decide) (nm_1 (by decide) nm_0)))))))))))))))))))))) j9))))⟩, by rw [ht]; exact hP, va_K.moved hW.alike (hK.sub (tys' := []) [] rfl), by rw [hAe]; exact hD⟩, by rw [hAe]; exact hS.F ht⟩) hS.2.2 dX8_copy_75
set_option maxHeartbeats 4000000 in
set_option maxRecDepth 100000 in
theorem s_X8_copy_17_41 (l : Launch) (D : va_G) (k : Nat → ClassId) (a : Nat → Nat) (st : CT) (sl : CL) (sz : Nat) (hB : CB st)  (hX : WI st 41) : Met l yX8_copy (.code yX8_copy cX8_copy 2 none :: TB) (rmw 3 0 0) (va_Pc [.ref (a 17), .ref (a 41)] (PW D k sz (CWS k a st sl))) (QV D (S := CT) (fun u => CB u ∧ FR [18, 19, 20, 21, 22, 23, 24, 26, 27, 28, 29, 30, 32, 33, 34, 35, 36, 17, 37, 38, 39] st u ∧ (WI u 17)) (fun u => CWS k a u sl) (fun _ => []) (CWS k a st sl) sz) 0 0 (va_A (CWS k a st sl) sz) := by
  refine Met.ofW (cc := cX8_copy) (maxL := 2) (ret := none) (by decide) rfl ?_
  intro p e s m args below meth c s₁ B hml hv
  obtain ⟨rfl, hsz, hP, hK, hD0, hN⟩ := hv
  have hx := B.exec
  have hb := B.bytes
  have hr := B.returns
  have hT : ∀ w9 ∈ TB, w9.before ([.ref (a 17), .ref (a 41)] : List Value).toArray s = true := fun w9 h => atoms_spec (ws := .code yX8_copy cX8_copy 2 none :: TB) B.pre w9 (List.mem_cons_of_mem _ h)
  have hown : s.vm.findClass RX8 = some m.cls := findClass_of_methodNamed B.named
  have S : CallFix p m c cX8_copy 2 s _ TB RX8 := ⟨hx, hb, hml, hown, hT⟩
  subst hsz
  have hD := hD0.self (sz := s.heap.size)
  generalize hAe : va_A (CWS k a st sl) s.heap.size = A at hD ⊢
  have hA : ∀ q : Nat, s.heap.size ≤ q → A q := fun q h => by rw [← hAe]; exact Or.inr h
  have hS : va_S A s.heap s.heap [] := va_S.rf
  have hl := lv_entry ([.ref (a 17), .ref (a 41)]) (n := 2) (Nat.le_of_ble_eq_true rfl)
  rw [lg_entry_eq]
  generalize (lg_sl ([.ref (a 17), .ref (a 41)]) ++ List.replicate (2 - (lg_sl ([.ref (a 17), .ref (a 41)])).length) Slot.unset).toArray = ls at hl ⊢
  have hl : lv_has ls 2 [(0, .ref (a 17)), (1, .ref (a 41))] := hl
  refine nameQ (fun Q hQ => ?_)
  refine lv_aload_n hx hb dX8_copy_0 rfl (lv_at hl 0 rfl) ?_
  refine va_get (D := D) (ci := 8) (v := .ref (a 18)) (C := RX8) (T := TX8) (N := 6) hx hb hT in_X8 hown hK hP 17 cw_17 rfl 0 (by decide) (hT _ t311) (fun _ h9 => h9) rfl dX8_copy_1 ?_
  refine lv_aload_n hx hb dX8_copy_4 rfl (lv_at hl 1 rfl) ?_
  refine va_get (D := D) (ci := 8) (v := .ref (a 42)) (C := RX8) (T := TX8) (N := 6) hx hb hT in_X8 hown hK hP 41 cw_41 rfl 0 (by decide) (hT _ t311) (fun _ h9 => h9) rfl dX8_copy_5 ?_
  refine ca_v hP hD hS hA (fun hDc => run_V (mc := 0) (ms := 0) (As := [.ref (a 42)]) (rest := []) S (s_X1_copy_4 l D k a st sl   _  hB  ) lkX8_35 ok_X1_copy ⟨rfl, rfl, Nat.le_of_ble_eq_true rfl, Nat.le_of_ble_eq_true rfl⟩ (pw_V (ci := 1) (q0 := 18) hK hN rfl cw_18 hP hDc) rfl hl.1 rfl (Nat.le_of_ble_eq_true rfl) ⟨Nat.zero_le _, Nat.zero_le _⟩ dX8_copy_8) (fun s1 H9 locs9 hs1 hP9 hD9 hS9 => ?_)
  clear hP hD hS
  have hS := hS9
  have hP := hP9
  have hD := hD9
  clear hP9 hD9 hS9
  obtain ⟨hBs1, gs1, fs1⟩ := hs1
  have hFs1 : FR [18, 19, 20, 21, 22, 23, 24, 26, 27, 28, 29, 30, 32, 33, 34, 35, 36, 17, 37, 38, 39] st s1 := fr_ca fr_rf gs1 (sub_1 (List.mem_of_getElem? (i := 0) rfl) (sub_1 (List.mem_of_getElem? (i := 1) rfl) (sub_1 (List.mem_of_getElem? (i := 2) rfl) (sub_1 (List.mem_of_getElem? (i := 3) rfl) (sub_1 (List.mem_of_getElem? (i := 4) rfl) (sub_1 (List.mem_of_getElem? (i := 5) rfl) (sub_1 (List.mem_of_getElem? (i := 6) rfl) (sub_1 (List.mem_of_getElem? (i := 7) rfl) (sub_1 (List.mem_of_getElem? (i := 8) rfl) (sub_1 (List.mem_of_getElem? (i := 9) rfl) (sub_1 (List.mem_of_getElem? (i := 10) rfl) (sub_1 (List.mem_of_getElem? (i := 11) rfl) sub_0))))))))))))
  refine lv_aload_n hx hb dX8_copy_11 rfl (lv_at hl 0 rfl) ?_
  refine va_get (D := D) (ci := 8) (v := .ref (a 31)) (C := RX8) (T := TX8) (N := 6) hx hb hT in_X8 hown hK hP 17 cw_17 rfl 1 (by decide) (hT _ t313) (fun _ h9 => h9) rfl dX8_copy_12 ?_
  refine lv_aload_n hx hb dX8_copy_15 rfl (lv_at hl 1 rfl) ?_
  refine va_get (D := D) (ci := 8) (v := .ref (a 55)) (C := RX8) (T := TX8) (N := 6) hx hb hT in_X8 hown hK hP 41 cw_41 rfl 1 (by decide) (hT _ t313) (fun _ h9 => h9) rfl dX8_copy_16 ?_
  refine ca_v hP hD hS hA (fun hDc => run_V (mc := 0) (ms := 0) (As := [.ref (a 55)]) (rest := []) S (s_X5_copy l D k a s1 sl 31 55  _ (by decide) (by decide) hBs1  ) lkX8_42 ok_X5_copy ⟨rfl, rfl, Nat.le_of_ble_eq_true rfl, Nat.le_of_ble_eq_true rfl⟩ (pw_V (ci := 5) (q0 := 31) hK hN rfl cw_31 hP hDc) rfl hl.1 rfl (Nat.le_of_ble_eq_true rfl) ⟨Nat.zero_le _, Nat.zero_le _⟩ dX8_copy_19) (fun s3 H9 locs9 hs3 hP9 hD9 hS9 => ?_)
  clear hP hD hS
  have hS := hS9
  have hP := hP9
  have hD := hD9
  clear hP9 hD9 hS9
  obtain ⟨hBs3, gs3, fs3⟩ := hs3
  have hFs3 : FR [18, 19, 20, 21, 22, 23, 24, 26, 27, 28, 29, 30, 32, 33, 34, 35, 36, 17, 37, 38, 39] st s3 := fr_ca hFs1 gs3 (sub_1 (List.mem_of_getElem? (i := 12) rfl) (sub_1 (List.mem_of_getElem? (i := 13) rfl) (sub_1 (List.mem_of_getElem? (i := 14) rfl) (sub_1 (List.mem_of_getElem? (i := 15) rfl) (sub_1 (List.mem_of_getElem? (i := 16) rfl) sub_0)))))
  refine lv_aload_n hx hb dX8_copy_22 rfl (lv_at hl 0 rfl) ?_
  refine lv_aload_n hx hb dX8_copy_23 rfl (lv_at hl 1 rfl) ?_
  refine va_get (D := D) (ci := 8) (v := .int (s3 41 2)) (C := RX8) (T := TX8) (N := 6) hx hb hT in_X8 hown hK hP 41 cw_41 rfl 2 (by decide) (hT _ t315) (fun _ h9 => h9) rfl dX8_copy_24 ?_
  refine k_top (y := (st 41 2)) (congrFun (hFs3 41 (nm_1 (by decide) (nm_1 (by decide) (nm_1 (by decide) (nm_1 (by decide) (nm_1 (by decide) (nm_1 (by decide) (nm_1 (by decide) (nm_1 (by decide) (nm_1 (by decide) (nm_1 (by decide) (nm_1 (by decide) (nm_1 (by decide) (nm_1 (by decide) (nm_1 (by decide) (nm_1 (by decide) (nm_1 (by decide) (nm_1 (by decide) (nm_1 (by decide) (nm_1 (by decide) (nm_1 (by decide) (nm_1 (by decide) nm_0)))))))))))))))))))))) 2) ?_
  have h5 : Iv 0 40 (st 41 2) := (rb_41_2 hB)
  refine c_put (ci := 8) (C := RX8) (T := TX8) (N := 6) (j := 2) (v := (st 41 2)) hx hb hT in_X8 tyX8 tyX8_ok nmX8 hown hK hP hD hS cw_17 rfl (by decide) (hT _ t315) (by decide +kernel) (by decide +kernel) rfl rfl (Nat.le_of_ble_eq_true rfl) (cs_17 (upd (s3 17) 2 (st 41 2))) dX8_copy_27 (fun s6 H9 locs9 es6 hP9 hD9 hS9 => ?_)
  clear hP hD hS
  have hS := hS9
  have hP := hP9
  have hD := hD9
  clear hP9 hD9 hS9
  have hBs6 : CB s6 := by rw [es6]; exact cb_sw hBs3 (ki_7_2 (hBs3 17) h5)
  have hFs6 : FR [18, 19, 20, 21, 22, 23, 24, 26, 27, 28, 29, 30, 32, 33, 34, 35, 36, 17, 37, 38, 39] st s6 := fr_sw hFs3 (List.mem_of_getElem? (i := 17) rfl) es6
  refine lv_aload_n hx hb dX8_copy_30 rfl (lv_at hl 1 rfl) ?_
  refine va_get (D := D) (ci := 8) (v := .ref (a 61)) (C := RX8) (T := TX8) (N := 6) hx hb hT in_X8 hown hK hP 41 cw_41 rfl 3 (by decide) (hT _ t317) (fun _ h9 => h9) rfl dX8_copy_31 ?_
  refine lv_iconst (v := 0) hx hb dX8_copy_34 (by decide) ?_
  refine lv_aload_n hx hb dX8_copy_35 rfl (lv_at hl 0 rfl) ?_
  refine va_get (D := D) (ci := 8) (v := .ref (a 37)) (C := RX8) (T := TX8) (N := 6) hx hb hT in_X8 hown hK hP 17 cw_17 rfl 3 (by decide) (hT _ t317) (fun _ h9 => h9) rfl dX8_copy_36 ?_
  refine lv_iconst (v := 0) hx hb dX8_copy_39 (by decide) ?_
  refine lv_bipush (v := 40) hx hb dX8_copy_40 (by decide) ?_
  refine c_cpy hx hb (hml.trans hl.1.symm) hown (hT _ t1218) (hT _ t686) (hT _ t685) (hT _ t121) hK hP hD hS cw_61 cw_37 cs_37 (Nat.le_of_ble_eq_true rfl) (Nat.le_of_ble_eq_true rfl) (by decide) (by decide) (by decide) dX8_copy_42 (fun s7 H9 locs9 fs7 es7 gs7 hP9 hD9 hS9 => ?_)
  clear hP hD hS
  have hS := hS9
  have hP := hP9
  have hD := hD9
  clear hP9 hD9 hS9
  have hBs7 : CB s7 := by rw [es7]; exact cb_sw hBs6 trivial
  have hFs7 : FR [18, 19, 20, 21, 22, 23, 24, 26, 27, 28, 29, 30, 32, 33, 34, 35, 36, 17, 37, 38, 39] st s7 := fr_sw hFs6 (List.mem_of_getElem? (i := 18) rfl) es7
  refine lv_aload_n hx hb dX8_copy_45 rfl (lv_at hl 1 rfl) ?_
  refine va_get (D := D) (ci := 8) (v := .ref (a 62)) (C := RX8) (T := TX8) (N := 6) hx hb hT in_X8 hown hK hP 41 cw_41 rfl 4 (by decide) (hT _ t318) (fun _ h9 => h9) rfl dX8_copy_46 ?_
  refine lv_iconst (v := 0) hx hb dX8_copy_49 (by decide) ?_
  refine lv_aload_n hx hb dX8_copy_50 rfl (lv_at hl 0 rfl) ?_
  refine va_get (D := D) (ci := 8) (v := .ref (a 38)) (C := RX8) (T := TX8) (N := 6) hx hb hT in_X8 hown hK hP 17 cw_17 rfl 4 (by decide) (hT _ t318) (fun _ h9 => h9) rfl dX8_copy_51 ?_
  refine lv_iconst (v := 0) hx hb dX8_copy_54 (by decide) ?_
  refine lv_bipush (v := 40) hx hb dX8_copy_55 (by decide) ?_
  refine c_cpy hx hb (hml.trans hl.1.symm) hown (hT _ t1218) (hT _ t686) (hT _ t685) (hT _ t121) hK hP hD hS cw_62 cw_38 cs_38 (Nat.le_of_ble_eq_true rfl) (Nat.le_of_ble_eq_true rfl) (by decide) (by decide) (by decide) dX8_copy_57 (fun s8 H9 locs9 fs8 es8 gs8 hP9 hD9 hS9 => ?_)
  clear hP hD hS
  have hS := hS9
  have hP := hP9
  have hD := hD9
  clear hP9 hD9 hS9
  have hBs8 : CB s8 := by rw [es8]; exact cb_sw hBs7 trivial
  have hFs8 : FR [18, 19, 20, 21, 22, 23, 24, 26, 27, 28, 29, 30, 32, 33, 34, 35, 36, 17, 37, 38, 39] st s8 := fr_sw hFs7 (List.mem_of_getElem? (i := 19) rfl) es8
  refine lv_aload_n hx hb dX8_copy_60 rfl (lv_at hl 1 rfl) ?_
  refine va_get (D := D) (ci := 8) (v := .ref (a 63)) (C := RX8) (T := TX8) (N := 6) hx hb hT in_X8 hown hK hP 41 cw_41 rfl 5 (by decide) (hT _ t319) (fun _ h9 => h9) rfl dX8_copy_61 ?_
  refine lv_iconst (v := 0) hx hb dX8_copy_64 (by decide) ?_
  refine lv_aload_n hx hb dX8_copy_65 rfl (lv_at hl 0 rfl) ?_
  refine va_get (D := D) (ci := 8) (v := .ref (a 39)) (C := RX8) (T := TX8) (N := 6) hx hb hT in_X8 hown hK hP 17 cw_17 rfl 5 (by decide) (hT _ t319) (fun _ h9 => h9) rfl dX8_copy_66 ?_
  refine lv_iconst (v := 0) hx hb dX8_copy_69 (by decide) ?_
  refine lv_bipush (v := 40) hx hb dX8_copy_70 (by decide) ?_
  refine c_cpy hx hb (hml.trans hl.1.symm) hown (hT _ t1218) (hT _ t686) (hT _ t685) (hT _ t121) hK hP hD hS cw_63 cw_39 cs_39 (Nat.le_of_ble_eq_true rfl) (Nat.le_of_ble_eq_true rfl) (by decide) (by decide) (by decide) dX8_copy_72 (fun s9 H9 locs9 fs9 es9 gs9 hP9 hD9 hS9 => ?_)
  clear hP hD hS
  have hS := hS9
  have hP := hP9
  have hD := hD9
  clear hP9 hD9 hS9
  have hBs9 : CB s9 := by rw [es9]; exact cb_sw hBs8 trivial
  have hFs9 : FR [18, 19, 20, 21, 22, 23, 24, 26, 27, 28, 29, 30, 32, 33, 34, 35, 36, 17, 37, 38, 39] st s9 := fr_sw hFs8 (List.mem_of_getElem? (i := 20) rfl) es9
  rw [hQ]
  exact W.vret hx hb hr (fun t ht hW => ⟨⟨s9, rfl, ⟨hBs9, hFs9, (wi_copy hX h5 (Eq.trans (congrFun (sw_at es9 (by decide)) 2) (Eq.trans (congrFun (sw_at es8 (by decide)) 2) (Eq.trans (congrFun (sw_at es7 (by decide)) 2) (congrFun (sw_it es6) 2)))) (fun j9 h9 => Eq.trans (congrFun (Eq.trans (sw_at es9 (by decide)) (Eq.trans (sw_at es8 (by decide)) (sw_it es7))) j9) (Eq.trans (gs7 j9 h9) (congrFun (hFs6 61 (nm_1 (by decide) (nm_1 (by decide) (nm_1 (by decide) (nm_1 (by decide) (nm_1 (by decide) (nm_1 (by decide) (nm_1 (by decide) (nm_1 (by decide) (nm_1 (by decide) (nm_1 (by decide) (nm_1 (by decide) (nm_1 (by decide) (nm_1 (by decide) (nm_1 (by decide) (nm_1 (by decide) (nm_1 (by decide) (nm_1 (by decide) (nm_1 (by decide) (nm_1 (by decide) (nm_1 (by decide) (nm_1 (by decide) nm_0)))))))))))))))))))))) j9))) (fun j9 h9 => Eq.trans (congrFun (Eq.trans (sw_at es9 (by decide)) (sw_it es8)) j9) (Eq.trans (gs8 j9 h9) (congrFun (hFs7 62 (nm_1 (by decide) (nm_1 (by decide) (nm_1 (by decide) (nm_1 (by decide) (nm_1 (by decide) (nm_1 (by decide) (nm_1 (by decide) (nm_1 (by decide) (nm_1 (by decide) (nm_1 (by decide) (nm_1 (by decide) (nm_1 (by decide) (nm_1 (by decide) (nm_1 (by decide) (nm_1 (by decide) (nm_1 (by decide) (nm_1 (by decide) (nm_1 (by decide) (nm_1 (by decide) (nm_1 (by decide) (nm_1 (by decide) nm_0)))))))))))))))))))))) j9))) (fun j9 h9 => Eq.trans (congrFun (sw_it es9) j9) (Eq.trans (gs9 j9 h9) (congrFun (hFs8 63 (nm_1 (by decide) (nm_1 (by decide) (nm_1 (by decide) (nm_1 (by decide) (nm_1 (by decide) (nm_1 (by decide) (nm_1 (by decide) (nm_1 (by decide) (nm_1 (by decide) (nm_1 (by decide) (nm_1 (by decide) (nm_1 (by decide) (nm_1 (by decide) (nm_1 (by decide) (nm_1 (by decide) (nm_1 (by decide) (nm_1 (by decide) (nm_1 (by decide) (nm_1 (by decide) (nm_1 (by decide) (nm_1 (by decide) nm_0)))))))))))))))))))))) j9))))⟩, by rw [ht]; exact hP, va_K.moved hW.alike (hK.sub (tys' := []) [] rfl), by rw [hAe]; exact hD⟩, by rw [hAe]; exact hS.F ht⟩) hS.2.2 dX8_copy_75
set_option maxHeartbeats 4000000 in
set_option maxRecDepth 100000 in
theorem s_X8_copy_64_17 (l : Launch) (D : va_G) (k : Nat → ClassId) (a : Nat → Nat) (st : CT) (sl : CL) (sz : Nat) (hB : CB st)  (hX : WI st 17) : Met l yX8_copy (.code yX8_copy cX8_copy 2 none :: TB) (rmw 3 0 0) (va_Pc [.ref (a 64), .ref (a 17)] (PW D k sz (CWS k a st sl))) (QV D (S := CT) (fun u => CB u ∧ FR [65, 66, 67, 68, 69, 70, 71, 73, 74, 75, 76, 77, 79, 80, 81, 82, 83, 64, 84, 85, 86] st u ∧ (WI u 64)) (fun u => CWS k a u sl) (fun _ => []) (CWS k a st sl) sz) 0 0 (va_A (CWS k a st sl) sz) := by
  refine Met.ofW (cc := cX8_copy) (maxL := 2) (ret := none) (by decide) rfl ?_
  intro p e s m args below meth c s₁ B hml hv
  obtain ⟨rfl, hsz, hP, hK, hD0, hN⟩ := hv
  have hx := B.exec
  have hb := B.bytes
  have hr := B.returns
  have hT : ∀ w9 ∈ TB, w9.before ([.ref (a 64), .ref (a 17)] : List Value).toArray s = true := fun w9 h => atoms_spec (ws := .code yX8_copy cX8_copy 2 none :: TB) B.pre w9 (List.mem_cons_of_mem _ h)
  have hown : s.vm.findClass RX8 = some m.cls := findClass_of_methodNamed B.named
  have S : CallFix p m c cX8_copy 2 s _ TB RX8 := ⟨hx, hb, hml, hown, hT⟩
  subst hsz
  have hD := hD0.self (sz := s.heap.size)
  generalize hAe : va_A (CWS k a st sl) s.heap.size = A at hD ⊢
  have hA : ∀ q : Nat, s.heap.size ≤ q → A q := fun q h => by rw [← hAe]; exact Or.inr h
  have hS : va_S A s.heap s.heap [] := va_S.rf
  have hl := lv_entry ([.ref (a 64), .ref (a 17)]) (n := 2) (Nat.le_of_ble_eq_true rfl)
  rw [lg_entry_eq]
  generalize (lg_sl ([.ref (a 64), .ref (a 17)]) ++ List.replicate (2 - (lg_sl ([.ref (a 64), .ref (a 17)])).length) Slot.unset).toArray = ls at hl ⊢
  have hl : lv_has ls 2 [(0, .ref (a 64)), (1, .ref (a 17))] := hl
  refine nameQ (fun Q hQ => ?_)
  refine lv_aload_n hx hb dX8_copy_0 rfl (lv_at hl 0 rfl) ?_
  refine va_get (D := D) (ci := 8) (v := .ref (a 65)) (C := RX8) (T := TX8) (N := 6) hx hb hT in_X8 hown hK hP 64 cw_64 rfl 0 (by decide) (hT _ t311) (fun _ h9 => h9) rfl dX8_copy_1 ?_
  refine lv_aload_n hx hb dX8_copy_4 rfl (lv_at hl 1 rfl) ?_
  refine va_get (D := D) (ci := 8) (v := .ref (a 18)) (C := RX8) (T := TX8) (N := 6) hx hb hT in_X8 hown hK hP 17 cw_17 rfl 0 (by decide) (hT _ t311) (fun _ h9 => h9) rfl dX8_copy_5 ?_
  refine ca_v hP hD hS hA (fun hDc => run_V (mc := 0) (ms := 0) (As := [.ref (a 18)]) (rest := []) S (s_X1_copy_2 l D k a st sl   _  hB  ) lkX8_35 ok_X1_copy ⟨rfl, rfl, Nat.le_of_ble_eq_true rfl, Nat.le_of_ble_eq_true rfl⟩ (pw_V (ci := 1) (q0 := 65) hK hN rfl cw_65 hP hDc) rfl hl.1 rfl (Nat.le_of_ble_eq_true rfl) ⟨Nat.zero_le _, Nat.zero_le _⟩ dX8_copy_8) (fun s1 H9 locs9 hs1 hP9 hD9 hS9 => ?_)
  clear hP hD hS
  have hS := hS9
  have hP := hP9
  have hD := hD9
  clear hP9 hD9 hS9
  obtain ⟨hBs1, gs1, fs1⟩ := hs1
  have hFs1 : FR [65, 66, 67, 68, 69, 70, 71, 73, 74, 75, 76, 77, 79, 80, 81, 82, 83, 64, 84, 85, 86] st s1 := fr_ca fr_rf gs1 (sub_1 (List.mem_of_getElem? (i := 0) rfl) (sub_1 (List.mem_of_getElem? (i := 1) rfl) (sub_1 (List.mem_of_getElem? (i := 2) rfl) (sub_1 (List.mem_of_getElem? (i := 3) rfl) (sub_1 (List.mem_of_getElem? (i := 4) rfl) (sub_1 (List.mem_of_getElem? (i := 5) rfl) (sub_1 (List.mem_of_getElem? (i := 6) rfl) (sub_1 (List.mem_of_getElem? (i := 7) rfl) (sub_1 (List.mem_of_getElem? (i := 8) rfl) (sub_1 (List.mem_of_getElem? (i := 9) rfl) (sub_1 (List.mem_of_getElem? (i := 10) rfl) (sub_1 (List.mem_of_getElem? (i := 11) rfl) sub_0))))))))))))
  refine lv_aload_n hx hb dX8_copy_11 rfl (lv_at hl 0 rfl) ?_
  refine va_get (D := D) (ci := 8) (v := .ref (a 78)) (C := RX8) (T := TX8) (N := 6) hx hb hT in_X8 hown hK hP 64 cw_64 rfl 1 (by decide) (hT _ t313) (fun _ h9 => h9) rfl dX8_copy_12 ?_
  refine lv_aload_n hx hb dX8_copy_15 rfl (lv_at hl 1 rfl) ?_
  refine va_get (D := D) (ci := 8) (v := .ref (a 31)) (C := RX8) (T := TX8) (N := 6) hx hb hT in_X8 hown hK hP 17 cw_17 rfl 1 (by decide) (hT _ t313) (fun _ h9 => h9) rfl dX8_copy_16 ?_
  refine ca_v hP hD hS hA (fun hDc => run_V (mc := 0) (ms := 0) (As := [.ref (a 31)]) (rest := []) S (s_X5_copy l D k a s1 sl 78 31  _ (by decide) (by decide) hBs1  ) lkX8_42 ok_X5_copy ⟨rfl, rfl, Nat.le_of_ble_eq_true rfl, Nat.le_of_ble_eq_true rfl⟩ (pw_V (ci := 5) (q0 := 78) hK hN rfl cw_78 hP hDc) rfl hl.1 rfl (Nat.le_of_ble_eq_true rfl) ⟨Nat.zero_le _, Nat.zero_le _⟩ dX8_copy_19) (fun s3 H9 locs9 hs3 hP9 hD9 hS9 => ?_)
  clear hP hD hS
  have hS := hS9
  have hP := hP9
  have hD := hD9
  clear hP9 hD9 hS9
  obtain ⟨hBs3, gs3, fs3⟩ := hs3
  have hFs3 : FR [65, 66, 67, 68, 69, 70, 71, 73, 74, 75, 76, 77, 79, 80, 81, 82, 83, 64, 84, 85, 86] st s3 := fr_ca hFs1 gs3 (sub_1 (List.mem_of_getElem? (i := 12) rfl) (sub_1 (List.mem_of_getElem? (i := 13) rfl) (sub_1 (List.mem_of_getElem? (i := 14) rfl) (sub_1 (List.mem_of_getElem? (i := 15) rfl) (sub_1 (List.mem_of_getElem? (i := 16) rfl) sub_0)))))
  refine lv_aload_n hx hb dX8_copy_22 rfl (lv_at hl 0 rfl) ?_
  refine lv_aload_n hx hb dX8_copy_23 rfl (lv_at hl 1 rfl) ?_
  refine va_get (D := D) (ci := 8) (v := .int (s3 17 2)) (C := RX8) (T := TX8) (N := 6) hx hb hT in_X8 hown hK hP 17 cw_17 rfl 2 (by decide) (hT _ t315) (fun _ h9 => h9) rfl dX8_copy_24 ?_
  refine k_top (y := (st 17 2)) (congrFun (hFs3 17 (nm_1 (by decide) (nm_1 (by decide) (nm_1 (by decide) (nm_1 (by decide) (nm_1 (by decide) (nm_1 (by decide) (nm_1 (by decide) (nm_1 (by decide) (nm_1 (by decide) (nm_1 (by decide) (nm_1 (by decide) (nm_1 (by decide) (nm_1 (by decide) (nm_1 (by decide) (nm_1 (by decide) (nm_1 (by decide) (nm_1 (by decide) (nm_1 (by decide) (nm_1 (by decide) (nm_1 (by decide) (nm_1 (by decide) nm_0)))))))))))))))))))))) 2) ?_
  have h5 : Iv 0 40 (st 17 2) := (rb_17_2 hB)
  refine c_put (ci := 8) (C := RX8) (T := TX8) (N := 6) (j := 2) (v := (st 17 2)) hx hb hT in_X8 tyX8 tyX8_ok nmX8 hown hK hP hD hS cw_64 rfl (by decide) (hT _ t315) (by decide +kernel) (by decide +kernel) rfl rfl (Nat.le_of_ble_eq_true rfl) (cs_64 (upd (s3 64) 2 (st 17 2))) dX8_copy_27 (fun s6 H9 locs9 es6 hP9 hD9 hS9 => ?_)
  clear hP hD hS
  have hS := hS9
  have hP := hP9
  have hD := hD9
  clear hP9 hD9 hS9
  have hBs6 : CB s6 := by rw [es6]; exact cb_sw hBs3 (ki_7_2 (hBs3 64) h5)
  have hFs6 : FR [65, 66, 67, 68, 69, 70, 71, 73, 74, 75, 76, 77, 79, 80, 81, 82, 83, 64, 84, 85, 86] st s6 := fr_sw hFs3 (List.mem_of_getElem? (i := 17) rfl) es6
  refine lv_aload_n hx hb dX8_copy_30 rfl (lv_at hl 1 rfl) ?_
  refine va_get (D := D) (ci := 8) (v := .ref (a 37)) (C := RX8) (T := TX8) (N := 6) hx hb hT in_X8 hown hK hP 17 cw_17 rfl 3 (by decide) (hT _ t317) (fun _ h9 => h9) rfl dX8_copy_31 ?_
  refine lv_iconst (v := 0) hx hb dX8_copy_34 (by decide) ?_
  refine lv_aload_n hx hb dX8_copy_35 rfl (lv_at hl 0 rfl) ?_
  refine va_get (D := D) (ci := 8) (v := .ref (a 84)) (C := RX8) (T := TX8) (N := 6) hx hb hT in_X8 hown hK hP 64 cw_64 rfl 3 (by decide) (hT _ t317) (fun _ h9 => h9) rfl dX8_copy_36 ?_
  refine lv_iconst (v := 0) hx hb dX8_copy_39 (by decide) ?_
  refine lv_bipush (v := 40) hx hb dX8_copy_40 (by decide) ?_
  refine c_cpy hx hb (hml.trans hl.1.symm) hown (hT _ t1218) (hT _ t686) (hT _ t685) (hT _ t121) hK hP hD hS cw_37 cw_84 cs_84 (Nat.le_of_ble_eq_true rfl) (Nat.le_of_ble_eq_true rfl) (by decide) (by decide) (by decide) dX8_copy_42 (fun s7 H9 locs9 fs7 es7 gs7 hP9 hD9 hS9 => ?_)
  clear hP hD hS
  have hS := hS9
  have hP := hP9
  have hD := hD9
  clear hP9 hD9 hS9
  have hBs7 : CB s7 := by rw [es7]; exact cb_sw hBs6 trivial
  have hFs7 : FR [65, 66, 67, 68, 69, 70, 71, 73, 74, 75, 76, 77, 79, 80, 81, 82, 83, 64, 84, 85, 86] st s7 := fr_sw hFs6 (List.mem_of_getElem? (i := 18) rfl) es7
  refine lv_aload_n hx hb dX8_copy_45 rfl (lv_at hl 1 rfl) ?_
  refine va_get (D := D) (ci := 8) (v := .ref (a 38)) (C := RX8) (T := TX8) (N := 6) hx hb hT in_X8 hown hK hP 17 cw_17 rfl 4 (by decide) (hT _ t318) (fun _ h9 => h9) rfl dX8_copy_46 ?_
  refine lv_iconst (v := 0) hx hb dX8_copy_49 (by decide) ?_
  refine lv_aload_n hx hb dX8_copy_50 rfl (lv_at hl 0 rfl) ?_
  refine va_get (D := D) (ci := 8) (v := .ref (a 85)) (C := RX8) (T := TX8) (N := 6) hx hb hT in_X8 hown hK hP 64 cw_64 rfl 4 (by decide) (hT _ t318) (fun _ h9 => h9) rfl dX8_copy_51 ?_
  refine lv_iconst (v := 0) hx hb dX8_copy_54 (by decide) ?_
  refine lv_bipush (v := 40) hx hb dX8_copy_55 (by decide) ?_
  refine c_cpy hx hb (hml.trans hl.1.symm) hown (hT _ t1218) (hT _ t686) (hT _ t685) (hT _ t121) hK hP hD hS cw_38 cw_85 cs_85 (Nat.le_of_ble_eq_true rfl) (Nat.le_of_ble_eq_true rfl) (by decide) (by decide) (by decide) dX8_copy_57 (fun s8 H9 locs9 fs8 es8 gs8 hP9 hD9 hS9 => ?_)
  clear hP hD hS
  have hS := hS9
  have hP := hP9
  have hD := hD9
  clear hP9 hD9 hS9
  have hBs8 : CB s8 := by rw [es8]; exact cb_sw hBs7 trivial
  have hFs8 : FR [65, 66, 67, 68, 69, 70, 71, 73, 74, 75, 76, 77, 79, 80, 81, 82, 83, 64, 84, 85, 86] st s8 := fr_sw hFs7 (List.mem_of_getElem? (i := 19) rfl) es8
  refine lv_aload_n hx hb dX8_copy_60 rfl (lv_at hl 1 rfl) ?_
  refine va_get (D := D) (ci := 8) (v := .ref (a 39)) (C := RX8) (T := TX8) (N := 6) hx hb hT in_X8 hown hK hP 17 cw_17 rfl 5 (by decide) (hT _ t319) (fun _ h9 => h9) rfl dX8_copy_61 ?_
  refine lv_iconst (v := 0) hx hb dX8_copy_64 (by decide) ?_
  refine lv_aload_n hx hb dX8_copy_65 rfl (lv_at hl 0 rfl) ?_
  refine va_get (D := D) (ci := 8) (v := .ref (a 86)) (C := RX8) (T := TX8) (N := 6) hx hb hT in_X8 hown hK hP 64 cw_64 rfl 5 (by decide) (hT _ t319) (fun _ h9 => h9) rfl dX8_copy_66 ?_
  refine lv_iconst (v := 0) hx hb dX8_copy_69 (by decide) ?_
  refine lv_bipush (v := 40) hx hb dX8_copy_70 (by decide) ?_
  refine c_cpy hx hb (hml.trans hl.1.symm) hown (hT _ t1218) (hT _ t686) (hT _ t685) (hT _ t121) hK hP hD hS cw_39 cw_86 cs_86 (Nat.le_of_ble_eq_true rfl) (Nat.le_of_ble_eq_true rfl) (by decide) (by decide) (by decide) dX8_copy_72 (fun s9 H9 locs9 fs9 es9 gs9 hP9 hD9 hS9 => ?_)
  clear hP hD hS
  have hS := hS9
  have hP := hP9
  have hD := hD9
  clear hP9 hD9 hS9
  have hBs9 : CB s9 := by rw [es9]; exact cb_sw hBs8 trivial
  have hFs9 : FR [65, 66, 67, 68, 69, 70, 71, 73, 74, 75, 76, 77, 79, 80, 81, 82, 83, 64, 84, 85, 86] st s9 := fr_sw hFs8 (List.mem_of_getElem? (i := 20) rfl) es9
  rw [hQ]
  exact W.vret hx hb hr (fun t ht hW => ⟨⟨s9, rfl, ⟨hBs9, hFs9, (wi_copy hX h5 (Eq.trans (congrFun (sw_at es9 (by decide)) 2) (Eq.trans (congrFun (sw_at es8 (by decide)) 2) (Eq.trans (congrFun (sw_at es7 (by decide)) 2) (congrFun (sw_it es6) 2)))) (fun j9 h9 => Eq.trans (congrFun (Eq.trans (sw_at es9 (by decide)) (Eq.trans (sw_at es8 (by decide)) (sw_it es7))) j9) (Eq.trans (gs7 j9 h9) (congrFun (hFs6 37 (nm_1 (by decide) (nm_1 (by decide) (nm_1 (by decide) (nm_1 (by decide) (nm_1 (by decide) (nm_1 (by decide) (nm_1 (by decide) (nm_1 (by decide) (nm_1 (by decide) (nm_1 (by decide) (nm_1 (by decide) (nm_1 (by decide) (nm_1 (by decide) (nm_1 (by decide) (nm_1 (by decide) (nm_1 (by decide) (nm_1 (by decide) (nm_1 (by decide) (nm_1 (by decide) (nm_1 (by decide) (nm_1 (by decide) nm_0)))))))))))))))))))))) j9))) (fun j9 h9 => Eq.trans (congrFun (Eq.trans (sw_at es9 (by decide)) (sw_it es8)) j9) (Eq.trans (gs8 j9 h9) (congrFun (hFs7 38 (nm_1 (by decide) (nm_1 (by decide) (nm_1 (by decide) (nm_1 (by decide) (nm_1 (by decide) (nm_1 (by decide) (nm_1 (by decide) (nm_1 (by decide) (nm_1 (by decide) (nm_1 (by decide) (nm_1 (by decide) (nm_1 (by decide) (nm_1 (by decide) (nm_1 (by decide) (nm_1 (by decide) (nm_1 (by decide) (nm_1 (by decide) (nm_1 (by decide) (nm_1 (by decide) (nm_1 (by decide) (nm_1 (by decide) nm_0)))))))))))))))))))))) j9))) (fun j9 h9 => Eq.trans (congrFun (sw_it es9) j9) (Eq.trans (gs9 j9 h9) (congrFun (hFs8 39 (nm_1 (by decide) (nm_1 (by decide) (nm_1 (by decide) (nm_1 (by decide) (nm_1 (by decide) (nm_1 (by decide) (nm_1 (by decide) (nm_1 (by decide) (nm_1 (by decide) (nm_1 (by decide) (nm_1 (by decide) (nm_1 (by decide) (nm_1 (by decide) (nm_1 (by decide) (nm_1 (by decide) (nm_1 (by decide) (nm_1 (by decide) (nm_1 (by decide) (nm_1 (by decide) (nm_1 (by decide) (nm_1 (by decide) nm_0)))))))))))))))))))))) j9))))⟩, by rw [ht]; exact hP, va_K.moved hW.alike (hK.sub (tys' := []) [] rfl), by rw [hAe]; exact hD⟩, by rw [hAe]; exact hS.F ht⟩) hS.2.2 dX8_copy_75
set_option maxHeartbeats 4000000 in
set_option maxRecDepth 100000 in
theorem s_X8_copy_17_64 (l : Launch) (D : va_G) (k : Nat → ClassId) (a : Nat → Nat) (st : CT) (sl : CL) (sz : Nat) (hB : CB st)  (hX : WI st 64) : Met l yX8_copy (.code yX8_copy cX8_copy 2 none :: TB) (rmw 3 0 0) (va_Pc [.ref (a 17), .ref (a 64)] (PW D k sz (CWS k a st sl))) (QV D (S := CT) (fun u => CB u ∧ FR [18, 19, 20, 21, 22, 23, 24, 26, 27, 28, 29, 30, 32, 33, 34, 35, 36, 17, 37, 38, 39] st u ∧ (WI u 17)) (fun u => CWS k a u sl) (fun _ => []) (CWS k a st sl) sz) 0 0 (va_A (CWS k a st sl) sz) := by
  refine Met.ofW (cc := cX8_copy) (maxL := 2) (ret := none) (by decide) rfl ?_
  intro p e s m args below meth c s₁ B hml hv
  obtain ⟨rfl, hsz, hP, hK, hD0, hN⟩ := hv
  have hx := B.exec
  have hb := B.bytes
  have hr := B.returns
  have hT : ∀ w9 ∈ TB, w9.before ([.ref (a 17), .ref (a 64)] : List Value).toArray s = true := fun w9 h => atoms_spec (ws := .code yX8_copy cX8_copy 2 none :: TB) B.pre w9 (List.mem_cons_of_mem _ h)
  have hown : s.vm.findClass RX8 = some m.cls := findClass_of_methodNamed B.named
  have S : CallFix p m c cX8_copy 2 s _ TB RX8 := ⟨hx, hb, hml, hown, hT⟩
  subst hsz
  have hD := hD0.self (sz := s.heap.size)
  generalize hAe : va_A (CWS k a st sl) s.heap.size = A at hD ⊢
  have hA : ∀ q : Nat, s.heap.size ≤ q → A q := fun q h => by rw [← hAe]; exact Or.inr h
  have hS : va_S A s.heap s.heap [] := va_S.rf
  have hl := lv_entry ([.ref (a 17), .ref (a 64)]) (n := 2) (Nat.le_of_ble_eq_true rfl)
  rw [lg_entry_eq]
  generalize (lg_sl ([.ref (a 17), .ref (a 64)]) ++ List.replicate (2 - (lg_sl ([.ref (a 17), .ref (a 64)])).length) Slot.unset).toArray = ls at hl ⊢
  have hl : lv_has ls 2 [(0, .ref (a 17)), (1, .ref (a 64))] := hl
  refine nameQ (fun Q hQ => ?_)
  refine lv_aload_n hx hb dX8_copy_0 rfl (lv_at hl 0 rfl) ?_
  refine va_get (D := D) (ci := 8) (v := .ref (a 18)) (C := RX8) (T := TX8) (N := 6) hx hb hT in_X8 hown hK hP 17 cw_17 rfl 0 (by decide) (hT _ t311) (fun _ h9 => h9) rfl dX8_copy_1 ?_
  refine lv_aload_n hx hb dX8_copy_4 rfl (lv_at hl 1 rfl) ?_
  refine va_get (D := D) (ci := 8) (v := .ref (a 65)) (C := RX8) (T := TX8) (N := 6) hx hb hT in_X8 hown hK hP 64 cw_64 rfl 0 (by decide) (hT _ t311) (fun _ h9 => h9) rfl dX8_copy_5 ?_
  refine ca_v hP hD hS hA (fun hDc => run_V (mc := 0) (ms := 0) (As := [.ref (a 65)]) (rest := []) S (s_X1_copy_5 l D k a st sl   _  hB  ) lkX8_35 ok_X1_copy ⟨rfl, rfl, Nat.le_of_ble_eq_true rfl, Nat.le_of_ble_eq_true rfl⟩ (pw_V (ci := 1) (q0 := 18) hK hN rfl cw_18 hP hDc) rfl hl.1 rfl (Nat.le_of_ble_eq_true rfl) ⟨Nat.zero_le _, Nat.zero_le _⟩ dX8_copy_8) (fun s1 H9 locs9 hs1 hP9 hD9 hS9 => ?_)
  clear hP hD hS
  have hS := hS9
  have hP := hP9
  have hD := hD9
  clear hP9 hD9 hS9
  obtain ⟨hBs1, gs1, fs1⟩ := hs1
  have hFs1 : FR [18, 19, 20, 21, 22, 23, 24, 26, 27, 28, 29, 30, 32, 33, 34, 35, 36, 17, 37, 38, 39] st s1 := fr_ca fr_rf gs1 (sub_1 (List.mem_of_getElem? (i := 0) rfl) (sub_1 (List.mem_of_getElem? (i := 1) rfl) (sub_1 (List.mem_of_getElem? (i := 2) rfl) (sub_1 (List.mem_of_getElem? (i := 3) rfl) (sub_1 (List.mem_of_getElem? (i := 4) rfl) (sub_1 (List.mem_of_getElem? (i := 5) rfl) (sub_1 (List.mem_of_getElem? (i := 6) rfl) (sub_1 (List.mem_of_getElem? (i := 7) rfl) (sub_1 (List.mem_of_getElem? (i := 8) rfl) (sub_1 (List.mem_of_getElem? (i := 9) rfl) (sub_1 (List.mem_of_getElem? (i := 10) rfl) (sub_1 (List.mem_of_getElem? (i := 11) rfl) sub_0))))))))))))
  refine lv_aload_n hx hb dX8_copy_11 rfl (lv_at hl 0 rfl) ?_
  refine va_get (D := D) (ci := 8) (v := .ref (a 31)) (C := RX8) (T := TX8) (N := 6) hx hb hT in_X8 hown hK hP 17 cw_17 rfl 1 (by decide) (hT _ t313) (fun _ h9 => h9) rfl dX8_copy_12 ?_
  refine lv_aload_n hx hb dX8_copy_15 rfl (lv_at hl 1 rfl) ?_
  refine va_get (D := D) (ci := 8) (v := .ref (a 78)) (C := RX8) (T := TX8) (N := 6) hx hb hT in_X8 hown hK hP 64 cw_64 rfl 1 (by decide) (hT _ t313) (fun _ h9 => h9) rfl dX8_copy_16 ?_
  refine ca_v hP hD hS hA (fun hDc => run_V (mc := 0) (ms := 0) (As := [.ref (a 78)]) (rest := []) S (s_X5_copy l D k a s1 sl 31 78  _ (by decide) (by decide) hBs1  ) lkX8_42 ok_X5_copy ⟨rfl, rfl, Nat.le_of_ble_eq_true rfl, Nat.le_of_ble_eq_true rfl⟩ (pw_V (ci := 5) (q0 := 31) hK hN rfl cw_31 hP hDc) rfl hl.1 rfl (Nat.le_of_ble_eq_true rfl) ⟨Nat.zero_le _, Nat.zero_le _⟩ dX8_copy_19) (fun s3 H9 locs9 hs3 hP9 hD9 hS9 => ?_)
  clear hP hD hS
  have hS := hS9
  have hP := hP9
  have hD := hD9
  clear hP9 hD9 hS9
  obtain ⟨hBs3, gs3, fs3⟩ := hs3
  have hFs3 : FR [18, 19, 20, 21, 22, 23, 24, 26, 27, 28, 29, 30, 32, 33, 34, 35, 36, 17, 37, 38, 39] st s3 := fr_ca hFs1 gs3 (sub_1 (List.mem_of_getElem? (i := 12) rfl) (sub_1 (List.mem_of_getElem? (i := 13) rfl) (sub_1 (List.mem_of_getElem? (i := 14) rfl) (sub_1 (List.mem_of_getElem? (i := 15) rfl) (sub_1 (List.mem_of_getElem? (i := 16) rfl) sub_0)))))
  refine lv_aload_n hx hb dX8_copy_22 rfl (lv_at hl 0 rfl) ?_
  refine lv_aload_n hx hb dX8_copy_23 rfl (lv_at hl 1 rfl) ?_
  refine va_get (D := D) (ci := 8) (v := .int (s3 64 2)) (C := RX8) (T := TX8) (N := 6) hx hb hT in_X8 hown hK hP 64 cw_64 rfl 2 (by decide) (hT _ t315) (fun _ h9 => h9) rfl dX8_copy_24 ?_
  refine k_top (y := (st 64 2)) (congrFun (hFs3 64 (nm_1 (by decide) (nm_1 (by decide) (nm_1 (by decide) (nm_1 (by decide) (nm_1 (by decide) (nm_1 (by decide) (nm_1 (by decide) (nm_1 (by decide) (nm_1 (by decide) (nm_1 (by decide) (nm_1 (by decide) (nm_1 (by decide) (nm_1 (by decide) (nm_1 (by decide) (nm_1 (by decide) (nm_1 (by decide) (nm_1 (by decide) (nm_1 (by decide) (nm_1 (by decide) (nm_1 (by decide) (nm_1 (by decide) nm_0)))))))))))))))))))))) 2) ?_
  have h5 : Iv 0 40 (st 64 2) := (rb_64_2 hB)
  refine c_put (ci := 8) (C := RX8) (T := TX8) (N := 6) (j := 2) (v := (st 64 2)) hx hb hT in_X8 tyX8 tyX8_ok nmX8 hown hK hP hD hS cw_17 rfl (by decide) (hT _ t315) (by decide +kernel) (by decide +kernel) rfl rfl (Nat.le_of_ble_eq_true rfl) (cs_17 (upd (s3 17) 2 (st 64 2))) dX8_copy_27 (fun s6 H9 locs9 es6 hP9 hD9 hS9 => ?_)
  clear hP hD hS
  have hS := hS9
  have hP := hP9
  have hD := hD9
  clear hP9 hD9 hS9
  have hBs6 : CB s6 := by rw [es6]; exact cb_sw hBs3 (ki_7_2 (hBs3 17) h5)
  have hFs6 : FR [18, 19, 20, 21, 22, 23, 24, 26, 27, 28, 29, 30, 32, 33, 34, 35, 36, 17, 37, 38, 39] st s6 := fr_sw hFs3 (List.mem_of_getElem? (i := 17) rfl) es6
  refine lv_aload_n hx hb dX8_copy_30 rfl (lv_at hl 1 rfl) ?_
  refine va_get (D := D) (ci := 8) (v := .ref (a 84)) (C := RX8) (T := TX8) (N := 6) hx hb hT in_X8 hown hK hP 64 cw_64 rfl 3 (by decide) (hT _ t317) (fun _ h9 => h9) rfl dX8_copy_31 ?_
  refine lv_iconst (v := 0) hx hb dX8_copy_34 (by decide) ?_
  refine lv_aload_n hx hb dX8_copy_35 rfl (lv_at hl 0 rfl) ?_
  refine va_get (D := D) (ci := 8) (v := .ref (a 37)) (C := RX8) (T := TX8) (N := 6) hx hb hT in_X8 hown hK hP 17 cw_17 rfl 3 (by decide) (hT _ t317) (fun _ h9 => h9) rfl dX8_copy_36 ?_
  refine lv_iconst (v := 0) hx hb dX8_copy_39 (by decide) ?_
  refine lv_bipush (v := 40) hx hb dX8_copy_40 (by decide) ?_
  refine c_cpy hx hb (hml.trans hl.1.symm) hown (hT _ t1218) (hT _ t686) (hT _ t685) (hT _ t121) hK hP hD hS cw_84 cw_37 cs_37 (Nat.le_of_ble_eq_true rfl) (Nat.le_of_ble_eq_true rfl) (by decide) (by decide) (by decide) dX8_copy_42 (fun s7 H9 locs9 fs7 es7 gs7 hP9 hD9 hS9 => ?_)
  clear hP hD hS
  have hS := hS9
  have hP := hP9
  have hD := hD9
  clear hP9 hD9 hS9
  have hBs7 : CB s7 := by rw [es7]; exact cb_sw hBs6 trivial
  have hFs7 : FR [18, 19, 20, 21, 22, 23, 24, 26, 27, 28, 29, 30, 32, 33, 34, 35, 36, 17, 37, 38, 39] st s7 := fr_sw hFs6 (List.mem_of_getElem? (i := 18) rfl) es7
  refine lv_aload_n hx hb dX8_copy_45 rfl (lv_at hl 1 rfl) ?_
  refine va_get (D := D) (ci := 8) (v := .ref (a 85)) (C := RX8) (T := TX8) (N := 6) hx hb hT in_X8 hown hK hP 64 cw_64 rfl 4 (by decide) (hT _ t318) (fun _ h9 => h9) rfl dX8_copy_46 ?_
  refine lv_iconst (v := 0) hx hb dX8_copy_49 (by decide) ?_
  refine lv_aload_n hx hb dX8_copy_50 rfl (lv_at hl 0 rfl) ?_
  refine va_get (D := D) (ci := 8) (v := .ref (a 38)) (C := RX8) (T := TX8) (N := 6) hx hb hT in_X8 hown hK hP 17 cw_17 rfl 4 (by decide) (hT _ t318) (fun _ h9 => h9) rfl dX8_copy_51 ?_
  refine lv_iconst (v := 0) hx hb dX8_copy_54 (by decide) ?_
  refine lv_bipush (v := 40) hx hb dX8_copy_55 (by decide) ?_
  refine c_cpy hx hb (hml.trans hl.1.symm) hown (hT _ t1218) (hT _ t686) (hT _ t685) (hT _ t121) hK hP hD hS cw_85 cw_38 cs_38 (Nat.le_of_ble_eq_true rfl) (Nat.le_of_ble_eq_true rfl) (by decide) (by decide) (by decide) dX8_copy_57 (fun s8 H9 locs9 fs8 es8 gs8 hP9 hD9 hS9 => ?_)
  clear hP hD hS
  have hS := hS9
  have hP := hP9
  have hD := hD9
  clear hP9 hD9 hS9
  have hBs8 : CB s8 := by rw [es8]; exact cb_sw hBs7 trivial
  have hFs8 : FR [18, 19, 20, 21, 22, 23, 24, 26, 27, 28, 29, 30, 32, 33, 34, 35, 36, 17, 37, 38, 39] st s8 := fr_sw hFs7 (List.mem_of_getElem? (i := 19) rfl) es8
  refine lv_aload_n hx hb dX8_copy_60 rfl (lv_at hl 1 rfl) ?_
  refine va_get (D := D) (ci := 8) (v := .ref (a 86)) (C := RX8) (T := TX8) (N := 6) hx hb hT in_X8 hown hK hP 64 cw_64 rfl 5 (by decide) (hT _ t319) (fun _ h9 => h9) rfl dX8_copy_61 ?_
  refine lv_iconst (v := 0) hx hb dX8_copy_64 (by decide) ?_
  refine lv_aload_n hx hb dX8_copy_65 rfl (lv_at hl 0 rfl) ?_
  refine va_get (D := D) (ci := 8) (v := .ref (a 39)) (C := RX8) (T := TX8) (N := 6) hx hb hT in_X8 hown hK hP 17 cw_17 rfl 5 (by decide) (hT _ t319) (fun _ h9 => h9) rfl dX8_copy_66 ?_
  refine lv_iconst (v := 0) hx hb dX8_copy_69 (by decide) ?_
  refine lv_bipush (v := 40) hx hb dX8_copy_70 (by decide) ?_
  refine c_cpy hx hb (hml.trans hl.1.symm) hown (hT _ t1218) (hT _ t686) (hT _ t685) (hT _ t121) hK hP hD hS cw_86 cw_39 cs_39 (Nat.le_of_ble_eq_true rfl) (Nat.le_of_ble_eq_true rfl) (by decide) (by decide) (by decide) dX8_copy_72 (fun s9 H9 locs9 fs9 es9 gs9 hP9 hD9 hS9 => ?_)
  clear hP hD hS
  have hS := hS9
  have hP := hP9
  have hD := hD9
  clear hP9 hD9 hS9
  have hBs9 : CB s9 := by rw [es9]; exact cb_sw hBs8 trivial
  have hFs9 : FR [18, 19, 20, 21, 22, 23, 24, 26, 27, 28, 29, 30, 32, 33, 34, 35, 36, 17, 37, 38, 39] st s9 := fr_sw hFs8 (List.mem_of_getElem? (i := 20) rfl) es9
  rw [hQ]
  exact W.vret hx hb hr (fun t ht hW => ⟨⟨s9, rfl, ⟨hBs9, hFs9, (wi_copy hX h5 (Eq.trans (congrFun (sw_at es9 (by decide)) 2) (Eq.trans (congrFun (sw_at es8 (by decide)) 2) (Eq.trans (congrFun (sw_at es7 (by decide)) 2) (congrFun (sw_it es6) 2)))) (fun j9 h9 => Eq.trans (congrFun (Eq.trans (sw_at es9 (by decide)) (Eq.trans (sw_at es8 (by decide)) (sw_it es7))) j9) (Eq.trans (gs7 j9 h9) (congrFun (hFs6 84 (nm_1 (by decide) (nm_1 (by decide) (nm_1 (by decide) (nm_1 (by decide) (nm_1 (by decide) (nm_1 (by decide) (nm_1 (by decide) (nm_1 (by decide) (nm_1 (by decide) (nm_1 (by decide) (nm_1 (by decide) (nm_1 (by decide) (nm_1 (by decide) (nm_1 (by decide) (nm_1 (by decide) (nm_1 (by decide) (nm_1 (by decide) (nm_1 (by decide) (nm_1 (by decide) (nm_1 (by decide) (nm_1 (by decide) nm_0)))))))))))))))))))))) j9))) (fun j9 h9 => Eq.trans (congrFun (Eq.trans (sw_at es9 (by decide)) (sw_it es8)) j9) (Eq.trans (gs8 j9 h9) (congrFun (hFs7 85 (nm_1 (by decide) (nm_1 (by decide) (nm_1 (by decide) (nm_1 (by decide) (nm_1 (by decide) (nm_1 (by decide) (nm_1 (by decide) (nm_1 (by decide) (nm_1 (by decide) (nm_1 (by decide) (nm_1 (by decide) (nm_1 (by decide) (nm_1 (by decide) (nm_1 (by decide) (nm_1 (by decide) (nm_1 (by decide) (nm_1 (by decide) (nm_1 (by decide) (nm_1 (by decide) (nm_1 (by decide) (nm_1 (by decide) nm_0)))))))))))))))))))))) j9))) (fun j9 h9 => Eq.trans (congrFun (sw_it es9) j9) (Eq.trans (gs9 j9 h9) (congrFun (hFs8 86 (nm_1 (by decide) (nm_1 (by decide) (nm_1 (by decide) (nm_1 (by decide) (nm_1 (by decide) (nm_1 (by decide) (nm_1 (by decide) (nm_1 (by decide) (nm_1 (by decide) (nm_1 (by decide) (nm_1 (by decide) (nm_1 (by decide) (nm_1 (by decide) (nm_1 (by decide) (nm_1 (by decide) (nm_1 (by decide) (nm_1 (by decide) (nm_1 (by decide) (nm_1 (by decide) (nm_1 (by decide) (nm_1 (by decide) nm_0)))))))))))))))))))))) j9))))⟩, by rw [ht]; exact hP, va_K.moved hW.alike (hK.sub (tys' := []) [] rfl), by rw [hAe]; exact hD⟩, by rw [hAe]; exact hS.F ht⟩) hS.2.2 dX8_copy_75
set_option maxHeartbeats 4000000 in
set_option maxRecDepth 100000 in
theorem s_X8_copy_87_17 (l : Launch) (D : va_G) (k : Nat → ClassId) (a : Nat → Nat) (st : CT) (sl : CL) (sz : Nat) (hB : CB st)  (hX : WI st 17) : Met l yX8_copy (.code yX8_copy cX8_copy 2 none :: TB) (rmw 3 0 0) (va_Pc [.ref (a 87), .ref (a 17)] (PW D k sz (CWS k a st sl))) (QV D (S := CT) (fun u => CB u ∧ FR [88, 89, 90, 91, 92, 93, 94, 96, 97, 98, 99, 100, 102, 103, 104, 105, 106, 87, 107, 108, 109] st u ∧ (WI u 87)) (fun u => CWS k a u sl) (fun _ => []) (CWS k a st sl) sz) 0 0 (va_A (CWS k a st sl) sz) := by
  refine Met.ofW (cc := cX8_copy) (maxL := 2) (ret := none) (by decide) rfl ?_
  intro p e s m args below meth c s₁ B hml hv
  obtain ⟨rfl, hsz, hP, hK, hD0, hN⟩ := hv
  have hx := B.exec
  have hb := B.bytes
  have hr := B.returns
  have hT : ∀ w9 ∈ TB, w9.before ([.ref (a 87), .ref (a 17)] : List Value).toArray s = true := fun w9 h => atoms_spec (ws := .code yX8_copy cX8_copy 2 none :: TB) B.pre w9 (List.mem_cons_of_mem _ h)
  have hown : s.vm.findClass RX8 = some m.cls := findClass_of_methodNamed B.named
  have S : CallFix p m c cX8_copy 2 s _ TB RX8 := ⟨hx, hb, hml, hown, hT⟩
  subst hsz
  have hD := hD0.self (sz := s.heap.size)
  generalize hAe : va_A (CWS k a st sl) s.heap.size = A at hD ⊢
  have hA : ∀ q : Nat, s.heap.size ≤ q → A q := fun q h => by rw [← hAe]; exact Or.inr h
  have hS : va_S A s.heap s.heap [] := va_S.rf
  have hl := lv_entry ([.ref (a 87), .ref (a 17)]) (n := 2) (Nat.le_of_ble_eq_true rfl)
  rw [lg_entry_eq]
  generalize (lg_sl ([.ref (a 87), .ref (a 17)]) ++ List.replicate (2 - (lg_sl ([.ref (a 87), .ref (a 17)])).length) Slot.unset).toArray = ls at hl ⊢
  have hl : lv_has ls 2 [(0, .ref (a 87)), (1, .ref (a 17))] := hl
  refine nameQ (fun Q hQ => ?_)
  refine lv_aload_n hx hb dX8_copy_0 rfl (lv_at hl 0 rfl) ?_
  refine va_get (D := D) (ci := 8) (v := .ref (a 88)) (C := RX8) (T := TX8) (N := 6) hx hb hT in_X8 hown hK hP 87 cw_87 rfl 0 (by decide) (hT _ t311) (fun _ h9 => h9) rfl dX8_copy_1 ?_
  refine lv_aload_n hx hb dX8_copy_4 rfl (lv_at hl 1 rfl) ?_
  refine va_get (D := D) (ci := 8) (v := .ref (a 18)) (C := RX8) (T := TX8) (N := 6) hx hb hT in_X8 hown hK hP 17 cw_17 rfl 0 (by decide) (hT _ t311) (fun _ h9 => h9) rfl dX8_copy_5 ?_
  refine ca_v hP hD hS hA (fun hDc => run_V (mc := 0) (ms := 0) (As := [.ref (a 18)]) (rest := []) S (s_X1_copy_3 l D k a st sl   _  hB  ) lkX8_35 ok_X1_copy ⟨rfl, rfl, Nat.le_of_ble_eq_true rfl, Nat.le_of_ble_eq_true rfl⟩ (pw_V (ci := 1) (q0 := 88) hK hN rfl cw_88 hP hDc) rfl hl.1 rfl (Nat.le_of_ble_eq_true rfl) ⟨Nat.zero_le _, Nat.zero_le _⟩ dX8_copy_8) (fun s1 H9 locs9 hs1 hP9 hD9 hS9 => ?_)
  clear hP hD hS
  have hS := hS9
  have hP := hP9
  have hD := hD9
  clear hP9 hD9 hS9
  obtain ⟨hBs1, gs1, fs1⟩ := hs1
  have hFs1 : FR [88, 89, 90, 91, 92, 93, 94, 96, 97, 98, 99, 100, 102, 103, 104, 105, 106, 87, 107, 108, 109] st s1 := fr_ca fr_rf gs1 (sub_1 (List.mem_of_getElem? (i := 0) rfl) (sub_1 (List.mem_of_getElem? (i := 1) rfl) (sub_1 (List.mem_of_getElem? (i := 2) rfl) (sub_1 (List.mem_of_getElem? (i := 3) rfl) (sub_1 (List.mem_of_getElem? (i := 4) rfl) (sub_1 (List.mem_of_getElem? (i := 5) rfl) (sub_1 (List.mem_of_getElem? (i := 6) rfl) (sub_1 (List.mem_of_getElem? (i := 7) rfl) (sub_1 (List.mem_of_getElem? (i := 8) rfl) (sub_1 (List.mem_of_getElem? (i := 9) rfl) (sub_1 (List.mem_of_getElem? (i := 10) rfl) (sub_1 (List.mem_of_getElem? (i := 11) rfl) sub_0))))))))))))
  refine lv_aload_n hx hb dX8_copy_11 rfl (lv_at hl 0 rfl) ?_
  refine va_get (D := D) (ci := 8) (v := .ref (a 101)) (C := RX8) (T := TX8) (N := 6) hx hb hT in_X8 hown hK hP 87 cw_87 rfl 1 (by decide) (hT _ t313) (fun _ h9 => h9) rfl dX8_copy_12 ?_
  refine lv_aload_n hx hb dX8_copy_15 rfl (lv_at hl 1 rfl) ?_
  refine va_get (D := D) (ci := 8) (v := .ref (a 31)) (C := RX8) (T := TX8) (N := 6) hx hb hT in_X8 hown hK hP 17 cw_17 rfl 1 (by decide) (hT _ t313) (fun _ h9 => h9) rfl dX8_copy_16 ?_
  refine ca_v hP hD hS hA (fun hDc => run_V (mc := 0) (ms := 0) (As := [.ref (a 31)]) (rest := []) S (s_X5_copy l D k a s1 sl 101 31  _ (by decide) (by decide) hBs1  ) lkX8_42 ok_X5_copy ⟨rfl, rfl, Nat.le_of_ble_eq_true rfl, Nat.le_of_ble_eq_true rfl⟩ (pw_V (ci := 5) (q0 := 101) hK hN rfl cw_101 hP hDc) rfl hl.1 rfl (Nat.le_of_ble_eq_true rfl) ⟨Nat.zero_le _, Nat.zero_le _⟩ dX8_copy_19) (fun s3 H9 locs9 hs3 hP9 hD9 hS9 => ?_)
  clear hP hD hS
  have hS := hS9
  have hP := hP9
  have hD := hD9
  clear hP9 hD9 hS9
  obtain ⟨hBs3, gs3, fs3⟩ := hs3
  have hFs3 : FR [88, 89, 90, 91, 92, 93, 94, 96, 97, 98, 99, 100, 102, 103, 104, 105, 106, 87, 107, 108, 109] st s3 := fr_ca hFs1 gs3 (sub_1 (List.mem_of_getElem? (i := 12) rfl) (sub_1 (List.mem_of_getElem? (i := 13) rfl) (sub_1 (List.mem_of_getElem? (i := 14) rfl) (sub_1 (List.mem_of_getElem? (i := 15) rfl) (sub_1 (List.mem_of_getElem? (i := 16) rfl) sub_0)))))
  refine lv_aload_n hx hb dX8_copy_22 rfl (lv_at hl 0 rfl) ?_
  refine lv_aload_n hx hb dX8_copy_23 rfl (lv_at hl 1 rfl) ?_
  refine va_get (D := D) (ci := 8) (v := .int (s3 17 2)) (C := RX8) (T := TX8) (N := 6) hx hb hT in_X8 hown hK hP 17 cw_17 rfl 2 (by decide) (hT _ t315) (fun _ h9 => h9) rfl dX8_copy_24 ?_
  refine k_top (y := (st 17 2)) (congrFun (hFs3 17 (nm_1 (by decide) (nm_1 (by decide) (nm_1 (by decide) (nm_1 (by decide) (nm_1 (by decide) (nm_1 (by decide) (nm_1 (by decide) (nm_1 (by decide) (nm_1 (by decide) (nm_1 (by decide) (nm_1 (by decide) (nm_1 (by decide) (nm_1 (by decide) (nm_1 (by decide) (nm_1 (by decide) (nm_1 (by decide) (nm_1 (by decide) (nm_1 (by decide) (nm_1 (by decide) (nm_1 (by decide) (nm_1 (by decide) nm_0)))))))))))))))))))))) 2) ?_
  have h5 : Iv 0 40 (st 17 2) := (rb_17_2 hB)
  refine c_put (ci := 8) (C := RX8) (T := TX8) (N := 6) (j := 2) (v := (st 17 2)) hx hb hT in_X8 tyX8 tyX8_ok nmX8 hown hK hP hD hS cw_87 rfl (by decide) (hT _ t315) (by decide +kernel) (by decide +kernel) rfl rfl (Nat.le_of_ble_eq_true rfl) (cs_87 (upd (s3 87) 2 (st 17 2))) dX8_copy_27 (fun s6 H9 locs9 es6 hP9 hD9 hS9 => ?_)
  clear hP hD hS
  have hS := hS9
  have hP := hP9
  have hD := hD9
  clear hP9 hD9 hS9
  have hBs6 : CB s6 := by rw [es6]; exact cb_sw hBs3 (ki_7_2 (hBs3 87) h5)
  have hFs6 : FR [88, 89, 90, 91, 92, 93, 94, 96, 97, 98, 99, 100, 102, 103, 104, 105, 106, 87, 107, 108, 109] st s6 := fr_sw hFs3 (List.mem_of_getElem? (i := 17) rfl) es6
  refine lv_aload_n hx hb dX8_copy_30 rfl (lv_at hl 1 rfl) ?_
  refine va_get (D := D) (ci := 8) (v := .ref (a 37)) (C := RX8) (T := TX8) (N := 6) hx hb hT in_X8 hown hK hP 17 cw_17 rfl 3 (by decide) (hT _ t317) (fun _ h9 => h9) rfl dX8_copy_31 ?_
  refine lv_iconst (v := 0) hx hb dX8_copy_34 (by decide) ?_
  refine lv_aload_n hx hb dX8_copy_35 rfl (lv_at hl 0 rfl) ?_
  refine va_get (D := D) (ci := 8) (v := .ref (a 107)) (C := RX8) (T := TX8) (N := 6) hx hb hT in_X8 hown hK hP 87 cw_87 rfl 3 (by decide) (hT _ t317) (fun _ h9 => h9) rfl dX8_copy_36 ?_
  refine lv_iconst (v := 0) hx hb dX8_copy_39 (by decide) ?_
  refine lv_bipush (v := 40) hx hb dX8_copy_40 (by decide) ?_
  refine c_cpy hx hb (hml.trans hl.1.symm) hown (hT _ t1218) (hT _ t686) (hT _ t685) (hT _ t121) hK hP hD hS cw_37 cw_107 cs_107 (Nat.le_of_ble_eq_true rfl) (Nat.le_of_ble_eq_true rfl) (by decide) (by decide) (by decide) dX8_copy_42 (fun s7 H9 locs9 fs7 es7 gs7 hP9 hD9 hS9 => ?_)
  clear hP hD hS
  have hS := hS9
  have hP := hP9
  have hD := hD9
  clear hP9 hD9 hS9
  have hBs7 : CB s7 := by rw [es7]; exact cb_sw hBs6 trivial
  have hFs7 : FR [88, 89, 90, 91, 92, 93, 94, 96, 97, 98, 99, 100, 102, 103, 104, 105, 106, 87, 107, 108, 109] st s7 := fr_sw hFs6 (List.mem_of_getElem? (i := 18) rfl) es7
  refine lv_aload_n hx hb dX8_copy_45 rfl (lv_at hl 1 rfl) ?_
  refine va_get (D := D) (ci := 8) (v := .ref (a 38)) (C := RX8) (T := TX8) (N := 6) hx hb hT in_X8 hown hK hP 17 cw_17 rfl 4 (by decide) (hT _ t318) (fun _ h9 => h9) rfl dX8_copy_46 ?_
  refine lv_iconst (v := 0) hx hb dX8_copy_49 (by decide) ?_
  refine lv_aload_n hx hb dX8_copy_50 rfl (lv_at hl 0 rfl) ?_
  refine va_get (D := D) (ci := 8) (v := .ref (a 108)) (C := RX8) (T := TX8) (N := 6) hx hb hT in_X8 hown hK hP 87 cw_87 rfl 4 (by decide) (hT _ t318) (fun _ h9 => h9) rfl dX8_copy_51 ?_
  refine lv_iconst (v := 0) hx hb dX8_copy_54 (by decide) ?_
  refine lv_bipush (v := 40) hx hb dX8_copy_55 (by decide) ?_
  refine c_cpy hx hb (hml.trans hl.1.symm) hown (hT _ t1218) (hT _ t686) (hT _ t685) (hT _ t121) hK hP hD hS cw_38 cw_108 cs_108 (Nat.le_of_ble_eq_true rfl) (Nat.le_of_ble_eq_true rfl) (by decide) (by decide) (by decide) dX8_copy_57 (fun s8 H9 locs9 fs8 es8 gs8 hP9 hD9 hS9 => ?_)
  clear hP hD hS
  have hS := hS9
  have hP := hP9
  have hD := hD9
  clear hP9 hD9 hS9
  have hBs8 : CB s8 := by rw [es8]; exact cb_sw hBs7 trivial
  have hFs8 : FR [88, 89, 90, 91, 92, 93, 94, 96, 97, 98, 99, 100, 102, 103, 104, 105, 106, 87, 107, 108, 109] st s8 := fr_sw hFs7 (List.mem_of_getElem? (i := 19) rfl) es8
  refine lv_aload_n hx hb dX8_copy_60 rfl (lv_at hl 1 rfl) ?_
  refine va_get (D := D) (ci := 8) (v := .ref (a 39)) (C := RX8) (T := TX8) (N := 6) hx hb hT in_X8 hown hK hP 17 cw_17 rfl 5 (by decide) (hT _ t319) (fun _ h9 => h9) rfl dX8_copy_61 ?_
  refine lv_iconst (v := 0) hx hb dX8_copy_64 (by decide) ?_
  refine lv_aload_n hx hb dX8_copy_65 rfl (lv_at hl 0 rfl) ?_
  refine va_get (D := D) (ci := 8) (v := .ref (a 109)) (C := RX8) (T := TX8) (N := 6) hx hb hT in_X8 hown hK hP 87 cw_87 rfl 5 (by decide) (hT _ t319) (fun _ h9 => h9) rfl dX8_copy_66 ?_
  refine lv_iconst (v := 0) hx hb dX8_copy_69 (by decide) ?_
  refine lv_bipush (v := 40) hx hb dX8_copy_70 (by decide) ?_
  refine c_cpy hx hb (hml.trans hl.1.symm) hown (hT _ t1218) (hT _ t686) (hT _ t685) (hT _ t121) hK hP hD hS cw_39 cw_109 cs_109 (Nat.le_of_ble_eq_true rfl) (Nat.le_of_ble_eq_true rfl) (by decide) (by decide) (by decide) dX8_copy_72 (fun s9 H9 locs9 fs9 es9 gs9 hP9 hD9 hS9 => ?_)
  clear hP hD hS
  have hS := hS9
  have hP := hP9
  have hD := hD9
  clear hP9 hD9 hS9
  have hBs9 : CB s9 := by rw [es9]; exact cb_sw hBs8 trivial
  have hFs9 : FR [88, 89, 90, 91, 92, 93, 94, 96, 97, 98, 99, 100, 102, 103, 104, 105, 106, 87, 107, 108, 109] st s9 := fr_sw hFs8 (List.mem_of_getElem? (i := 20) rfl) es9
  rw [hQ]
  exact W.vret hx hb hr (fun t ht hW => ⟨⟨s9, rfl, ⟨hBs9, hFs9, (wi_copy hX h5 (Eq.trans (congrFun (sw_at es9 (by decide)) 2) (Eq.trans (congrFun (sw_at es8 (by decide)) 2) (Eq.trans (congrFun (sw_at es7 (by decide)) 2) (congrFun (sw_it es6) 2)))) (fun j9 h9 => Eq.trans (congrFun (Eq.trans (sw_at es9 (by decide)) (Eq.trans (sw_at es8 (by decide)) (sw_it es7))) j9) (Eq.trans (gs7 j9 h9) (congrFun (hFs6 37 (nm_1 (by decide) (nm_1 (by decide) (nm_1 (by decide) (nm_1 (by decide) (nm_1 (by decide) (nm_1 (by decide) (nm_1 (by decide) (nm_1 (by decide) (nm_1 (by decide) (nm_1 (by decide) (nm_1 (by decide) (nm_1 (by decide) (nm_1 (by decide) (nm_1 (by decide) (nm_1 (by decide) (nm_1 (by decide) (nm_1 (by decide) (nm_1 (by decide) (nm_1 (by decide) (nm_1 (by decide) (nm_1 (by decide) nm_0)))))))))))))))))))))) j9))) (fun j9 h9 => Eq.trans (congrFun (Eq.trans (sw_at es9 (by decide)) (sw_it es8)) j9) (Eq.trans (gs8 j9 h9) (congrFun (hFs7 38 (nm_1 (by decide) (nm_1 (by decide) (nm_1 (by decide) (nm_1 (by decide) (nm_1 (by decide) (nm_1 (by decide) (nm_1 (by decide) (nm_1 (by decide) (nm_1 (by decide) (nm_1 (by decide) (nm_1 (by decide) (nm_1 (by decide) (nm_1 (by decide) (nm_1 (by decide) (nm_1 (by decide) (nm_1 (by decide) (nm_1 (by decide) (nm_1 (by decide) (nm_1 (by decide) (nm_1 (by decide) (nm_1 (by decide) nm_0)))))))))))))))))))))) j9))) (fun j9 h9 => Eq.trans (congrFun (sw_it es9) j9) (Eq.trans (gs9 j9 h9) (congrFun (hFs8 39 (nm_1 (by decide) (nm_1 (by decide) (nm_1 (by decide) (nm_1 (by decide) (nm_1 (by decide) (nm_1 (by decide) (nm_1 (by decide) (nm_1 (by decide) (nm_1 (by decide) (nm_1 (by decide) (nm_1 (by decide) (nm_1 (by decide) (nm_1 (by decide) (nm_1 (by decide) (nm_1 (by decide) (nm_1 (by decide) (nm_1 (by decide) (nm_1 (by decide) (nm_1 (by decide) (nm_1 (by decide) (nm_1 (by decide) nm_0)))))))))))))))))))))) j9))))⟩, by rw [ht]; exact hP, va_K.moved hW.alike (hK.sub (tys' := []) [] rfl), by rw [hAe]; exact hD⟩, by rw [hAe]; exact hS.F ht⟩) hS.2.2 dX8_copy_75
set_option maxHeartbeats 4000000 in
set_option maxRecDepth 100000 in
theorem s_X8_copy_17_87 (l : Launch) (D : va_G) (k : Nat → ClassId) (a : Nat → Nat) (st : CT) (sl : CL) (sz : Nat) (hB : CB st)  (hX : WI st 87) : Met l yX8_copy (.code yX8_copy cX8_copy 2 none :: TB) (rmw 3 0 0) (va_Pc [.ref (a 17), .ref (a 87)] (PW D k sz (CWS k a st sl))) (QV D (S := CT) (fun u => CB u ∧ FR [18, 19, 20, 21, 22, 23, 24, 26, 27, 28, 29, 30, 32, 33, 34, 35, 36, 17, 37, 38, 39] st u ∧ (WI u 17)) (fun u => CWS k a u sl) (fun _ => []) (CWS k a st sl) sz) 0 0 (va_A (CWS k a st sl) sz) := by
  refine Met.ofW (cc := cX8_copy) (maxL := 2) (ret := none) (by decide) rfl ?_
  intro p e s m args below meth c s₁ B hml hv
  obtain ⟨rfl, hsz, hP, hK, hD0, hN⟩ := hv
  have hx := B.exec
  have hb := B.bytes
  have hr := B.returns
  have hT : ∀ w9 ∈ TB, w9.before ([.ref (a 17), .ref (a 87)] : List Value).toArray s = true := fun w9 h => atoms_spec (ws := .code yX8_copy cX8_copy 2 none :: TB) B.pre w9 (List.mem_cons_of_mem _ h)
  have hown : s.vm.findClass RX8 = some m.cls := findClass_of_methodNamed B.named
  have S : CallFix p m c cX8_copy 2 s _ TB RX8 := ⟨hx, hb, hml, hown, hT⟩
  subst hsz
  have hD := hD0.self (sz := s.heap.size)
  generalize hAe : va_A (CWS k a st sl) s.heap.size = A at hD ⊢
  have hA : ∀ q : Nat, s.heap.size ≤ q → A q := fun q h => by rw [← hAe]; exact Or.inr h
  have hS : va_S A s.heap s.heap [] := va_S.rf
  have hl := lv_entry ([.ref (a 17), .ref (a 87)]) (n := 2) (Nat.le_of_ble_eq_true rfl)
  rw [lg_entry_eq]
  generalize (lg_sl ([.ref (a 17), .ref (a 87)]) ++ List.replicate (2 - (lg_sl ([.ref (a 17), .ref (a 87)])).length) Slot.unset).toArray = ls at hl ⊢
  have hl : lv_has ls 2 [(0, .ref (a 17)), (1, .ref (a 87))] := hl
  refine nameQ (fun Q hQ => ?_)
  refine lv_aload_n hx hb dX8_copy_0 rfl (lv_at hl 0 rfl) ?_
  refine va_get (D := D) (ci := 8) (v := .ref (a 18)) (C := RX8) (T := TX8) (N := 6) hx hb hT in_X8 hown hK hP 17 cw_17 rfl 0 (by decide) (hT _ t311) (fun _ h9 => h9) rfl dX8_copy_1 ?_
  refine lv_aload_n hx hb dX8_copy_4 rfl (lv_at hl 1 rfl) ?_
  refine va_get (D := D) (ci := 8) (v := .ref (a 88)) (C := RX8) (T := TX8) (N := 6) hx hb hT in_X8 hown hK hP 87 cw_87 rfl 0 (by decide) (hT _ t311) (fun _ h9 => h9) rfl dX8_copy_5 ?_
  refine ca_v hP hD hS hA (fun hDc => run_V (mc := 0) (ms := 0) (As := [.ref (a 88)]) (rest := []) S (s_X1_copy_6 l D k a st sl   _  hB  ) lkX8_35 ok_X1_copy ⟨rfl, rfl, Nat.le_of_ble_eq_true rfl, Nat.le_of_ble_eq_true rfl⟩ (pw_V (ci := 1) (q0 := 18) hK hN rfl cw_18 hP hDc) rfl hl.1 rfl (Nat.le_of_ble_eq_true rfl) ⟨Nat.zero_le _, Nat.zero_le _⟩ dX8_copy_8) (fun s1 H9 locs9 hs1 hP9 hD9 hS9 => ?_)
  clear hP hD hS
  have hS := hS9
  have hP := hP9
  have hD := hD9
  clear hP9 hD9 hS9
  obtain ⟨hBs1, gs1, fs1⟩ := hs1
  have hFs1 : FR [18, 19, 20, 21, 22, 23, 24, 26, 27, 28, 29, 30, 32, 33, 34, 35, 36, 17, 37, 38, 39] st s1 := fr_ca fr_rf gs1 (sub_1 (List.mem_of_getElem? (i := 0) rfl) (sub_1 (List.mem_of_getElem? (i := 1) rfl) (sub_1 (List.mem_of_getElem? (i := 2) rfl) (sub_1 (List.mem_of_getElem? (i := 3) rfl) (sub_1 (List.mem_of_getElem? (i := 4) rfl) (sub_1 (List.mem_of_getElem? (i := 5) rfl) (sub_1 (List.mem_of_getElem? (i := 6) rfl) (sub_1 (List.mem_of_getElem? (i := 7) rfl) (sub_1 (List.mem_of_getElem? (i := 8) rfl) (sub_1 (List.mem_of_getElem? (i := 9) rfl) (sub_1 (List.mem_of_getElem? (i := 10) rfl) (sub_1 (List.mem_of_getElem? (i := 11) rfl) sub_0))))))))))))
  refine lv_aload_n hx hb dX8_copy_11 rfl (lv_at hl 0 rfl) ?_
  refine va_get (D := D) (ci := 8) (v := .ref (a 31)) (C := RX8) (T := TX8) (N := 6) hx hb hT in_X8 hown hK hP 17 cw_17 rfl 1 (by decide) (hT _ t313) (fun _ h9 => h9) rfl dX8_copy_12 ?_
  refine lv_aload_n hx hb dX8_copy_15 rfl (lv_at hl 1 rfl) ?_
  refine va_get (D := D) (ci := 8) (v := .ref (a 101)) (C := RX8) (T := TX8) (N := 6) hx hb hT in_X8 hown hK hP 87 cw_87 rfl 1 (by decide) (hT _ t313) (fun _ h9 => h9) rfl dX8_copy_16 ?_
  refine ca_v hP hD hS hA (fun hDc => run_V (mc := 0) (ms := 0) (As := [.ref (a 101)]) (rest := []) S (s_X5_copy l D k a s1 sl 31 101  _ (by decide) (by decide) hBs1  ) lkX8_42 ok_X5_copy ⟨rfl, rfl, Nat.le_of_ble_eq_true rfl, Nat.le_of_ble_eq_true rfl⟩ (pw_V (ci := 5) (q0 := 31) hK hN rfl cw_31 hP hDc) rfl hl.1 rfl (Nat.le_of_ble_eq_true rfl) ⟨Nat.zero_le _, Nat.zero_le _⟩ dX8_copy_19) (fun s3 H9 locs9 hs3 hP9 hD9 hS9 => ?_)
  clear hP hD hS
  have hS := hS9
  have hP := hP9
  have hD := hD9
  clear hP9 hD9 hS9
  obtain ⟨hBs3, gs3, fs3⟩ := hs3
  have hFs3 : FR [18, 19, 20, 21, 22, 23, 24, 26, 27, 28, 29, 30, 32, 33, 34, 35, 36, 17, 37, 38, 39] st s3 := fr_ca hFs1 gs3 (sub_1 (List.mem_of_getElem? (i := 12) rfl) (sub_1 (List.mem_of_getElem? (i := 13) rfl) (sub_1 (List.mem_of_getElem? (i := 14) rfl) (sub_1 (List.mem_of_getElem? (i := 15) rfl) (sub_1 (List.mem_of_getElem? (i := 16) rfl) sub_0)))))
  refine lv_aload_n hx hb dX8_copy_22 rfl (lv_at hl 0 rfl) ?_
  refine lv_aload_n hx hb dX8_copy_23 rfl (lv_at hl 1 rfl) ?_
  refine va_get (D := D) (ci := 8) (v := .int (s3 87 2)) (C := RX8) (T := TX8) (N := 6) hx hb hT in_X8 hown hK hP 87 cw_87 rfl 2 (by decide) (hT _ t315) (fun _ h9 => h9) rfl dX8_copy_24 ?_
  refine k_top (y := (st 87 2)) (congrFun (hFs3 87 (nm_1 (by decide) (nm_1 (by decide) (nm_1 (by decide) (nm_1 (by decide) (nm_1 (by decide) (nm_1 (by decide) (nm_1 (by decide) (nm_1 (by decide) (nm_1 (by decide) (nm_1 (by decide) (nm_1 (by decide) (nm_1 (by decide) (nm_1 (by decide) (nm_1 (by decide) (nm_1 (by decide) (nm_1 (by decide) (nm_1 (by decide) (nm_1 (by decide) (nm_1 (by decide) (nm_1 (by decide) (nm_1 (by decide) nm_0)))))))))))))))))))))) 2) ?_
  have h5 : Iv 0 40 (st 87 2) := (rb_87_2 hB)
  refine c_put (ci := 8) (C := RX8) (T := TX8) (N := 6) (j := 2) (v := (st 87 2)) hx hb hT in_X8 tyX8 tyX8_ok nmX8 hown hK hP hD hS cw_17 rfl (by decide) (hT _ t315) (by decide +kernel) (by decide +kernel) rfl rfl (Nat.le_of_ble_eq_true rfl) (cs_17 (upd (s3 17) 2 (st 87 2))) dX8_copy_27 (fun s6 H9 locs9 es6 hP9 hD9 hS9 => ?_)
  clear hP hD hS
  have hS := hS9
  have hP := hP9
  have hD := hD9
  clear hP9 hD9 hS9
  have hBs6 : CB s6 := by rw [es6]; exact cb_sw hBs3 (ki_7_2 (hBs3 17) h5)
  have hFs6 : FR [18, 19, 20, 21, 22, 23, 24, 26, 27, 28, 29, 30, 32, 33, 34, 35, 36, 17, 37, 38, 39] st s6 := fr_sw hFs3 (List.mem_of_getElem? (i := 17) rfl) es6
  refine lv_aload_n hx hb dX8_copy_30 rfl (lv_at hl 1 rfl) ?_
  refine va_get (D := D) (ci := 8) (v := .ref (a 107)) (C := RX8) (T := TX8) (N := 6) hx hb hT in_X8 hown hK hP 87 cw_87 rfl 3 (by decide) (hT _ t317) (fun _ h9 => h9) rfl dX8_copy_31 ?_
  refine lv_iconst (v := 0) hx hb dX8_copy_34 (by decide) ?_
  refine lv_aload_n hx hb dX8_copy_35 rfl (lv_at hl 0 rfl) ?_
  refine va_get (D := D) (ci := 8) (v := .ref (a 37)) (C := RX8) (T := TX8) (N := 6) hx hb hT in_X8 hown hK hP 17 cw_17 rfl 3 (by decide) (hT _ t317) (fun _ h9 => h9) rfl dX8_copy_36 ?_
  refine lv_iconst (v := 0) hx hb dX8_copy_39 (by decide) ?_
  refine lv_bipush (v := 40) hx hb dX8_copy_40 (by decide) ?_
  refine c_cpy hx hb (hml.trans hl.1.symm) hown (hT _ t1218) (hT _ t686) (hT _ t685) (hT _ t121) hK hP hD hS cw_107 cw_37 cs_37 (Nat.le_of_ble_eq_true rfl) (Nat.le_of_ble_eq_true rfl) (by decide) (by decide) (by decide) dX8_copy_42 (fun s7 H9 locs9 fs7 es7 gs7 hP9 hD9 hS9 => ?_)
  clear hP hD hS
  have hS := hS9
  have hP := hP9
  have hD := hD9
  clear hP9 hD9 hS9
  have hBs7 : CB s7 := by rw [es7]; exact cb_sw hBs6 trivial
  have hFs7 : FR [18, 19, 20, 21, 22, 23, 24, 26, 27, 28, 29, 30, 32, 33, 34, 35, 36, 17, 37, 38, 39] st s7 := fr_sw hFs6 (List.mem_of_getElem? (i := 18) rfl) es7
  refine lv_aload_n hx hb dX8_copy_45 rfl (lv_at hl 1 rfl) ?_
  refine va_get (D := D) (ci := 8) (v := .ref (a 108)) (C := RX8) (T := TX8) (N := 6) hx hb hT in_X8 hown hK hP 87 cw_87 rfl 4 (by decide) (hT _ t318) (fun _ h9 => h9) rfl dX8_copy_46 ?_
  refine lv_iconst (v := 0) hx hb dX8_copy_49 (by decide) ?_
  refine lv_aload_n hx hb dX8_copy_50 rfl (lv_at hl 0 rfl) ?_
  refine va_get (D := D) (ci := 8) (v := .ref (a 38)) (C := RX8) (T := TX8) (N := 6) hx hb hT in_X8 hown hK hP 17 cw_17 rfl 4 (by decide) (hT _ t318) (fun _ h9 => h9) rfl dX8_copy_51 ?_
  refine lv_iconst (v := 0) hx hb dX8_copy_54 (by decide) ?_
  refine lv_bipush (v := 40) hx hb dX8_copy_55 (by decide) ?_
  refine c_cpy hx hb (hml.trans hl.1.symm) hown (hT _ t1218) (hT _ t686) (hT _ t685) (hT _ t121) hK hP hD hS cw_108 cw_38 cs_38 (Nat.le_of_ble_eq_true rfl) (Nat.le_of_ble_eq_true rfl) (by decide) (by decide) (by decide) dX8_copy_57 (fun s8 H9 locs9 fs8 es8 gs8 hP9 hD9 hS9 => ?_)
  clear hP hD hS
  have hS := hS9
  have hP := hP9
  have hD := hD9
  clear hP9 hD9 hS9
  have hBs8 : CB s8 := by rw [es8]; exact cb_sw hBs7 trivial
  have hFs8 : FR [18, 19, 20, 21, 22, 23, 24, 26, 27, 28, 29, 30, 32, 33, 34, 35, 36, 17, 37, 38, 39] st s8 := fr_sw hFs7 (List.mem_of_getElem? (i := 19) rfl) es8
  refine lv_aload_n hx hb dX8_copy_60 rfl (lv_at hl 1 rfl) ?_
  refine va_get (D := D) (ci := 8) (v := .ref (a 109)) (C := RX8) (T := TX8) (N := 6) hx hb hT in_X8 hown hK hP 87 cw_87 rfl 5 (by decide) (hT _ t319) (fun _ h9 => h9) rfl dX8_copy_61 ?_
  refine lv_iconst (v := 0) hx hb dX8_copy_64 (by decide) ?_
  refine lv_aload_n hx hb dX8_copy_65 rfl (lv_at hl 0 rfl) ?_
  refine va_get (D := D) (ci := 8) (v := .ref (a 39)) (C := RX8) (T := TX8) (N := 6) hx hb hT in_X8 hown hK hP 17 cw_17 rfl 5 (by decide) (hT _ t319) (fun _ h9 => h9) rfl dX8_copy_66 ?_
  refine lv_iconst (v := 0) hx hb dX8_copy_69 (by decide) ?_
  refine lv_bipush (v := 40) hx hb dX8_copy_70 (by decide) ?_
  refine c_cpy hx hb (hml.trans hl.1.symm) hown (hT _ t1218) (hT _ t686) (hT _ t685) (hT _ t121) hK hP hD hS cw_109 cw_39 cs_39 (Nat.le_of_ble_eq_true rfl) (Nat.le_of_ble_eq_true rfl) (by decide) (by decide) (by decide) dX8_copy_72 (fun s9 H9 locs9 fs9 es9 gs9 hP9 hD9 hS9 => ?_)
  clear hP hD hS
  have hS := hS9
  have hP := hP9
  have hD := hD9
  clear hP9 hD9 hS9
  have hBs9 : CB s9 := by rw [es9]; exact cb_sw hBs8 trivial
  have hFs9 : FR [18, 19, 20, 21, 22, 23, 24, 26, 27, 28, 29, 30, 32, 33, 34, 35, 36, 17, 37, 38, 39] st s9 := fr_sw hFs8 (List.mem_of_getElem? (i := 20) rfl) es9
  rw [hQ]
  exact W.vret hx hb hr (fun t ht hW => ⟨⟨s9, rfl, ⟨hBs9, hFs9, (wi_copy hX h5 (Eq.trans (congrFun (sw_at es9 (by decide)) 2) (Eq.trans (congrFun (sw_at es8 (by decide)) 2) (Eq.trans (congrFun (sw_at es7 (by decide)) 2) (congrFun (sw_it es6) 2)))) (fun j9 h9 => Eq.trans (congrFun (Eq.trans (sw_at es9 (by decide)) (Eq.trans (sw_at es8 (by decide)) (sw_it es7))) j9) (Eq.trans (gs7 j9 h9) (congrFun (hFs6 107 (nm_1 (by decide) (nm_1 (by decide) (nm_1 (by decide) (nm_1 (by decide) (nm_1 (by decide) (nm_1 (by decide) (nm_1 (by decide) (nm_1 (by decide) (nm_1 (by decide) (nm_1 (by decide) (nm_1 (by decide) (nm_1 (by decide) (nm_1 (by decide) (nm_1 (by decide) (nm_1 (by decide) (nm_1 (by decide) (nm_1 (by decide) (nm_1 (by decide) (nm_1 (by decide) (nm_1 (by decide) (nm_1 (by decide) nm_0)))))))))))))))))))))) j9))) (fun j9 h9 => Eq.trans (congrFun (Eq.trans (sw_at es9 (by decide)) (sw_it es8)) j9) (Eq.trans (gs8 j9 h9) (congrFun (hFs7 108 (nm_1 (by decide) (nm_1 (by decide) (nm_1 (by decide) (nm_1 (by decide) (nm_1 (by decide) (nm_1 (by decide) (nm_1 (by decide) (nm_1 (by decide) (nm_1 (by decide) (nm_1 (by decide) (nm_1 (by decide) (nm_1 (by decide) (nm_1 (by decide) (nm_1 (by decide) (nm_1 (by decide) (nm_1 (by decide) (nm_1 (by decide) (nm_1 (by decide) (nm_1 (by decide) (nm_1 (by decide) (nm_1 (by decide) nm_0)))))))))))))))))))))) j9))) (fun j9 h9 => Eq.trans (congrFun (sw_it es9) j9) (Eq.trans (gs9 j9 h9) (congrFun (hFs8 109 (nm_1 (by decide) (nm_1 (by decide) (nm_1 (by decide) (nm_1 (by decide) (nm_1 (by decide) (nm_1 (by decide) (nm_1 (by decide) (nm_1 (by decide) (nm_1 (by decide) (nm_1 (by decide) (nm_1 (by decide) (nm_1 (by decide) (nm_1 (by decide) (nm_1 (by decide) (nm_1 (by decide) (nm_1 (by decide) (nm_1 (by decide) (nm_1 (by decide) (nm_1 (by decide) (nm_1 (by decide) (nm_1 (by decide) nm_0)))))))))))))))))))))) j9))))⟩, by rw [ht]; exact hP, va_K.moved hW.alike (hK.sub (tys' := []) [] rfl), by rw [hAe]; exact hD⟩, by rw [hAe]; exact hS.F ht⟩) hS.2.2 dX8_copy_75
