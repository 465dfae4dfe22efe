set_option maxHeartbeats 4000000 in
set_option maxRecDepth 100000 in
theorem s_X2_isWord (l : Launch) (D : va_G) (k : Nat → ClassId) (a : Nat → Nat) (st : CT) (sl : CL) (w n : Nat) (f : Nat → Int32) (sz : Nat) (hB : CB st) (hn : n ≤ 20) : Met l yX2_isWord (.code yX2_isWord cX2_isWord 3 (some .boolean) :: TB) (rmk 5) (va_Pc [.ref (a 1), .ref w] (PX D k sz (CWS k a st sl) (NSW w n f))) (vp_Si (fun r => (r = 1 ∧ (True)) ∨ (r = 0 ∧ (True)))) 0 0 (fun _ => False) := by
  refine Met.ofW (cc := cX2_isWord) (maxL := 3) (ret := (some .boolean)) (by decide) rfl ?_
  intro p e s m args below meth c s₁ B hml hv
  obtain ⟨rfl, hsz, hP, hK, hD0, hN, hX⟩ := hv
  have hx := B.exec
  have hb := B.bytes
  have hr := B.returns
  have hT : ∀ w9 ∈ TB, w9.before ([.ref (a 1), .ref w] : List Value).toArray s = true := fun w9 h => atoms_spec (ws := .code yX2_isWord cX2_isWord 3 (some .boolean) :: TB) B.pre w9 (List.mem_cons_of_mem _ h)
  have hown : s.vm.findClass RX2 = some m.cls := findClass_of_methodNamed B.named
  have S : CallFix p m c cX2_isWord 3 s _ TB RX2 := ⟨hx, hb, hml, hown, hT⟩
  subst hsz
  have hl := lv_entry ([.ref (a 1), .ref w]) (n := 3) (Nat.le_of_ble_eq_true rfl)
  rw [lg_entry_eq]
  generalize (lg_sl ([.ref (a 1), .ref w]) ++ List.replicate (3 - (lg_sl ([.ref (a 1), .ref w])).length) Slot.unset).toArray = ls at hl ⊢
  have hl : lv_has ls 3 [(0, .ref (a 1)), (1, .ref w)] := hl
  refine nameQ (fun Q hQ => ?_)
  refine lv_aload_n hx hb dX2_isWord_0 rfl (lv_at hl 0 rfl) ?_
  refine va_get (D := D) (ci := 2) (v := .int (st 1 4)) (C := RX2) (T := TX2) (N := 8) hx hb hT in_X2 hown hK hP 1 cw_1 rfl 4 (by decide) (hT _ t280) (fun _ h9 => h9) rfl dX2_isWord_1 ?_
  refine lv_iconst (v := 1) hx hb dX2_isWord_4 (by decide) ?_
  refine lv_icmp_ne (tgt := 24) hx hb dX2_isWord_5 (by decide) (fun c1 => ?_) (fun c1 => ?_)
  · skip
    refine lv_iconst (v := 0) hx hb dX2_isWord_24 (by decide) ?_
    rw [hQ]
    exact W.zret (v := 0) (ty := .boolean) hx hb hr rfl (fun t ht hW => ⟨0, rfl, Or.inr ⟨rfl, trivial⟩, ht⟩) (fun _ h9 => by cases h9) dX2_isWord_25
  · skip
    have h2 : Iv 1 1 (st 1 4) := eq_l c1 (iv_c (by decide) : Iv 1 1 1)
    refine lv_aload_n hx hb dX2_isWord_8 rfl (lv_at hl 0 rfl) ?_
    refine va_get (D := D) (ci := 2) (v := .int (st 1 6)) (C := RX2) (T := TX2) (N := 8) hx hb hT in_X2 hown hK hP 1 cw_1 rfl 6 (by decide) (hT _ t282) (fun _ h9 => h9) rfl dX2_isWord_9 ?_
    refine lv_aload_n hx hb dX2_isWord_12 rfl (lv_at hl 0 rfl) ?_
    refine va_get (D := D) (ci := 2) (v := .int (st 1 5)) (C := RX2) (T := TX2) (N := 8) hx hb hT in_X2 hown hK hP 1 cw_1 rfl 5 (by decide) (hT _ t281) (fun _ h9 => h9) rfl dX2_isWord_13 ?_
    refine lv_isub hx hb dX2_isWord_16 ?_
    refine lv_topi (fun z3 ez3 => ?_)
    refine lv_aload_n hx hb dX2_isWord_17 rfl (lv_at hl 1 rfl) ?_
    refine ro_V (As := []) (rest := [.int z3]) S (j_length l w n f (Nat.lt_of_le_of_lt hn (by decide))) lkX2_165 ok_J0_length_8abf5 ⟨rfl, rfl, Nat.le_of_ble_eq_true rfl, Nat.le_of_ble_eq_true rfl⟩ (sp_V hX.2 hX.1.1) rfl hl.1 rfl (Nat.le_of_ble_eq_true rfl) ⟨Nat.zero_le _, Nat.zero_le _⟩ dX2_isWord_18 (fun r4 er4 => ?_)
    have h5 : Iv 0 20 r4 := ni_iv er4 hn
    refine lv_icmp_eq (tgt := 26) hx hb dX2_isWord_21 (by decide) (fun c6 => ?_) (fun c6 => ?_)
    · skip
      have h7 : Iv 0 20 z3 := eq_l c6 h5
      refine lv_iconst (v := 0) hx hb dX2_isWord_26 (by decide) ?_
      refine lv_istore_n (lv' := [(2, .int 0), (0, .ref (a 1)), (1, .ref w)]) hx hb dX2_isWord_27 rfl hl (by decide) rfl (fun ls hl => ?_)
      have lp28 : ∀ (n9_28 : Nat) (v2_28 : Int32) (ls : Array Slot), Iv 0 20 v2_28 → lv_has ls 3 [(2, .int v2_28), (0, .ref (a 1)), (1, .ref w)] → (20 : Int) - v2_28.toInt < (n9_28 : Int) → W p l e (rmk 5) s m ([.ref (a 1), .ref w] : List Value).toArray below meth c s.heap [] 0 0 Q (F0 m 28 ls []) := by
        clear hl
        intro n9_28
        induction n9_28 with
        | zero =>
          intro v2_28 ls iv2_28 hl hm28
          exact (fu_0 iv2_28 hm28).elim
        | succ n9_28 ih28 =>
          intro v2_28 ls iv2_28 hl hm28
          refine lv_iload_n hx hb dX2_isWord_28 rfl (lv_at hl 0 rfl) ?_
          refine lv_aload_n hx hb dX2_isWord_29 rfl (lv_at hl 2 rfl) ?_
          refine ro_V (As := []) (rest := [.int v2_28]) S (j_length l w n f (Nat.lt_of_le_of_lt hn (by decide))) lkX2_165 ok_J0_length_8abf5 ⟨rfl, rfl, Nat.le_of_ble_eq_true rfl, Nat.le_of_ble_eq_true rfl⟩ (sp_V hX.2 hX.1.1) rfl hl.1 rfl (Nat.le_of_ble_eq_true rfl) ⟨Nat.zero_le _, Nat.zero_le _⟩ dX2_isWord_30 (fun r188 er188 => ?_)
          have h189 : Iv 0 20 r188 := ni_iv er188 hn
          refine lv_icmp_ge (tgt := 65) hx hb dX2_isWord_33 (by decide) (fun c190 => ?_) (fun c190 => ?_)
          · skip
            have n191 : r188.toInt ≤ v2_28.toInt := (i_le c190)
            refine lv_iconst (v := 1) hx hb dX2_isWord_65 (by decide) ?_
            rw [hQ]
            exact W.zret (v := 1) (ty := .boolean) hx hb hr rfl (fun t ht hW => ⟨1, rfl, Or.inl ⟨rfl, trivial⟩, ht⟩) (fun _ h9 => by cases h9) dX2_isWord_66
          · skip
            have n192 : v2_28.toInt < r188.toInt := (i_nle c190)
            have h193 : Iv 0 19 v2_28 := lt_l iv2_28 n192 h189 (by decide)
            have h194 : Iv 1 20 r188 := lt_r iv2_28 n192 h189 (by decide)
            refine lv_aload_n hx hb dX2_isWord_36 rfl (lv_at hl 1 rfl) ?_
            refine va_get (D := D) (ci := 2) (v := .ref (a 2)) (C := RX2) (T := TX2) (N := 8) hx hb hT in_X2 hown hK hP 1 cw_1 rfl 0 (by decide) (hT _ t272) (fun _ h9 => h9) rfl dX2_isWord_37 ?_
            refine lv_aload_n hx hb dX2_isWord_40 rfl (lv_at hl 1 rfl) ?_
            refine va_get (D := D) (ci := 2) (v := .int (st 1 5)) (C := RX2) (T := TX2) (N := 8) hx hb hT in_X2 hown hK hP 1 cw_1 rfl 5 (by decide) (hT _ t281) (fun _ h9 => h9) rfl dX2_isWord_41 ?_
            refine lv_iload_n hx hb dX2_isWord_44 rfl (lv_at hl 0 rfl) ?_
            refine lv_iadd hx hb dX2_isWord_45 ?_
            refine lv_topi (fun z195 ez195 => ?_)
            refine ro_V (As := [.int z195]) (rest := []) S (s_X6_byteAt l D k a st sl  z195 _  hB  ) lkX2_171 ok_X6_byteAt ⟨rfl, rfl, Nat.le_of_ble_eq_true rfl, Nat.le_of_ble_eq_true rfl⟩ (pw_V (ci := 6) (q0 := 2) hK hN rfl cw_2 hP hD0) rfl hl.1 rfl (Nat.le_of_ble_eq_true rfl) ⟨Nat.zero_le _, Nat.zero_le _⟩ dX2_isWord_46 (fun r196 er196 => ?_)
            have h197 : Iv (-1) 255 r196 := er196.1
            refine lv_aload_n hx hb dX2_isWord_49 rfl (lv_at hl 2 rfl) ?_
            refine lv_iload_n hx hb dX2_isWord_50 rfl (lv_at hl 0 rfl) ?_
            refine ro_V (As := [.int v2_28]) (rest := [.int r196]) S (j_char l w n f v2_28 (Nat.lt_of_le_of_lt hn (by decide)) (Int.le_trans (by decide) (h193).1) (by have y9 := n192; rw [(ni_ti er188 hn)] at y9; exact y9)) lkX2_175 ok_J0_charAt_5068e ⟨rfl, rfl, Nat.le_of_ble_eq_true rfl, Nat.le_of_ble_eq_true rfl⟩ (sp_V hX.2 hX.1.1) rfl hl.1 rfl (Nat.le_of_ble_eq_true rfl) ⟨Nat.zero_le _, Nat.zero_le _⟩ dX2_isWord_51 (fun r198 er198 => ?_)
            refine lv_icmp_eq (tgt := 59) hx hb dX2_isWord_54 (by decide) (fun c199 => ?_) (fun c199 => ?_)
            · skip
              have h200 : Iv (-1) 255 r198 := eq_l c199.symm h197
              obtain ⟨z201, ez201⟩ : ∃ z9 : Int32, z9 = v2_28 + Int32.ofInt 1 := ⟨_, rfl⟩
              have h202 : Iv 1 20 z201 := iv_inc ez201 h193 (by decide) (by decide) (by decide) (by decide) (by decide) (by decide)
              refine lv_iinc (v := z201) (lv' := [(2, .int z201), (0, .ref (a 1)), (1, .ref w)]) hx hb dX2_isWord_59 hl (k := 0) rfl ez201.symm (by decide) rfl (fun ls hl => ?_)
              refine lv_goto (tgt := 28) hx hb dX2_isWord_62 (by decide) ?_
              exact ih28 z201 _ (iv_mono (c := 0) (d := 20) h202 (by decide) (by decide)) (lv_sub hl [0, 1, 2] rfl) (fu_s (lo := 0) (ti_inc ez201 h193 (by decide) (by decide) (by decide) (by decide)) (by decide) hm28)
            · skip
              refine lv_iconst (v := 0) hx hb dX2_isWord_57 (by decide) ?_
              rw [hQ]
              exact W.zret (v := 0) (ty := .boolean) hx hb hr rfl (fun t ht hW => ⟨0, rfl, Or.inr ⟨rfl, trivial⟩, ht⟩) (fun _ h9 => by cases h9) dX2_isWord_58
      exact lp28 21 0 _ (iv_mono (c := 0) (d := 20) (iv_c (by decide) : Iv 0 0 0) (by decide) (by decide)) (lv_sub hl [0, 1, 2] rfl) (fu_i (iv_mono (c := 0) (d := 20) (iv_c (by decide) : Iv 0 0 0) (by decide) (by decide)) (by decide))
    · skip
      refine lv_iconst (v := 0) hx hb dX2_isWord_24 (by decide) ?_
      rw [hQ]
      exact W.zret (v := 0) (ty := .boolean) hx hb hr rfl (fun t ht hW => ⟨0, rfl, Or.inr ⟨rfl, trivial⟩, ht⟩) (fun _ h9 => by cases h9) dX2_isWord_25
set_option maxHeartbeats 4000000 in
set_option maxRecDepth 100000 in
theorem s_X2_passWord (l : Launch) (D : va_G) (k : Nat → ClassId) (a : Nat → Nat) (st : CT) (sl : CL) (w n : Nat) (f : Nat → Int32) (sz : Nat) (hB : CB st) (hn : n ≤ 20) : Met l yX2_passWord (.code yX2_passWord cX2_passWord 2 none :: TB) (rmw 6 0 0) (va_Pc [.ref (a 1), .ref w] (PX D k sz (CWS k a st sl) (NSW w n f))) (QV D (S := CT) (fun u => CB u ∧ FR [1] st u ∧ (u 1 2 = 0 → st 1 2 = 0)) (fun u => CWS k a u sl) (fun _ => []) (CWS k a st sl) sz) 0 0 (va_A (CWS k a st sl) sz) := by
  refine Met.ofW (cc := cX2_passWord) (maxL := 2) (ret := none) (by decide) rfl ?_
  intro p e s m args below meth c s₁ B hml hv
  obtain ⟨rfl, hsz, hP, hK, hD0, hN, hX⟩ := hv
  have hx := B.exec
  have hb := B.bytes
  have hr := B.returns
  have hT : ∀ w9 ∈ TB, w9.before ([.ref (a 1), .ref w] : List Value).toArray s = true := fun w9 h => atoms_spec (ws := .code yX2_passWord cX2_passWord 2 none :: TB) B.pre w9 (List.mem_cons_of_mem _ h)
  have hown : s.vm.findClass RX2 = some m.cls := findClass_of_methodNamed B.named
  have S : CallFix p m c cX2_passWord 2 s _ TB RX2 := ⟨hx, hb, hml, hown, hT⟩
  subst hsz
  have hD := hD0.self (sz := s.heap.size)
  generalize hAe : va_A (CWS k a st sl) s.heap.size = A at hD hX ⊢
  have hA : ∀ q : Nat, s.heap.size ≤ q → A q := fun q h => by rw [← hAe]; exact Or.inr h
  have hS : va_S A s.heap s.heap [] := va_S.rf
  have hl := lv_entry ([.ref (a 1), .ref w]) (n := 2) (Nat.le_of_ble_eq_true rfl)
  rw [lg_entry_eq]
  generalize (lg_sl ([.ref (a 1), .ref w]) ++ List.replicate (2 - (lg_sl ([.ref (a 1), .ref w])).length) Slot.unset).toArray = ls at hl ⊢
  have hl : lv_has ls 2 [(0, .ref (a 1)), (1, .ref w)] := hl
  refine nameQ (fun Q hQ => ?_)
  refine lv_aload_n hx hb dX2_passWord_0 rfl (lv_at hl 0 rfl) ?_
  refine lv_aload_n hx hb dX2_passWord_1 rfl (lv_at hl 1 rfl) ?_
  refine ro_V (As := [.ref w]) (rest := []) S (s_X2_isWord l D k a st sl   w n f _  hB hn ) lkX2_55 ok_X2_isWord ⟨rfl, rfl, Nat.le_of_ble_eq_true rfl, Nat.le_of_ble_eq_true rfl⟩ (px_V (ci := 2) (q0 := 1) nice_NSW hK hN rfl cw_1 hP (hD.weaken (fun _ _ _ _ => trivial)) (show NSW w n f A s s.heap from ⟨hX.1, hX.2⟩) hS (px_free hD hS hA)) rfl hl.1 rfl (Nat.le_of_ble_eq_true rfl) ⟨Nat.zero_le _, Nat.zero_le _⟩ dX2_passWord_2 (fun r1 er1 => ?_)
  rcases er1 with ⟨rfl, g9⟩ | ⟨rfl, g9⟩
  · skip
    have g2 := g9
    refine lv_if_ne (tgt := 13) hx hb dX2_passWord_5 (by decide) (fun c3 => ?_) (fun c3 => ?_)
    rotate_left
    · first | exact absurd c3 (by decide) | exact absurd (by decide) c3
    refine lv_aload_n hx hb dX2_passWord_13 rfl (lv_at hl 0 rfl) ?_
    refine va_get (D := D) (ci := 2) (v := .int (st 1 2)) (C := RX2) (T := TX2) (N := 8) hx hb hT in_X2 hown hK hP 1 cw_1 rfl 2 (by decide) (hT _ t276) (fun _ h9 => h9) rfl dX2_passWord_14 ?_
    refine lv_if_ne (tgt := 24) hx hb dX2_passWord_17 (by decide) (fun c4 => ?_) (fun c4 => ?_)
    · skip
      rw [hQ]
      exact W.vret hx hb hr (fun t ht hW => ⟨⟨st, rfl, ⟨hB, fr_rf, (fun z9 => absurd z9 c4)⟩, by rw [ht]; exact hP, va_K.moved hW.alike (hK.sub (tys' := []) [] rfl), by rw [hAe]; exact hD⟩, by rw [hAe]; exact hS.F ht⟩) hS.2.2 dX2_passWord_24
    · skip
      have h5 : Iv 0 0 (st 1 2) := eq_l c4 (iv_c (by decide) : Iv 0 0 0)
      have k6 : (st 1 2) = 0 := c4
      refine lv_aload_n hx hb dX2_passWord_20 rfl (lv_at hl 0 rfl) ?_
      refine ca_v hP hD hS hA (fun hDc => run_V (mc := 0) (ms := 0) (As := []) (rest := []) S (s_X2_next l D k a st sl   _  hB  ) lkX2_38 ok_X2_next ⟨rfl, rfl, Nat.le_of_ble_eq_true rfl, Nat.le_of_ble_eq_true rfl⟩ (pw_V (ci := 2) (q0 := 1) hK hN rfl cw_1 hP hDc) rfl hl.1 rfl (Nat.le_of_ble_eq_true rfl) ⟨Nat.zero_le _, Nat.zero_le _⟩ dX2_passWord_21) (fun s7 H9 locs9 hs7 hP9 hD9 hS9 => ?_)
      clear hP hD hS
      have hS := hS9
      have hP := hP9
      have hD := hD9
      clear hP9 hD9 hS9
      obtain ⟨hBs7, gs7, qs7_0, qs7_1, fs7⟩ := hs7
      have hFs7 : FR [1] st s7 := fr_ca fr_rf gs7 (sub_1 (List.mem_of_getElem? (i := 0) rfl) sub_0)
      rw [hQ]
      exact W.vret hx hb hr (fun t ht hW => ⟨⟨s7, rfl, ⟨hBs7, hFs7, (fun _ => k6)⟩, by rw [ht]; exact hP, va_K.moved hW.alike (hK.sub (tys' := []) [] rfl), by rw [hAe]; exact hD⟩, by rw [hAe]; exact hS.F ht⟩) hS.2.2 dX2_passWord_24
  · skip
    have g9 := g9
    refine lv_if_ne (tgt := 13) hx hb dX2_passWord_5 (by decide) (fun c10 => ?_) (fun c10 => ?_)
    · first | exact absurd c10 (by decide) | exact absurd (by decide) c10
    refine lv_aload_n hx hb dX2_passWord_8 rfl (lv_at hl 0 rfl) ?_
    refine lv_iconst (v := 1) hx hb dX2_passWord_9 (by decide) ?_
    refine ca_v hP hD hS hA (fun hDc => run_V (mc := 0) (ms := 0) (As := [.int 1]) (rest := []) S (s_X2_fail l D k a st sl  1 _  hB (iv_mono (c := 1) (d := 3) (iv_c (by decide) : Iv 1 1 1) (by decide) (by decide)) ) lkX2_77 ok_X2_fail ⟨rfl, rfl, Nat.le_of_ble_eq_true rfl, Nat.le_of_ble_eq_true rfl⟩ (pw_V (ci := 2) (q0 := 1) hK hN rfl cw_1 hP hDc) rfl hl.1 rfl (Nat.le_of_ble_eq_true rfl) ⟨Nat.zero_le _, Nat.zero_le _⟩ dX2_passWord_10) (fun s11 H9 locs9 hs11 hP9 hD9 hS9 => ?_)
    clear hP hD hS
    have hS := hS9
    have hP := hP9
    have hD := hD9
    clear hP9 hD9 hS9
    obtain ⟨hBs11, gs11, qs11_0, qs11_1, qs11_2, qs11_3, fs11⟩ := hs11
    have hFs11 : FR [1] st s11 := fr_ca fr_rf gs11 (sub_1 (List.mem_of_getElem? (i := 0) rfl) sub_0)
    have k13 := fs11
    refine lv_aload_n hx hb dX2_passWord_13 rfl (lv_at hl 0 rfl) ?_
    refine va_get (D := D) (ci := 2) (v := .int (s11 1 2)) (C := RX2) (T := TX2) (N := 8) hx hb hT in_X2 hown hK hP 1 cw_1 rfl 2 (by decide) (hT _ t276) (fun _ h9 => h9) rfl dX2_passWord_14 ?_
    refine lv_if_ne (tgt := 24) hx hb dX2_passWord_17 (by decide) (fun c14 => ?_) (fun c14 => ?_)
    · skip
      rw [hQ]
      exact W.vret hx hb hr (fun t ht hW => ⟨⟨s11, rfl, ⟨hBs11, hFs11, (fun z9 => absurd z9 c14)⟩, by rw [ht]; exact hP, va_K.moved hW.alike (hK.sub (tys' := []) [] rfl), by rw [hAe]; exact hD⟩, by rw [hAe]; exact hS.F ht⟩) hS.2.2 dX2_passWord_24
    · skip
      have h15 : Iv 0 0 (s11 1 2) := eq_l c14 (iv_c (by decide) : Iv 0 0 0)
      have k16 : (s11 1 2) = 0 := c14
      exact absurd k16 k13
