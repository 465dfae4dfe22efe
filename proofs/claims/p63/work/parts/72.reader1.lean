theorem ni_iv {n : Nat} {r : Int32} (e : r = nI n) (h : n ≤ 20) : Iv 0 20 r := by
  have q := nI_toInt (n := n) (by omega)
  rw [e]
  exact ⟨by omega, by omega⟩
theorem ni_ti {n : Nat} {r : Int32} (e : r = nI n) (h : n ≤ 20) : r.toInt = n := by
  rw [e]
  exact nI_toInt (by omega)
set_option maxHeartbeats 4000000 in
set_option maxRecDepth 100000 in
theorem s_X2_isBlank (l : Launch) (D : va_G) (k : Nat → ClassId) (a : Nat → Nat) (st : CT) (sl : CL) (p0 : Int32) (sz : Nat) (hB : CB st)  : Met l yX2_isBlank (.code yX2_isBlank cX2_isBlank 1 (some .boolean) :: TB) (rmk 1) (va_Pc [.int p0] (PW D k sz (CWS k a st sl))) (vp_Si (fun r => (r = 1 ∧ Iv 10 32 p0 ∧ (True)) ∨ (r = 0 ∧ (True)))) 0 0 (fun _ => False) := by
  refine Met.ofW (cc := cX2_isBlank) (maxL := 1) (ret := (some .boolean)) (by decide) rfl ?_
  intro p e s m args below meth c s₁ B hml hv
  obtain ⟨rfl, hsz, hP, hK, hD0, hN⟩ := hv
  have hx := B.exec
  have hb := B.bytes
  have hr := B.returns
  have hT : ∀ w9 ∈ TB, w9.before ([.int p0] : List Value).toArray s = true := fun w9 h => atoms_spec (ws := .code yX2_isBlank cX2_isBlank 1 (some .boolean) :: TB) B.pre w9 (List.mem_cons_of_mem _ h)
  have hown : s.vm.findClass RX2 = some m.cls := findClass_of_methodNamed B.named
  have S : CallFix p m c cX2_isBlank 1 s _ TB RX2 := ⟨hx, hb, hml, hown, hT⟩
  subst hsz
  have hl := lv_entry ([.int p0]) (n := 1) (Nat.le_of_ble_eq_true rfl)
  rw [lg_entry_eq]
  generalize (lg_sl ([.int p0]) ++ List.replicate (1 - (lg_sl ([.int p0])).length) Slot.unset).toArray = ls at hl ⊢
  have hl : lv_has ls 1 [(0, .int p0)] := hl
  refine nameQ (fun Q hQ => ?_)
  refine lv_iload_n hx hb dX2_isBlank_0 rfl (lv_at hl 0 rfl) ?_
  refine lv_bipush (v := 32) hx hb dX2_isBlank_1 (by decide) ?_
  refine lv_icmp_eq (tgt := 12) hx hb dX2_isBlank_3 (by decide) (fun c1 => ?_) (fun c1 => ?_)
  · skip
    have h2 : Iv 32 32 p0 := eq_l c1 (iv_c (by decide) : Iv 32 32 32)
    refine lv_iconst (v := 1) hx hb dX2_isBlank_12 (by decide) ?_
    refine lv_goto (tgt := 17) hx hb dX2_isBlank_13 (by decide) ?_
    rw [hQ]
    exact W.zret (v := 1) (ty := .boolean) hx hb hr rfl (fun t ht hW => ⟨1, rfl, Or.inl ⟨rfl, (iv_mono (c := 10) (d := 32) h2 (by decide) (by decide)), trivial⟩, ht⟩) (fun _ h9 => by cases h9) dX2_isBlank_17
  · skip
    refine lv_iload_n hx hb dX2_isBlank_6 rfl (lv_at hl 0 rfl) ?_
    refine lv_bipush (v := 10) hx hb dX2_isBlank_7 (by decide) ?_
    refine lv_icmp_ne (tgt := 16) hx hb dX2_isBlank_9 (by decide) (fun c3 => ?_) (fun c3 => ?_)
    · skip
      refine lv_iconst (v := 0) hx hb dX2_isBlank_16 (by decide) ?_
      rw [hQ]
      exact W.zret (v := 0) (ty := .boolean) hx hb hr rfl (fun t ht hW => ⟨0, rfl, Or.inr ⟨rfl, trivial⟩, ht⟩) (fun _ h9 => by cases h9) dX2_isBlank_17
    · skip
      have h4 : Iv 10 10 p0 := eq_l c3 (iv_c (by decide) : Iv 10 10 10)
      refine lv_iconst (v := 1) hx hb dX2_isBlank_12 (by decide) ?_
      refine lv_goto (tgt := 17) hx hb dX2_isBlank_13 (by decide) ?_
      rw [hQ]
      exact W.zret (v := 1) (ty := .boolean) hx hb hr rfl (fun t ht hW => ⟨1, rfl, Or.inl ⟨rfl, (iv_mono (c := 10) (d := 32) h4 (by decide) (by decide)), trivial⟩, ht⟩) (fun _ h9 => by cases h9) dX2_isBlank_17
set_option maxHeartbeats 4000000 in
set_option maxRecDepth 100000 in
theorem s_X2_isLetter (l : Launch) (D : va_G) (k : Nat → ClassId) (a : Nat → Nat) (st : CT) (sl : CL) (p0 : Int32) (sz : Nat) (hB : CB st)  : Met l yX2_isLetter (.code yX2_isLetter cX2_isLetter 1 (some .boolean) :: TB) (rmk 1) (va_Pc [.int p0] (PW D k sz (CWS k a st sl))) (vp_Si (fun r => (r = 1 ∧ Iv 97 122 p0 ∧ (True)) ∨ (r = 0 ∧ (True)))) 0 0 (fun _ => False) := by
  refine Met.ofW (cc := cX2_isLetter) (maxL := 1) (ret := (some .boolean)) (by decide) rfl ?_
  intro p e s m args below meth c s₁ B hml hv
  obtain ⟨rfl, hsz, hP, hK, hD0, hN⟩ := hv
  have hx := B.exec
  have hb := B.bytes
  have hr := B.returns
  have hT : ∀ w9 ∈ TB, w9.before ([.int p0] : List Value).toArray s = true := fun w9 h => atoms_spec (ws := .code yX2_isLetter cX2_isLetter 1 (some .boolean) :: TB) B.pre w9 (List.mem_cons_of_mem _ h)
  have hown : s.vm.findClass RX2 = some m.cls := findClass_of_methodNamed B.named
  have S : CallFix p m c cX2_isLetter 1 s _ TB RX2 := ⟨hx, hb, hml, hown, hT⟩
  subst hsz
  have hl := lv_entry ([.int p0]) (n := 1) (Nat.le_of_ble_eq_true rfl)
  rw [lg_entry_eq]
  generalize (lg_sl ([.int p0]) ++ List.replicate (1 - (lg_sl ([.int p0])).length) Slot.unset).toArray = ls at hl ⊢
  have hl : lv_has ls 1 [(0, .int p0)] := hl
  refine nameQ (fun Q hQ => ?_)
  refine lv_iload_n hx hb dX2_isLetter_0 rfl (lv_at hl 0 rfl) ?_
  refine lv_bipush (v := 97) hx hb dX2_isLetter_1 (by decide) ?_
  refine lv_icmp_lt (tgt := 16) hx hb dX2_isLetter_3 (by decide) (fun c1 => ?_) (fun c1 => ?_)
  · skip
    have n2 : p0.toInt < (97 : Int32).toInt := (i_lt c1)
    have h3 : Iv (-2147483648) 96 p0 := lt_l (iv_full p0) n2 (iv_c (by decide) : Iv 97 97 97) (by decide)
    refine lv_iconst (v := 0) hx hb dX2_isLetter_16 (by decide) ?_
    rw [hQ]
    exact W.zret (v := 0) (ty := .boolean) hx hb hr rfl (fun t ht hW => ⟨0, rfl, Or.inr ⟨rfl, trivial⟩, ht⟩) (fun _ h9 => by cases h9) dX2_isLetter_17
  · skip
    have n4 : (97 : Int32).toInt ≤ p0.toInt := (i_nlt c1)
    have h5 : Iv 97 2147483647 p0 := le_r (iv_c (by decide) : Iv 97 97 97) n4 (iv_full p0) (by decide)
    refine lv_iload_n hx hb dX2_isLetter_6 rfl (lv_at hl 0 rfl) ?_
    refine lv_bipush (v := 122) hx hb dX2_isLetter_7 (by decide) ?_
    refine lv_icmp_gt (tgt := 16) hx hb dX2_isLetter_9 (by decide) (fun c6 => ?_) (fun c6 => ?_)
    · skip
      have n7 : (122 : Int32).toInt < p0.toInt := (i_lt c6)
      have h8 : Iv 123 2147483647 p0 := lt_r (iv_c (by decide) : Iv 122 122 122) n7 h5 (by decide)
      refine lv_iconst (v := 0) hx hb dX2_isLetter_16 (by decide) ?_
      rw [hQ]
      exact W.zret (v := 0) (ty := .boolean) hx hb hr rfl (fun t ht hW => ⟨0, rfl, Or.inr ⟨rfl, trivial⟩, ht⟩) (fun _ h9 => by cases h9) dX2_isLetter_17
    · skip
      have n9 : p0.toInt ≤ (122 : Int32).toInt := (i_nlt c6)
      have h10 : Iv 97 122 p0 := le_l h5 n9 (iv_c (by decide) : Iv 122 122 122) (by decide)
      refine lv_iconst (v := 1) hx hb dX2_isLetter_12 (by decide) ?_
      refine lv_goto (tgt := 17) hx hb dX2_isLetter_13 (by decide) ?_
      rw [hQ]
      exact W.zret (v := 1) (ty := .boolean) hx hb hr rfl (fun t ht hW => ⟨1, rfl, Or.inl ⟨rfl, h10, trivial⟩, ht⟩) (fun _ h9 => by cases h9) dX2_isLetter_17
set_option maxHeartbeats 4000000 in
set_option maxRecDepth 100000 in
theorem s_X2_isDigit (l : Launch) (D : va_G) (k : Nat → ClassId) (a : Nat → Nat) (st : CT) (sl : CL) (p0 : Int32) (sz : Nat) (hB : CB st)  : Met l yX2_isDigit (.code yX2_isDigit cX2_isDigit 1 (some .boolean) :: TB) (rmk 1) (va_Pc [.int p0] (PW D k sz (CWS k a st sl))) (vp_Si (fun r => (r = 1 ∧ Iv 48 57 p0 ∧ (True)) ∨ (r = 0 ∧ (True)))) 0 0 (fun _ => False) := by
  refine Met.ofW (cc := cX2_isDigit) (maxL := 1) (ret := (some .boolean)) (by decide) rfl ?_
  intro p e s m args below meth c s₁ B hml hv
  obtain ⟨rfl, hsz, hP, hK, hD0, hN⟩ := hv
  have hx := B.exec
  have hb := B.bytes
  have hr := B.returns
  have hT : ∀ w9 ∈ TB, w9.before ([.int p0] : List Value).toArray s = true := fun w9 h => atoms_spec (ws := .code yX2_isDigit cX2_isDigit 1 (some .boolean) :: TB) B.pre w9 (List.mem_cons_of_mem _ h)
  have hown : s.vm.findClass RX2 = some m.cls := findClass_of_methodNamed B.named
  have S : CallFix p m c cX2_isDigit 1 s _ TB RX2 := ⟨hx, hb, hml, hown, hT⟩
  subst hsz
  have hl := lv_entry ([.int p0]) (n := 1) (Nat.le_of_ble_eq_true rfl)
  rw [lg_entry_eq]
  generalize (lg_sl ([.int p0]) ++ List.replicate (1 - (lg_sl ([.int p0])).length) Slot.unset).toArray = ls at hl ⊢
  have hl : lv_has ls 1 [(0, .int p0)] := hl
  refine nameQ (fun Q hQ => ?_)
  refine lv_iload_n hx hb dX2_isDigit_0 rfl (lv_at hl 0 rfl) ?_
  refine lv_bipush (v := 48) hx hb dX2_isDigit_1 (by decide) ?_
  refine lv_icmp_lt (tgt := 16) hx hb dX2_isDigit_3 (by decide) (fun c1 => ?_) (fun c1 => ?_)
  · skip
    have n2 : p0.toInt < (48 : Int32).toInt := (i_lt c1)
    have h3 : Iv (-2147483648) 47 p0 := lt_l (iv_full p0) n2 (iv_c (by decide) : Iv 48 48 48) (by decide)
    refine lv_iconst (v := 0) hx hb dX2_isDigit_16 (by decide) ?_
    rw [hQ]
    exact W.zret (v := 0) (ty := .boolean) hx hb hr rfl (fun t ht hW => ⟨0, rfl, Or.inr ⟨rfl, trivial⟩, ht⟩) (fun _ h9 => by cases h9) dX2_isDigit_17
  · skip
    have n4 : (48 : Int32).toInt ≤ p0.toInt := (i_nlt c1)
    have h5 : Iv 48 2147483647 p0 := le_r (iv_c (by decide) : Iv 48 48 48) n4 (iv_full p0) (by decide)
    refine lv_iload_n hx hb dX2_isDigit_6 rfl (lv_at hl 0 rfl) ?_
    refine lv_bipush (v := 57) hx hb dX2_isDigit_7 (by decide) ?_
    refine lv_icmp_gt (tgt := 16) hx hb dX2_isDigit_9 (by decide) (fun c6 => ?_) (fun c6 => ?_)
    · skip
      have n7 : (57 : Int32).toInt < p0.toInt := (i_lt c6)
      have h8 : Iv 58 2147483647 p0 := lt_r (iv_c (by decide) : Iv 57 57 57) n7 h5 (by decide)
      refine lv_iconst (v := 0) hx hb dX2_isDigit_16 (by decide) ?_
      rw [hQ]
      exact W.zret (v := 0) (ty := .boolean) hx hb hr rfl (fun t ht hW => ⟨0, rfl, Or.inr ⟨rfl, trivial⟩, ht⟩) (fun _ h9 => by cases h9) dX2_isDigit_17
    · skip
      have n9 : p0.toInt ≤ (57 : Int32).toInt := (i_nlt c6)
      have h10 : Iv 48 57 p0 := le_l h5 n9 (iv_c (by decide) : Iv 57 57 57) (by decide)
      refine lv_iconst (v := 1) hx hb dX2_isDigit_12 (by decide) ?_
      refine lv_goto (tgt := 17) hx hb dX2_isDigit_13 (by decide) ?_
      rw [hQ]
      exact W.zret (v := 1) (ty := .boolean) hx hb hr rfl (fun t ht hW => ⟨1, rfl, Or.inl ⟨rfl, h10, trivial⟩, ht⟩) (fun _ h9 => by cases h9) dX2_isDigit_17
set_option maxHeartbeats 4000000 in
set_option maxRecDepth 100000 in
theorem s_X2_passLetters (l : Launch) (D : va_G) (k : Nat → ClassId) (a : Nat → Nat) (st : CT) (sl : CL) (sz : Nat) (hB : CB st)  : Met l yX2_passLetters (.code yX2_passLetters cX2_passLetters 2 none :: TB) (rmw 2 0 0) (va_Pc [.ref (a 1)] (PW D k sz (CWS k a st sl))) (QV D (S := CT) (fun u => CB u ∧ FR [1] st u ∧ u 1 2 = st 1 2 ∧ u 1 3 = st 1 3 ∧ u 1 4 = st 1 4 ∧ u 1 5 = st 1 5 ∧ u 1 7 = st 1 7 ∧ (True)) (fun u => CWS k a u sl) (fun _ => []) (CWS k a st sl) sz) 0 0 (va_A (CWS k a st sl) sz) := by
  refine Met.ofW (cc := cX2_passLetters) (maxL := 2) (ret := none) (by decide) rfl ?_
  intro p e s m args below meth c s₁ B hml hv
  obtain ⟨rfl, hsz, hP, hK, hD0, hN⟩ := hv
  have hx := B.exec
  have hb := B.bytes
  have hr := B.returns
  have hT : ∀ w9 ∈ TB, w9.before ([.ref (a 1)] : List Value).toArray s = true := fun w9 h => atoms_spec (ws := .code yX2_passLetters cX2_passLetters 2 none :: TB) B.pre w9 (List.mem_cons_of_mem _ h)
  have hown : s.vm.findClass RX2 = some m.cls := findClass_of_methodNamed B.named
  have S : CallFix p m c cX2_passLetters 2 s _ TB RX2 := ⟨hx, hb, hml, hown, hT⟩
  subst hsz
  have hD := hD0.self (sz := s.heap.size)
  generalize hAe : va_A (CWS k a st sl) s.heap.size = A at hD ⊢
  have hA : ∀ q : Nat, s.heap.size ≤ q → A q := fun q h => by rw [← hAe]; exact Or.inr h
  have hS : va_S A s.heap s.heap [] := va_S.rf
  have hl := lv_entry ([.ref (a 1)]) (n := 2) (Nat.le_of_ble_eq_true rfl)
  rw [lg_entry_eq]
  generalize (lg_sl ([.ref (a 1)]) ++ List.replicate (2 - (lg_sl ([.ref (a 1)])).length) Slot.unset).toArray = ls at hl ⊢
  have hl : lv_has ls 2 [(0, .ref (a 1))] := hl
  refine nameQ (fun Q hQ => ?_)
  refine lv_iconst (v := 0) hx hb dX2_passLetters_0 (by decide) ?_
  refine lv_istore_n (lv' := [(1, .int 0), (0, .ref (a 1))]) hx hb dX2_passLetters_1 rfl hl (by decide) rfl (fun ls hl => ?_)
  have lp2 : ∀ (n9_2 : Nat) (v1_2 : Int32) (t2 : CT) (H9 : Heap) (locs9 : List Loc) (ls : Array Slot), Iv 0 1000 v1_2 → CB t2 → FR [1] st t2 → t2 1 2 = st 1 2 → t2 1 3 = st 1 3 → t2 1 4 = st 1 4 → t2 1 5 = st 1 5 → t2 1 7 = st 1 7 → va_P D vwCl (CWS k a t2 sl) H9 → va_D A (CWS k a t2 sl) → va_S A s.heap H9 locs9 → lv_has ls 2 [(1, .int v1_2), (0, .ref (a 1))] → (1000 : Int) - v1_2.toInt < (n9_2 : Int) → W p l e (rmw 2 0 0) s m ([.ref (a 1)] : List Value).toArray below meth c H9 locs9 0 0 Q (F0 m 2 ls []) := by
    clear hl hP hD hS
    intro n9_2
    induction n9_2 with
    | zero =>
      intro v1_2 t2 H9 locs9 ls iv1_2 hBt2 gt2 qt2_0 qt2_1 qt2_2 qt2_3 qt2_4 hP hD hS hl hm2
      exact (fu_0 iv1_2 hm2).elim
    | succ n9_2 ih2 =>
      intro v1_2 t2 H9 locs9 ls iv1_2 hBt2 gt2 qt2_0 qt2_1 qt2_2 qt2_3 qt2_4 hP hD hS hl hm2
      have hFt2 : FR [1] st t2 := fr_ca fr_rf gt2 (sub_1 (List.mem_of_getElem? (i := 0) rfl) sub_0)
      refine lv_iload_n hx hb dX2_passLetters_2 rfl (lv_at hl 0 rfl) ?_
      refine lv_sipush (v := 1000) hx hb dX2_passLetters_3 (by decide) ?_
      refine lv_icmp_ge (tgt := 42) hx hb dX2_passLetters_6 (by decide) (fun c453 => ?_) (fun c453 => ?_)
      · skip
        have n454 : (1000 : Int32).toInt ≤ v1_2.toInt := (i_le c453)
        have h455 : Iv 1000 1000 v1_2 := le_r (iv_c (by decide) : Iv 1000 1000 1000) n454 iv1_2 (by decide)
        rw [hQ]
        exact W.vret hx hb hr (fun t ht hW => ⟨⟨t2, rfl, ⟨hBt2, hFt2, qt2_0, qt2_1, qt2_2, qt2_3, qt2_4, trivial⟩, by rw [ht]; exact hP, va_K.moved hW.alike (hK.sub (tys' := []) [] rfl), by rw [hAe]; exact hD⟩, by rw [hAe]; exact hS.F ht⟩) hS.2.2 dX2_passLetters_42
      · skip
        have n456 : v1_2.toInt < (1000 : Int32).toInt := (i_nle c453)
        have h457 : Iv 0 999 v1_2 := lt_l iv1_2 n456 (iv_c (by decide) : Iv 1000 1000 1000) (by decide)
        refine lv_aload_n hx hb dX2_passLetters_9 rfl (lv_at hl 1 rfl) ?_
        refine va_get (D := D) (ci := 2) (v := .ref (a 2)) (C := RX2) (T := TX2) (N := 8) hx hb hT in_X2 hown hK hP 1 cw_1 rfl 0 (by decide) (hT _ t272) (fun _ h9 => h9) rfl dX2_passLetters_10 ?_
        refine lv_aload_n hx hb dX2_passLetters_13 rfl (lv_at hl 1 rfl) ?_
        refine va_get (D := D) (ci := 2) (v := .int (t2 1 6)) (C := RX2) (T := TX2) (N := 8) hx hb hT in_X2 hown hK hP 1 cw_1 rfl 6 (by decide) (hT _ t282) (fun _ h9 => h9) rfl dX2_passLetters_14 ?_
        refine ro_V (As := [.int (t2 1 6)]) (rest := []) S (s_X6_byteAt l D k a t2 sl  (t2 1 6) _  hBt2  ) lkX2_171 ok_X6_byteAt ⟨rfl, rfl, Nat.le_of_ble_eq_true rfl, Nat.le_of_ble_eq_true rfl⟩ (pw_V (ci := 6) (q0 := 2) hK hN rfl cw_2 hP (hD.weaken (fun _ _ _ _ => trivial))) rfl hl.1 rfl (Nat.le_of_ble_eq_true rfl) ⟨Nat.zero_le _, Nat.zero_le _⟩ dX2_passLetters_17 (fun r458 er458 => ?_)
        have h459 : Iv (-1) 255 r458 := er458.1
        refine ro_S (As := [.int r458]) (rest := []) S (s_X2_isLetter l D k a t2 sl  r458 _  hBt2  ) lkX2_182 ok_X2_isLetter ⟨rfl, rfl, Nat.le_of_ble_eq_true rfl, Nat.le_of_ble_eq_true rfl⟩ (pw_S hK hN hP (hD.weaken (fun _ _ _ _ => trivial))) rfl hl.1 rfl (Nat.le_of_ble_eq_true rfl) ⟨Nat.zero_le _, Nat.zero_le _⟩ dX2_passLetters_20 (fun r460 er460 => ?_)
        rcases er460 with ⟨rfl, g9⟩ | ⟨rfl, g9⟩
        · skip
          have g461 := g9
          have h462 : Iv 97 122 r458 := g461.1
          refine lv_if_eq (tgt := 42) hx hb dX2_passLetters_23 (by decide) (fun c463 => ?_) (fun c463 => ?_)
          · first | exact absurd c463 (by decide) | exact absurd (by decide) c463
          refine lv_aload_n hx hb dX2_passLetters_26 rfl (lv_at hl 1 rfl) ?_
          refine lv_dup hx hb dX2_passLetters_27 rfl ?_
          refine va_get (D := D) (ci := 2) (v := .int (t2 1 6)) (C := RX2) (T := TX2) (N := 8) hx hb hT in_X2 hown hK hP 1 cw_1 rfl 6 (by decide) (hT _ t282) (fun _ h9 => h9) rfl dX2_passLetters_28 ?_
          refine lv_iconst (v := 1) hx hb dX2_passLetters_31 (by decide) ?_
          refine lv_iadd hx hb dX2_passLetters_32 ?_
          refine lv_topi (fun z464 ez464 => ?_)
          refine c_put (ci := 2) (C := RX2) (T := TX2) (N := 8) (j := 6) (v := z464) hx hb hT in_X2 tyX2 tyX2_ok nmX2 hown hK hP hD hS cw_1 rfl (by decide) (hT _ t282) (by decide +kernel) (by decide +kernel) rfl rfl (Nat.le_of_ble_eq_true rfl) (cs_1 (upd (t2 1) 6 z464)) dX2_passLetters_33 (fun s465 H9 locs9 es465 hP9 hD9 hS9 => ?_)
          clear hP hD hS
          have hS := hS9
          have hP := hP9
          have hD := hD9
          clear hP9 hD9 hS9
          have hBs465 : CB s465 := by rw [es465]; exact cb_sw hBt2 trivial
          have hFs465 : FR [1] st s465 := fr_sw hFt2 (List.mem_of_getElem? (i := 0) rfl) es465
          obtain ⟨z466, ez466⟩ : ∃ z9 : Int32, z9 = v1_2 + Int32.ofInt 1 := ⟨_, rfl⟩
          have h467 : Iv 1 1000 z466 := iv_inc ez466 h457 (by decide) (by decide) (by decide) (by decide) (by decide) (by decide)
          refine lv_iinc (v := z466) (lv' := [(1, .int z466), (0, .ref (a 1))]) hx hb dX2_passLetters_36 hl (k := 0) rfl ez466.symm (by decide) rfl (fun ls hl => ?_)
          refine lv_goto (tgt := 2) hx hb dX2_passLetters_39 (by decide) ?_
          exact ih2 z466 s465 _ _ _ (iv_mono (c := 0) (d := 1000) h467 (by decide) (by decide)) hBs465 (fr_sw gt2 (List.mem_of_getElem? (i := 0) rfl) es465) (Eq.trans (congrFun (sw_it es465) 2) qt2_0) (Eq.trans (congrFun (sw_it es465) 3) qt2_1) (Eq.trans (congrFun (sw_it es465) 4) qt2_2) (Eq.trans (congrFun (sw_it es465) 5) qt2_3) (Eq.trans (congrFun (sw_it es465) 7) qt2_4) hP hD hS (lv_sub hl [0, 1] rfl) (fu_s (lo := 0) (ti_inc ez466 h457 (by decide) (by decide) (by decide) (by decide)) (by decide) hm2)
        · skip
          have g468 := g9
          refine lv_if_eq (tgt := 42) hx hb dX2_passLetters_23 (by decide) (fun c469 => ?_) (fun c469 => ?_)
          rotate_left
          · first | exact absurd c469 (by decide) | exact absurd (by decide) c469
          rw [hQ]
          exact W.vret hx hb hr (fun t ht hW => ⟨⟨t2, rfl, ⟨hBt2, hFt2, qt2_0, qt2_1, qt2_2, qt2_3, qt2_4, trivial⟩, by rw [ht]; exact hP, va_K.moved hW.alike (hK.sub (tys' := []) [] rfl), by rw [hAe]; exact hD⟩, by rw [hAe]; exact hS.F ht⟩) hS.2.2 dX2_passLetters_42
  exact lp2 1001 0 st _ _ _ (iv_mono (c := 0) (d := 1000) (iv_c (by decide) : Iv 0 0 0) (by decide) (by decide)) hB fr_rf rfl rfl rfl rfl rfl hP hD hS (lv_sub hl [0, 1] rfl) (fu_i (iv_mono (c := 0) (d := 1000) (iv_c (by decide) : Iv 0 0 0) (by decide) (by decide)) (by decide))
set_option maxHeartbeats 4000000 in
set_option maxRecDepth 100000 in
theorem s_X2_passDigits (l : Launch) (D : va_G) (k : Nat → ClassId) (a : Nat → Nat) (st : CT) (sl : CL) (sz : Nat) (hB : CB st)  : Met l yX2_passDigits (.code yX2_passDigits cX2_passDigits 2 none :: TB) (rmw 2 0 0) (va_Pc [.ref (a 1)] (PW D k sz (CWS k a st sl))) (QV D (S := CT) (fun u => CB u ∧ FR [1] st u ∧ u 1 2 = st 1 2 ∧ u 1 3 = st 1 3 ∧ u 1 4 = st 1 4 ∧ u 1 5 = st 1 5 ∧ (True)) (fun u => CWS k a u sl) (fun _ => []) (CWS k a st sl) sz) 0 0 (va_A (CWS k a st sl) sz) := by
  refine Met.ofW (cc := cX2_passDigits) (maxL := 2) (ret := none) (by decide) rfl ?_
  intro p e s m args below meth c s₁ B hml hv
  obtain ⟨rfl, hsz, hP, hK, hD0, hN⟩ := hv
  have hx := B.exec
  have hb := B.bytes
  have hr := B.returns
  have hT : ∀ w9 ∈ TB, w9.before ([.ref (a 1)] : List Value).toArray s = true := fun w9 h => atoms_spec (ws := .code yX2_passDigits cX2_passDigits 2 none :: TB) B.pre w9 (List.mem_cons_of_mem _ h)
  have hown : s.vm.findClass RX2 = some m.cls := findClass_of_methodNamed B.named
  have S : CallFix p m c cX2_passDigits 2 s _ TB RX2 := ⟨hx, hb, hml, hown, hT⟩
  subst hsz
  have hD := hD0.self (sz := s.heap.size)
  generalize hAe : va_A (CWS k a st sl) s.heap.size = A at hD ⊢
  have hA : ∀ q : Nat, s.heap.size ≤ q → A q := fun q h => by rw [← hAe]; exact Or.inr h
  have hS : va_S A s.heap s.heap [] := va_S.rf
  have hl := lv_entry ([.ref (a 1)]) (n := 2) (Nat.le_of_ble_eq_true rfl)
  rw [lg_entry_eq]
  generalize (lg_sl ([.ref (a 1)]) ++ List.replicate (2 - (lg_sl ([.ref (a 1)])).length) Slot.unset).toArray = ls at hl ⊢
  have hl : lv_has ls 2 [(0, .ref (a 1))] := hl
  refine nameQ (fun Q hQ => ?_)
  refine lv_iconst (v := 0) hx hb dX2_passDigits_0 (by decide) ?_
  refine lv_istore_n (lv' := [(1, .int 0), (0, .ref (a 1))]) hx hb dX2_passDigits_1 rfl hl (by decide) rfl (fun ls hl => ?_)
  have lp2 : ∀ (n9_2 : Nat) (v1_2 : Int32) (t2 : CT) (H9 : Heap) (locs9 : List Loc) (ls : Array Slot), Iv 0 1000 v1_2 → CB t2 → FR [1] st t2 → t2 1 2 = st 1 2 → t2 1 3 = st 1 3 → t2 1 4 = st 1 4 → t2 1 5 = st 1 5 → va_P D vwCl (CWS k a t2 sl) H9 → va_D A (CWS k a t2 sl) → va_S A s.heap H9 locs9 → lv_has ls 2 [(1, .int v1_2), (0, .ref (a 1))] → (1000 : Int) - v1_2.toInt < (n9_2 : Int) → W p l e (rmw 2 0 0) s m ([.ref (a 1)] : List Value).toArray below meth c H9 locs9 0 0 Q (F0 m 2 ls []) := by
    clear hl hP hD hS
    intro n9_2
    induction n9_2 with
    | zero =>
      intro v1_2 t2 H9 locs9 ls iv1_2 hBt2 gt2 qt2_0 qt2_1 qt2_2 qt2_3 hP hD hS hl hm2
      exact (fu_0 iv1_2 hm2).elim
    | succ n9_2 ih2 =>
      intro v1_2 t2 H9 locs9 ls iv1_2 hBt2 gt2 qt2_0 qt2_1 qt2_2 qt2_3 hP hD hS hl hm2
      have hFt2 : FR [1] st t2 := fr_ca fr_rf gt2 (sub_1 (List.mem_of_getElem? (i := 0) rfl) sub_0)
      refine lv_iload_n hx hb dX2_passDigits_2 rfl (lv_at hl 0 rfl) ?_
      refine lv_sipush (v := 1000) hx hb dX2_passDigits_3 (by decide) ?_
      refine lv_icmp_ge (tgt := 73) hx hb dX2_passDigits_6 (by decide) (fun c693 => ?_) (fun c693 => ?_)
      · skip
        have n694 : (1000 : Int32).toInt ≤ v1_2.toInt := (i_le c693)
        have h695 : Iv 1000 1000 v1_2 := le_r (iv_c (by decide) : Iv 1000 1000 1000) n694 iv1_2 (by decide)
        rw [hQ]
        exact W.vret hx hb hr (fun t ht hW => ⟨⟨t2, rfl, ⟨hBt2, hFt2, qt2_0, qt2_1, qt2_2, qt2_3, trivial⟩, by rw [ht]; exact hP, va_K.moved hW.alike (hK.sub (tys' := []) [] rfl), by rw [hAe]; exact hD⟩, by rw [hAe]; exact hS.F ht⟩) hS.2.2 dX2_passDigits_73
      · skip
        have n696 : v1_2.toInt < (1000 : Int32).toInt := (i_nle c693)
        have h697 : Iv 0 999 v1_2 := lt_l iv1_2 n696 (iv_c (by decide) : Iv 1000 1000 1000) (by decide)
        refine lv_aload_n hx hb dX2_passDigits_9 rfl (lv_at hl 1 rfl) ?_
        refine va_get (D := D) (ci := 2) (v := .ref (a 2)) (C := RX2) (T := TX2) (N := 8) hx hb hT in_X2 hown hK hP 1 cw_1 rfl 0 (by decide) (hT _ t272) (fun _ h9 => h9) rfl dX2_passDigits_10 ?_
        refine lv_aload_n hx hb dX2_passDigits_13 rfl (lv_at hl 1 rfl) ?_
        refine va_get (D := D) (ci := 2) (v := .int (t2 1 6)) (C := RX2) (T := TX2) (N := 8) hx hb hT in_X2 hown hK hP 1 cw_1 rfl 6 (by decide) (hT _ t282) (fun _ h9 => h9) rfl dX2_passDigits_14 ?_
        refine ro_V (As := [.int (t2 1 6)]) (rest := []) S (s_X6_byteAt l D k a t2 sl  (t2 1 6) _  hBt2  ) lkX2_171 ok_X6_byteAt ⟨rfl, rfl, Nat.le_of_ble_eq_true rfl, Nat.le_of_ble_eq_true rfl⟩ (pw_V (ci := 6) (q0 := 2) hK hN rfl cw_2 hP (hD.weaken (fun _ _ _ _ => trivial))) rfl hl.1 rfl (Nat.le_of_ble_eq_true rfl) ⟨Nat.zero_le _, Nat.zero_le _⟩ dX2_passDigits_17 (fun r698 er698 => ?_)
        have h699 : Iv (-1) 255 r698 := er698.1
        refine ro_S (As := [.int r698]) (rest := []) S (s_X2_isDigit l D k a t2 sl  r698 _  hBt2  ) lkX2_188 ok_X2_isDigit ⟨rfl, rfl, Nat.le_of_ble_eq_true rfl, Nat.le_of_ble_eq_true rfl⟩ (pw_S hK hN hP (hD.weaken (fun _ _ _ _ => trivial))) rfl hl.1 rfl (Nat.le_of_ble_eq_true rfl) ⟨Nat.zero_le _, Nat.zero_le _⟩ dX2_passDigits_20 (fun r700 er700 => ?_)
        rcases er700 with ⟨rfl, g9⟩ | ⟨rfl, g9⟩
        · skip
          have g701 := g9
          have h702 : Iv 48 57 r698 := g701.1
          refine lv_if_eq (tgt := 73) hx hb dX2_passDigits_23 (by decide) (fun c703 => ?_) (fun c703 => ?_)
          · first | exact absurd c703 (by decide) | exact absurd (by decide) c703
          refine lv_aload_n hx hb dX2_passDigits_26 rfl (lv_at hl 1 rfl) ?_
          refine lv_ldc (v := 1000000) hx hb hown (hT _ t542) dX2_passDigits_27 ?_
          refine lv_aload_n hx hb dX2_passDigits_29 rfl (lv_at hl 1 rfl) ?_
          refine va_get (D := D) (ci := 2) (v := .int (t2 1 7)) (C := RX2) (T := TX2) (N := 8) hx hb hT in_X2 hown hK hP 1 cw_1 rfl 7 (by decide) (hT _ t283) (fun _ h9 => h9) rfl dX2_passDigits_30 ?_
          refine lv_bipush (v := 10) hx hb dX2_passDigits_33 (by decide) ?_
          refine lv_imul hx hb dX2_passDigits_35 ?_
          refine lv_topi (fun z704 ez704 => ?_)
          refine lv_aload_n hx hb dX2_passDigits_36 rfl (lv_at hl 1 rfl) ?_
          refine va_get (D := D) (ci := 2) (v := .ref (a 2)) (C := RX2) (T := TX2) (N := 8) hx hb hT in_X2 hown hK hP 1 cw_1 rfl 0 (by decide) (hT _ t272) (fun _ h9 => h9) rfl dX2_passDigits_37 ?_
          refine lv_aload_n hx hb dX2_passDigits_40 rfl (lv_at hl 1 rfl) ?_
          refine va_get (D := D) (ci := 2) (v := .int (t2 1 6)) (C := RX2) (T := TX2) (N := 8) hx hb hT in_X2 hown hK hP 1 cw_1 rfl 6 (by decide) (hT _ t282) (fun _ h9 => h9) rfl dX2_passDigits_41 ?_
          refine ro_V (As := [.int (t2 1 6)]) (rest := [.int z704, .int 1000000, .ref (a 1)]) S (s_X6_byteAt l D k a t2 sl  (t2 1 6) _  hBt2  ) lkX2_171 ok_X6_byteAt ⟨rfl, rfl, Nat.le_of_ble_eq_true rfl, Nat.le_of_ble_eq_true rfl⟩ (pw_V (ci := 6) (q0 := 2) hK hN rfl cw_2 hP (hD.weaken (fun _ _ _ _ => trivial))) rfl hl.1 rfl (Nat.le_of_ble_eq_true rfl) ⟨Nat.zero_le _, Nat.zero_le _⟩ dX2_passDigits_44 (fun r705 er705 => ?_)
          have h706 : Iv (-1) 255 r705 := er705.1
          refine lv_iadd hx hb dX2_passDigits_47 ?_
          refine lv_topi (fun z707 ez707 => ?_)
          refine lv_bipush (v := 48) hx hb dX2_passDigits_48 (by decide) ?_
          refine lv_isub hx hb dX2_passDigits_50 ?_
          refine lv_topi (fun z708 ez708 => ?_)
          refine va_mmin hx hb (hml.trans hl.1.symm) hown (hT _ t543) (hT _ t544) (hT _ t116) (hT _ t545) (Nat.le_of_ble_eq_true rfl) (Nat.le_of_ble_eq_true rfl) (Nat.zero_le _) (Nat.zero_le _) dX2_passDigits_51 ?_
          refine lv_topi (fun z709 ez709 => ?_)
          have h710 : Iv (-2147483648) 1000000 z709 := iv_min ez709 (iv_c (by decide) : Iv 1000000 1000000 1000000) (iv_full z708) (by decide) (by decide) (by decide)
          refine c_put (ci := 2) (C := RX2) (T := TX2) (N := 8) (j := 7) (v := z709) hx hb hT in_X2 tyX2 tyX2_ok nmX2 hown hK hP hD hS cw_1 rfl (by decide) (hT _ t283) (by decide +kernel) (by decide +kernel) rfl rfl (Nat.le_of_ble_eq_true rfl) (cs_1 (upd (t2 1) 7 z709)) dX2_passDigits_54 (fun s711 H9 locs9 es711 hP9 hD9 hS9 => ?_)
          clear hP hD hS
          have hS := hS9
          have hP := hP9
          have hD := hD9
          clear hP9 hD9 hS9
          have hBs711 : CB s711 := by rw [es711]; exact cb_sw hBt2 trivial
          have hFs711 : FR [1] st s711 := fr_sw hFt2 (List.mem_of_getElem? (i := 0) rfl) es711
          refine lv_aload_n hx hb dX2_passDigits_57 rfl (lv_at hl 1 rfl) ?_
          refine lv_dup hx hb dX2_passDigits_58 rfl ?_
          refine va_get (D := D) (ci := 2) (v := .int (s711 1 6)) (C := RX2) (T := TX2) (N := 8) hx hb hT in_X2 hown hK hP 1 cw_1 rfl 6 (by decide) (hT _ t282) (fun _ h9 => h9) rfl dX2_passDigits_59 ?_
          refine k_top (y := (t2 1 6)) (congrFun (sw_it es711) 6) ?_
          refine lv_iconst (v := 1) hx hb dX2_passDigits_62 (by decide) ?_
          refine lv_iadd hx hb dX2_passDigits_63 ?_
          refine lv_topi (fun z712 ez712 => ?_)
          refine c_put (ci := 2) (C := RX2) (T := TX2) (N := 8) (j := 6) (v := z712) hx hb hT in_X2 tyX2 tyX2_ok nmX2 hown hK hP hD hS cw_1 rfl (by decide) (hT _ t282) (by decide +kernel) (by decide +kernel) rfl rfl (Nat.le_of_ble_eq_true rfl) (cs_1 (upd (s711 1) 6 z712)) dX2_passDigits_64 (fun s713 H9 locs9 es713 hP9 hD9 hS9 => ?_)
          clear hP hD hS
          have hS := hS9
          have hP := hP9
          have hD := hD9
          clear hP9 hD9 hS9
          have hBs713 : CB s713 := by rw [es713]; exact cb_sw hBs711 trivial
          have hFs713 : FR [1] st s713 := fr_sw hFs711 (List.mem_of_getElem? (i := 0) rfl) es713
          obtain ⟨z714, ez714⟩ : ∃ z9 : Int32, z9 = v1_2 + Int32.ofInt 1 := ⟨_, rfl⟩
          have h715 : Iv 1 1000 z714 := iv_inc ez714 h697 (by decide) (by decide) (by decide) (by decide) (by decide) (by decide)
          refine lv_iinc (v := z714) (lv' := [(1, .int z714), (0, .ref (a 1))]) hx hb dX2_passDigits_67 hl (k := 0) rfl ez714.symm (by decide) rfl (fun ls hl => ?_)
          refine lv_goto (tgt := 2) hx hb dX2_passDigits_70 (by decide) ?_
          exact ih2 z714 s713 _ _ _ (iv_mono (c := 0) (d := 1000) h715 (by decide) (by decide)) hBs713 (fr_sw (fr_sw gt2 (List.mem_of_getElem? (i := 0) rfl) es711) (List.mem_of_getElem? (i := 0) rfl) es713) (Eq.trans (congrFun (sw_it es713) 2) (Eq.trans (congrFun (sw_it es711) 2) qt2_0)) (Eq.trans (congrFun (sw_it es713) 3) (Eq.trans (congrFun (sw_it es711) 3) qt2_1)) (Eq.trans (congrFun (sw_it es713) 4) (Eq.trans (congrFun (sw_it es711) 4) qt2_2)) (Eq.trans (congrFun (sw_it es713) 5) (Eq.trans (congrFun (sw_it es711) 5) qt2_3)) hP hD hS (lv_sub hl [0, 1] rfl) (fu_s (lo := 0) (ti_inc ez714 h697 (by decide) (by decide) (by decide) (by decide)) (by decide) hm2)
        · skip
          have g716 := g9
          refine lv_if_eq (tgt := 73) hx hb dX2_passDigits_23 (by decide) (fun c717 => ?_) (fun c717 => ?_)
          rotate_left
          · first | exact absurd c717 (by decide) | exact absurd (by decide) c717
          rw [hQ]
          exact W.vret hx hb hr (fun t ht hW => ⟨⟨t2, rfl, ⟨hBt2, hFt2, qt2_0, qt2_1, qt2_2, qt2_3, trivial⟩, by rw [ht]; exact hP, va_K.moved hW.alike (hK.sub (tys' := []) [] rfl), by rw [hAe]; exact hD⟩, by rw [hAe]; exact hS.F ht⟩) hS.2.2 dX2_passDigits_73
  exact lp2 1001 0 st _ _ _ (iv_mono (c := 0) (d := 1000) (iv_c (by decide) : Iv 0 0 0) (by decide) (by decide)) hB fr_rf rfl rfl rfl rfl hP hD hS (lv_sub hl [0, 1] rfl) (fu_i (iv_mono (c := 0) (d := 1000) (iv_c (by decide) : Iv 0 0 0) (by decide) (by decide)) (by decide))
set_option maxHeartbeats 4000000 in
set_option maxRecDepth 100000 in
theorem s_X2_next (l : Launch) (D : va_G) (k : Nat → ClassId) (a : Nat → Nat) (st : CT) (sl : CL) (sz : Nat) (hB : CB st)  : Met l yX2_next (.code yX2_next cX2_next 2 none :: TB) (rmw 3 0 0) (va_Pc [.ref (a 1)] (PW D k sz (CWS k a st sl))) (QV D (S := CT) (fun u => CB u ∧ FR [1] st u ∧ u 1 2 = st 1 2 ∧ u 1 3 = st 1 3 ∧ (True)) (fun u => CWS k a u sl) (fun _ => []) (CWS k a st sl) sz) 0 0 (va_A (CWS k a st sl) sz) := by
  refine Met.ofW (cc := cX2_next) (maxL := 2) (ret := none) (by decide) rfl ?_
  intro p e s m args below meth c s₁ B hml hv
  obtain ⟨rfl, hsz, hP, hK, hD0, hN⟩ := hv
  have hx := B.exec
  have hb := B.bytes
  have hr := B.returns
  have hT : ∀ w9 ∈ TB, w9.before ([.ref (a 1)] : List Value).toArray s = true := fun w9 h => atoms_spec (ws := .code yX2_next cX2_next 2 none :: TB) B.pre w9 (List.mem_cons_of_mem _ h)
  have hown : s.vm.findClass RX2 = some m.cls := findClass_of_methodNamed B.named
  have S : CallFix p m c cX2_next 2 s _ TB RX2 := ⟨hx, hb, hml, hown, hT⟩
  subst hsz
  have hD := hD0.self (sz := s.heap.size)
  generalize hAe : va_A (CWS k a st sl) s.heap.size = A at hD ⊢
  have hA : ∀ q : Nat, s.heap.size ≤ q → A q := fun q h => by rw [← hAe]; exact Or.inr h
  have hS : va_S A s.heap s.heap [] := va_S.rf
  have hl := lv_entry ([.ref (a 1)]) (n := 2) (Nat.le_of_ble_eq_true rfl)
  rw [lg_entry_eq]
  generalize (lg_sl ([.ref (a 1)]) ++ List.replicate (2 - (lg_sl ([.ref (a 1)])).length) Slot.unset).toArray = ls at hl ⊢
  have hl : lv_has ls 2 [(0, .ref (a 1))] := hl
  refine nameQ (fun Q hQ => ?_)
  refine lv_aload_n hx hb dX2_next_0 rfl (lv_at hl 0 rfl) ?_
  refine lv_aload_n hx hb dX2_next_1 rfl (lv_at hl 0 rfl) ?_
  refine va_get (D := D) (ci := 2) (v := .int (st 1 6)) (C := RX2) (T := TX2) (N := 8) hx hb hT in_X2 hown hK hP 1 cw_1 rfl 6 (by decide) (hT _ t282) (fun _ h9 => h9) rfl dX2_next_2 ?_
  refine c_put (ci := 2) (C := RX2) (T := TX2) (N := 8) (j := 5) (v := (st 1 6)) hx hb hT in_X2 tyX2 tyX2_ok nmX2 hown hK hP hD hS cw_1 rfl (by decide) (hT _ t281) (by decide +kernel) (by decide +kernel) rfl rfl (Nat.le_of_ble_eq_true rfl) (cs_1 (upd (st 1) 5 (st 1 6))) dX2_next_5 (fun s1 H9 locs9 es1 hP9 hD9 hS9 => ?_)
  clear hP hD hS
  have hS := hS9
  have hP := hP9
  have hD := hD9
  clear hP9 hD9 hS9
  have hBs1 : CB s1 := by rw [es1]; exact cb_sw hB trivial
  have hFs1 : FR [1] st s1 := fr_sw fr_rf (List.mem_of_getElem? (i := 0) rfl) es1
  refine lv_iconst (v := 0) hx hb dX2_next_8 (by decide) ?_
  refine lv_istore_n (lv' := [(1, .int 0), (0, .ref (a 1))]) hx hb dX2_next_9 rfl hl (by decide) rfl (fun ls hl => ?_)
  have lp10 : ∀ (n9_10 : Nat) (v1_10 : Int32) (t10 : CT) (H9 : Heap) (locs9 : List Loc) (ls : Array Slot), Iv 0 1000 v1_10 → CB t10 → FR [1] s1 t10 → t10 1 2 = s1 1 2 → t10 1 3 = s1 1 3 → t10 1 4 = s1 1 4 → t10 1 6 = s1 1 6 → t10 1 7 = s1 1 7 → va_P D vwCl (CWS k a t10 sl) H9 → va_D A (CWS k a t10 sl) → va_S A s.heap H9 locs9 → lv_has ls 2 [(1, .int v1_10), (0, .ref (a 1))] → (1000 : Int) - v1_10.toInt < (n9_10 : Int) → W p l e (rmw 3 0 0) s m ([.ref (a 1)] : List Value).toArray below meth c H9 locs9 0 0 Q (F0 m 10 ls []) := by
    clear hl hP hD hS
    intro n9_10
    induction n9_10 with
    | zero =>
      intro v1_10 t10 H9 locs9 ls iv1_10 hBt10 gt10 qt10_0 qt10_1 qt10_2 qt10_3 qt10_4 hP hD hS hl hm10
      exact (fu_0 iv1_10 hm10).elim
    | succ n9_10 ih10 =>
      intro v1_10 t10 H9 locs9 ls iv1_10 hBt10 gt10 qt10_0 qt10_1 qt10_2 qt10_3 qt10_4 hP hD hS hl hm10
      have hFt10 : FR [1] st t10 := fr_ca hFs1 gt10 (sub_1 (List.mem_of_getElem? (i := 0) rfl) sub_0)
      refine lv_iload_n hx hb dX2_next_10 rfl (lv_at hl 0 rfl) ?_
      refine lv_sipush (v := 1000) hx hb dX2_next_11 (by decide) ?_
      refine lv_icmp_ge (tgt := 50) hx hb dX2_next_14 (by decide) (fun c454 => ?_) (fun c454 => ?_)
      · skip
        have n455 : (1000 : Int32).toInt ≤ v1_10.toInt := (i_le c454)
        have h456 : Iv 1000 1000 v1_10 := le_r (iv_c (by decide) : Iv 1000 1000 1000) n455 iv1_10 (by decide)
        refine lv_aload_n hx hb dX2_next_50 rfl (lv_at hl 1 rfl) ?_
        refine va_get (D := D) (ci := 2) (v := .ref (a 2)) (C := RX2) (T := TX2) (N := 8) hx hb hT in_X2 hown hK hP 1 cw_1 rfl 0 (by decide) (hT _ t272) (fun _ h9 => h9) rfl dX2_next_51 ?_
        refine lv_aload_n hx hb dX2_next_54 rfl (lv_at hl 1 rfl) ?_
        refine va_get (D := D) (ci := 2) (v := .int (t10 1 5)) (C := RX2) (T := TX2) (N := 8) hx hb hT in_X2 hown hK hP 1 cw_1 rfl 5 (by decide) (hT _ t281) (fun _ h9 => h9) rfl dX2_next_55 ?_
        refine ro_V (As := [.int (t10 1 5)]) (rest := []) S (s_X6_byteAt l D k a t10 sl  (t10 1 5) _  hBt10  ) lkX2_171 ok_X6_byteAt ⟨rfl, rfl, Nat.le_of_ble_eq_true rfl, Nat.le_of_ble_eq_true rfl⟩ (pw_V (ci := 6) (q0 := 2) hK hN rfl cw_2 hP (hD.weaken (fun _ _ _ _ => trivial))) rfl hl.1 rfl (Nat.le_of_ble_eq_true rfl) ⟨Nat.zero_le _, Nat.zero_le _⟩ dX2_next_58 (fun r457 er457 => ?_)
        have h458 : Iv (-1) 255 r457 := er457.1
        refine lv_istore_n (lv' := [(1, .int r457), (0, .ref (a 1))]) hx hb dX2_next_61 rfl hl (by decide) rfl (fun ls hl => ?_)
        refine lv_aload_n hx hb dX2_next_62 rfl (lv_at hl 1 rfl) ?_
        refine lv_aload_n hx hb dX2_next_63 rfl (lv_at hl 1 rfl) ?_
        refine va_get (D := D) (ci := 2) (v := .int (t10 1 5)) (C := RX2) (T := TX2) (N := 8) hx hb hT in_X2 hown hK hP 1 cw_1 rfl 5 (by decide) (hT _ t281) (fun _ h9 => h9) rfl dX2_next_64 ?_
        refine c_put (ci := 2) (C := RX2) (T := TX2) (N := 8) (j := 6) (v := (t10 1 5)) hx hb hT in_X2 tyX2 tyX2_ok nmX2 hown hK hP hD hS cw_1 rfl (by decide) (hT _ t282) (by decide +kernel) (by decide +kernel) rfl rfl (Nat.le_of_ble_eq_true rfl) (cs_1 (upd (t10 1) 6 (t10 1 5))) dX2_next_67 (fun s459 H9 locs9 es459 hP9 hD9 hS9 => ?_)
        clear hP hD hS
        have hS := hS9
        have hP := hP9
        have hD := hD9
        clear hP9 hD9 hS9
        have hBs459 : CB s459 := by rw [es459]; exact cb_sw hBt10 trivial
        have hFs459 : FR [1] st s459 := fr_sw hFt10 (List.mem_of_getElem? (i := 0) rfl) es459
        refine lv_aload_n hx hb dX2_next_70 rfl (lv_at hl 1 rfl) ?_
        refine lv_iconst (v := 0) hx hb dX2_next_71 (by decide) ?_
        refine c_put (ci := 2) (C := RX2) (T := TX2) (N := 8) (j := 7) (v := 0) hx hb hT in_X2 tyX2 tyX2_ok nmX2 hown hK hP hD hS cw_1 rfl (by decide) (hT _ t283) (by decide +kernel) (by decide +kernel) rfl rfl (Nat.le_of_ble_eq_true rfl) (cs_1 (upd (s459 1) 7 0)) dX2_next_72 (fun s460 H9 locs9 es460 hP9 hD9 hS9 => ?_)
        clear hP hD hS
        have hS := hS9
        have hP := hP9
        have hD := hD9
        clear hP9 hD9 hS9
        have hBs460 : CB s460 := by rw [es460]; exact cb_sw hBs459 trivial
        have hFs460 : FR [1] st s460 := fr_sw hFs459 (List.mem_of_getElem? (i := 0) rfl) es460
        refine lv_iload_n hx hb dX2_next_75 rfl (lv_at hl 0 rfl) ?_
        refine lv_iconst (v := (-1)) hx hb dX2_next_76 (by decide) ?_
        refine lv_icmp_ne (tgt := 88) hx hb dX2_next_77 (by decide) (fun c461 => ?_) (fun c461 => ?_)
        · skip
          have h462 : Iv 0 255 r457 := ne_lo h458 (show ¬ r457 = (-1) from c461) (by decide) (by decide)
          refine lv_iload_n hx hb dX2_next_88 rfl (lv_at hl 0 rfl) ?_
          refine ro_S (As := [.int r457]) (rest := []) S (s_X2_isLetter l D k a s460 sl  r457 _  hBs460  ) lkX2_182 ok_X2_isLetter ⟨rfl, rfl, Nat.le_of_ble_eq_true rfl, Nat.le_of_ble_eq_true rfl⟩ (pw_S hK hN hP (hD.weaken (fun _ _ _ _ => trivial))) rfl hl.1 rfl (Nat.le_of_ble_eq_true rfl) ⟨Nat.zero_le _, Nat.zero_le _⟩ dX2_next_89 (fun r463 er463 => ?_)
          rcases er463 with ⟨rfl, g9⟩ | ⟨rfl, g9⟩
          · skip
            have g464 := g9
            have h465 : Iv 97 122 r457 := g464.1
            refine lv_if_eq (tgt := 107) hx hb dX2_next_92 (by decide) (fun c466 => ?_) (fun c466 => ?_)
            · first | exact absurd c466 (by decide) | exact absurd (by decide) c466
            refine lv_aload_n hx hb dX2_next_95 rfl (lv_at hl 1 rfl) ?_
            refine lv_iconst (v := 1) hx hb dX2_next_96 (by decide) ?_
            refine c_put (ci := 2) (C := RX2) (T := TX2) (N := 8) (j := 4) (v := 1) hx hb hT in_X2 tyX2 tyX2_ok nmX2 hown hK hP hD hS cw_1 rfl (by decide) (hT _ t280) (by decide +kernel) (by decide +kernel) rfl rfl (Nat.le_of_ble_eq_true rfl) (cs_1 (upd (s460 1) 4 1)) dX2_next_97 (fun s467 H9 locs9 es467 hP9 hD9 hS9 => ?_)
            clear hP hD hS
            have hS := hS9
            have hP := hP9
            have hD := hD9
            clear hP9 hD9 hS9
            have hBs467 : CB s467 := by rw [es467]; exact cb_sw hBs460 trivial
            have hFs467 : FR [1] st s467 := fr_sw hFs460 (List.mem_of_getElem? (i := 0) rfl) es467
            refine lv_aload_n hx hb dX2_next_100 rfl (lv_at hl 1 rfl) ?_
            refine ca_v hP hD hS hA (fun hDc => run_V (mc := 0) (ms := 0) (As := []) (rest := []) S (s_X2_passLetters l D k a s467 sl   _  hBs467  ) lkX2_185 ok_X2_passLetters ⟨rfl, rfl, Nat.le_of_ble_eq_true rfl, Nat.le_of_ble_eq_true rfl⟩ (pw_V (ci := 2) (q0 := 1) hK hN rfl cw_1 hP hDc) rfl hl.1 rfl (Nat.le_of_ble_eq_true rfl) ⟨Nat.zero_le _, Nat.zero_le _⟩ dX2_next_101) (fun s468 H9 locs9 hs468 hP9 hD9 hS9 => ?_)
            clear hP hD hS
            have hS := hS9
            have hP := hP9
            have hD := hD9
            clear hP9 hD9 hS9
            obtain ⟨hBs468, gs468, qs468_0, qs468_1, qs468_2, qs468_3, qs468_4, fs468⟩ := hs468
            have hFs468 : FR [1] st s468 := fr_ca hFs467 gs468 (sub_1 (List.mem_of_getElem? (i := 0) rfl) sub_0)
            refine lv_goto (tgt := 151) hx hb dX2_next_104 (by decide) ?_
            rw [hQ]
            exact W.vret hx hb hr (fun t ht hW => ⟨⟨s468, rfl, ⟨hBs468, hFs468, (Eq.trans qs468_0 (Eq.trans (congrFun (sw_it es467) 2) (Eq.trans (congrFun (sw_it es460) 2) (Eq.trans (congrFun (sw_it es459) 2) (Eq.trans qt10_0 (congrFun (sw_it es1) 2)))))), (Eq.trans qs468_1 (Eq.trans (congrFun (sw_it es467) 3) (Eq.trans (congrFun (sw_it es460) 3) (Eq.trans (congrFun (sw_it es459) 3) (Eq.trans qt10_1 (congrFun (sw_it es1) 3)))))), trivial⟩, by rw [ht]; exact hP, va_K.moved hW.alike (hK.sub (tys' := []) [] rfl), by rw [hAe]; exact hD⟩, by rw [hAe]; exact hS.F ht⟩) hS.2.2 dX2_next_151
          · skip
            have g470 := g9
            refine lv_if_eq (tgt := 107) hx hb dX2_next_92 (by decide) (fun c471 => ?_) (fun c471 => ?_)
            rotate_left
            · first | exact absurd c471 (by decide) | exact absurd (by decide) c471
            refine lv_iload_n hx hb dX2_next_107 rfl (lv_at hl 0 rfl) ?_
            refine ro_S (As := [.int r457]) (rest := []) S (s_X2_isDigit l D k a s460 sl  r457 _  hBs460  ) lkX2_188 ok_X2_isDigit ⟨rfl, rfl, Nat.le_of_ble_eq_true rfl, Nat.le_of_ble_eq_true rfl⟩ (pw_S hK hN hP (hD.weaken (fun _ _ _ _ => trivial))) rfl hl.1 rfl (Nat.le_of_ble_eq_true rfl) ⟨Nat.zero_le _, Nat.zero_le _⟩ dX2_next_108 (fun r472 er472 => ?_)
            rcases er472 with ⟨rfl, g9⟩ | ⟨rfl, g9⟩
            · skip
              have g473 := g9
              have h474 : Iv 48 57 r457 := g473.1
              refine lv_if_eq (tgt := 126) hx hb dX2_next_111 (by decide) (fun c475 => ?_) (fun c475 => ?_)
              · first | exact absurd c475 (by decide) | exact absurd (by decide) c475
              refine lv_aload_n hx hb dX2_next_114 rfl (lv_at hl 1 rfl) ?_
              refine lv_iconst (v := 2) hx hb dX2_next_115 (by decide) ?_
              refine c_put (ci := 2) (C := RX2) (T := TX2) (N := 8) (j := 4) (v := 2) hx hb hT in_X2 tyX2 tyX2_ok nmX2 hown hK hP hD hS cw_1 rfl (by decide) (hT _ t280) (by decide +kernel) (by decide +kernel) rfl rfl (Nat.le_of_ble_eq_true rfl) (cs_1 (upd (s460 1) 4 2)) dX2_next_116 (fun s476 H9 locs9 es476 hP9 hD9 hS9 => ?_)
              clear hP hD hS
              have hS := hS9
              have hP := hP9
              have hD := hD9
              clear hP9 hD9 hS9
              have hBs476 : CB s476 := by rw [es476]; exact cb_sw hBs460 trivial
              have hFs476 : FR [1] st s476 := fr_sw hFs460 (List.mem_of_getElem? (i := 0) rfl) es476
              refine lv_aload_n hx hb dX2_next_119 rfl (lv_at hl 1 rfl) ?_
              refine ca_v hP hD hS hA (fun hDc => run_V (mc := 0) (ms := 0) (As := []) (rest := []) S (s_X2_passDigits l D k a s476 sl   _  hBs476  ) lkX2_191 ok_X2_passDigits ⟨rfl, rfl, Nat.le_of_ble_eq_true rfl, Nat.le_of_ble_eq_true rfl⟩ (pw_V (ci := 2) (q0 := 1) hK hN rfl cw_1 hP hDc) rfl hl.1 rfl (Nat.le_of_ble_eq_true rfl) ⟨Nat.zero_le _, Nat.zero_le _⟩ dX2_next_120) (fun s477 H9 locs9 hs477 hP9 hD9 hS9 => ?_)
              clear hP hD hS
              have hS := hS9
              have hP := hP9
              have hD := hD9
              clear hP9 hD9 hS9
              obtain ⟨hBs477, gs477, qs477_0, qs477_1, qs477_2, qs477_3, fs477⟩ := hs477
              have hFs477 : FR [1] st s477 := fr_ca hFs476 gs477 (sub_1 (List.mem_of_getElem? (i := 0) rfl) sub_0)
              refine lv_goto (tgt := 151) hx hb dX2_next_123 (by decide) ?_
              rw [hQ]
              exact W.vret hx hb hr (fun t ht hW => ⟨⟨s477, rfl, ⟨hBs477, hFs477, (Eq.trans qs477_0 (Eq.trans (congrFun (sw_it es476) 2) (Eq.trans (congrFun (sw_it es460) 2) (Eq.trans (congrFun (sw_it es459) 2) (Eq.trans qt10_0 (congrFun (sw_it es1) 2)))))), (Eq.trans qs477_1 (Eq.trans (congrFun (sw_it es476) 3) (Eq.trans (congrFun (sw_it es460) 3) (Eq.trans (congrFun (sw_it es459) 3) (Eq.trans qt10_1 (congrFun (sw_it es1) 3)))))), trivial⟩, by rw [ht]; exact hP, va_K.moved hW.alike (hK.sub (tys' := []) [] rfl), by rw [hAe]; exact hD⟩, by rw [hAe]; exact hS.F ht⟩) hS.2.2 dX2_next_151
            · skip
              have g479 := g9
              refine lv_if_eq (tgt := 126) hx hb dX2_next_111 (by decide) (fun c480 => ?_) (fun c480 => ?_)
              rotate_left
              · first | exact absurd c480 (by decide) | exact absurd (by decide) c480
              refine lv_aload_n hx hb dX2_next_126 rfl (lv_at hl 1 rfl) ?_
              refine lv_iload_n hx hb dX2_next_127 rfl (lv_at hl 0 rfl) ?_
              refine lv_bipush (v := 59) hx hb dX2_next_128 (by decide) ?_
              refine lv_icmp_ne (tgt := 137) hx hb dX2_next_130 (by decide) (fun c481 => ?_) (fun c481 => ?_)
              · skip
                refine lv_iconst (v := 4) hx hb dX2_next_137 (by decide) ?_
                refine c_put (ci := 2) (C := RX2) (T := TX2) (N := 8) (j := 4) (v := 4) hx hb hT in_X2 tyX2 tyX2_ok nmX2 hown hK hP hD hS cw_1 rfl (by decide) (hT _ t280) (by decide +kernel) (by decide +kernel) rfl rfl (Nat.le_of_ble_eq_true rfl) (cs_1 (upd (s460 1) 4 4)) dX2_next_138 (fun s482 H9 locs9 es482 hP9 hD9 hS9 => ?_)
                clear hP hD hS
                have hS := hS9
                have hP := hP9
                have hD := hD9
                clear hP9 hD9 hS9
                have hBs482 : CB s482 := by rw [es482]; exact cb_sw hBs460 trivial
                have hFs482 : FR [1] st s482 := fr_sw hFs460 (List.mem_of_getElem? (i := 0) rfl) es482
                refine lv_aload_n hx hb dX2_next_141 rfl (lv_at hl 1 rfl) ?_
                refine lv_dup hx hb dX2_next_142 rfl ?_
                refine va_get (D := D) (ci := 2) (v := .int (s482 1 6)) (C := RX2) (T := TX2) (N := 8) hx hb hT in_X2 hown hK hP 1 cw_1 rfl 6 (by decide) (hT _ t282) (fun _ h9 => h9) rfl dX2_next_143 ?_
                refine k_top (y := (t10 1 5)) (Eq.trans (congrFun (sw_it es482) 6) (Eq.trans (congrFun (sw_it es460) 6) (congrFun (sw_it es459) 6))) ?_
                refine lv_iconst (v := 1) hx hb dX2_next_146 (by decide) ?_
                refine lv_iadd hx hb dX2_next_147 ?_
                refine lv_topi (fun z483 ez483 => ?_)
                refine c_put (ci := 2) (C := RX2) (T := TX2) (N := 8) (j := 6) (v := z483) hx hb hT in_X2 tyX2 tyX2_ok nmX2 hown hK hP hD hS cw_1 rfl (by decide) (hT _ t282) (by decide +kernel) (by decide +kernel) rfl rfl (Nat.le_of_ble_eq_true rfl) (cs_1 (upd (s482 1) 6 z483)) dX2_next_148 (fun s484 H9 locs9 es484 hP9 hD9 hS9 => ?_)
                clear hP hD hS
                have hS := hS9
                have hP := hP9
                have hD := hD9
                clear hP9 hD9 hS9
                have hBs484 : CB s484 := by rw [es484]; exact cb_sw hBs482 trivial
                have hFs484 : FR [1] st s484 := fr_sw hFs482 (List.mem_of_getElem? (i := 0) rfl) es484
                rw [hQ]
                exact W.vret hx hb hr (fun t ht hW => ⟨⟨s484, rfl, ⟨hBs484, hFs484, (Eq.trans (congrFun (sw_it es484) 2) (Eq.trans (congrFun (sw_it es482) 2) (Eq.trans (congrFun (sw_it es460) 2) (Eq.trans (congrFun (sw_it es459) 2) (Eq.trans qt10_0 (congrFun (sw_it es1) 2)))))), (Eq.trans (congrFun (sw_it es484) 3) (Eq.trans (congrFun (sw_it es482) 3) (Eq.trans (congrFun (sw_it es460) 3) (Eq.trans (congrFun (sw_it es459) 3) (Eq.trans qt10_1 (congrFun (sw_it es1) 3)))))), trivial⟩, by rw [ht]; exact hP, va_K.moved hW.alike (hK.sub (tys' := []) [] rfl), by rw [hAe]; exact hD⟩, by rw [hAe]; exact hS.F ht⟩) hS.2.2 dX2_next_151
              · skip
                have h485 : Iv 59 59 r457 := eq_l c481 (iv_c (by decide) : Iv 59 59 59)
                refine lv_iconst (v := 3) hx hb dX2_next_133 (by decide) ?_
                refine lv_goto (tgt := 138) hx hb dX2_next_134 (by decide) ?_
                refine c_put (ci := 2) (C := RX2) (T := TX2) (N := 8) (j := 4) (v := 3) hx hb hT in_X2 tyX2 tyX2_ok nmX2 hown hK hP hD hS cw_1 rfl (by decide) (hT _ t280) (by decide +kernel) (by decide +kernel) rfl rfl (Nat.le_of_ble_eq_true rfl) (cs_1 (upd (s460 1) 4 3)) dX2_next_138 (fun s486 H9 locs9 es486 hP9 hD9 hS9 => ?_)
                clear hP hD hS
                have hS := hS9
                have hP := hP9
                have hD := hD9
                clear hP9 hD9 hS9
                have hBs486 : CB s486 := by rw [es486]; exact cb_sw hBs460 trivial
                have hFs486 : FR [1] st s486 := fr_sw hFs460 (List.mem_of_getElem? (i := 0) rfl) es486
                refine lv_aload_n hx hb dX2_next_141 rfl (lv_at hl 1 rfl) ?_
                refine lv_dup hx hb dX2_next_142 rfl ?_
                refine va_get (D := D) (ci := 2) (v := .int (s486 1 6)) (C := RX2) (T := TX2) (N := 8) hx hb hT in_X2 hown hK hP 1 cw_1 rfl 6 (by decide) (hT _ t282) (fun _ h9 => h9) rfl dX2_next_143 ?_
                refine k_top (y := (t10 1 5)) (Eq.trans (congrFun (sw_it es486) 6) (Eq.trans (congrFun (sw_it es460) 6) (congrFun (sw_it es459) 6))) ?_
                refine lv_iconst (v := 1) hx hb dX2_next_146 (by decide) ?_
                refine lv_iadd hx hb dX2_next_147 ?_
                refine lv_topi (fun z487 ez487 => ?_)
                refine c_put (ci := 2) (C := RX2) (T := TX2) (N := 8) (j := 6) (v := z487) hx hb hT in_X2 tyX2 tyX2_ok nmX2 hown hK hP hD hS cw_1 rfl (by decide) (hT _ t282) (by decide +kernel) (by decide +kernel) rfl rfl (Nat.le_of_ble_eq_true rfl) (cs_1 (upd (s486 1) 6 z487)) dX2_next_148 (fun s488 H9 locs9 es488 hP9 hD9 hS9 => ?_)
                clear hP hD hS
                have hS := hS9
                have hP := hP9
                have hD := hD9
                clear hP9 hD9 hS9
                have hBs488 : CB s488 := by rw [es488]; exact cb_sw hBs486 trivial
                have hFs488 : FR [1] st s488 := fr_sw hFs486 (List.mem_of_getElem? (i := 0) rfl) es488
                rw [hQ]
                exact W.vret hx hb hr (fun t ht hW => ⟨⟨s488, rfl, ⟨hBs488, hFs488, (Eq.trans (congrFun (sw_it es488) 2) (Eq.trans (congrFun (sw_it es486) 2) (Eq.trans (congrFun (sw_it es460) 2) (Eq.trans (congrFun (sw_it es459) 2) (Eq.trans qt10_0 (congrFun (sw_it es1) 2)))))), (Eq.trans (congrFun (sw_it es488) 3) (Eq.trans (congrFun (sw_it es486) 3) (Eq.trans (congrFun (sw_it es460) 3) (Eq.trans (congrFun (sw_it es459) 3) (Eq.trans qt10_1 (congrFun (sw_it es1) 3)))))), trivial⟩, by rw [ht]; exact hP, va_K.moved hW.alike (hK.sub (tys' := []) [] rfl), by rw [hAe]; exact hD⟩, by rw [hAe]; exact hS.F ht⟩) hS.2.2 dX2_next_151
        · skip
          have h489 : Iv (-1) (-1) r457 := eq_l c461 (iv_c (by decide) : Iv (-1) (-1) (-1))
          refine lv_aload_n hx hb dX2_next_80 rfl (lv_at hl 1 rfl) ?_
          refine lv_iconst (v := 0) hx hb dX2_next_81 (by decide) ?_
          refine c_put (ci := 2) (C := RX2) (T := TX2) (N := 8) (j := 4) (v := 0) hx hb hT in_X2 tyX2 tyX2_ok nmX2 hown hK hP hD hS cw_1 rfl (by decide) (hT _ t280) (by decide +kernel) (by decide +kernel) rfl rfl (Nat.le_of_ble_eq_true rfl) (cs_1 (upd (s460 1) 4 0)) dX2_next_82 (fun s490 H9 locs9 es490 hP9 hD9 hS9 => ?_)
          clear hP hD hS
          have hS := hS9
          have hP := hP9
          have hD := hD9
          clear hP9 hD9 hS9
          have hBs490 : CB s490 := by rw [es490]; exact cb_sw hBs460 trivial
          have hFs490 : FR [1] st s490 := fr_sw hFs460 (List.mem_of_getElem? (i := 0) rfl) es490
          refine lv_goto (tgt := 151) hx hb dX2_next_85 (by decide) ?_
          rw [hQ]
          exact W.vret hx hb hr (fun t ht hW => ⟨⟨s490, rfl, ⟨hBs490, hFs490, (Eq.trans (congrFun (sw_it es490) 2) (Eq.trans (congrFun (sw_it es460) 2) (Eq.trans (congrFun (sw_it es459) 2) (Eq.trans qt10_0 (congrFun (sw_it es1) 2))))), (Eq.trans (congrFun (sw_it es490) 3) (Eq.trans (congrFun (sw_it es460) 3) (Eq.trans (congrFun (sw_it es459) 3) (Eq.trans qt10_1 (congrFun (sw_it es1) 3))))), trivial⟩, by rw [ht]; exact hP, va_K.moved hW.alike (hK.sub (tys' := []) [] rfl), by rw [hAe]; exact hD⟩, by rw [hAe]; exact hS.F ht⟩) hS.2.2 dX2_next_151
      · skip
        have n491 : v1_10.toInt < (1000 : Int32).toInt := (i_nle c454)
        have h492 : Iv 0 999 v1_10 := lt_l iv1_10 n491 (iv_c (by decide) : Iv 1000 1000 1000) (by decide)
        refine lv_aload_n hx hb dX2_next_17 rfl (lv_at hl 1 rfl) ?_
        refine va_get (D := D) (ci := 2) (v := .ref (a 2)) (C := RX2) (T := TX2) (N := 8) hx hb hT in_X2 hown hK hP 1 cw_1 rfl 0 (by decide) (hT _ t272) (fun _ h9 => h9) rfl dX2_next_18 ?_
        refine lv_aload_n hx hb dX2_next_21 rfl (lv_at hl 1 rfl) ?_
        refine va_get (D := D) (ci := 2) (v := .int (t10 1 5)) (C := RX2) (T := TX2) (N := 8) hx hb hT in_X2 hown hK hP 1 cw_1 rfl 5 (by decide) (hT _ t281) (fun _ h9 => h9) rfl dX2_next_22 ?_
        refine ro_V (As := [.int (t10 1 5)]) (rest := []) S (s_X6_byteAt l D k a t10 sl  (t10 1 5) _  hBt10  ) lkX2_171 ok_X6_byteAt ⟨rfl, rfl, Nat.le_of_ble_eq_true rfl, Nat.le_of_ble_eq_true rfl⟩ (pw_V (ci := 6) (q0 := 2) hK hN rfl cw_2 hP (hD.weaken (fun _ _ _ _ => trivial))) rfl hl.1 rfl (Nat.le_of_ble_eq_true rfl) ⟨Nat.zero_le _, Nat.zero_le _⟩ dX2_next_25 (fun r493 er493 => ?_)
        have h494 : Iv (-1) 255 r493 := er493.1
        refine ro_S (As := [.int r493]) (rest := []) S (s_X2_isBlank l D k a t10 sl  r493 _  hBt10  ) lkX2_179 ok_X2_isBlank ⟨rfl, rfl, Nat.le_of_ble_eq_true rfl, Nat.le_of_ble_eq_true rfl⟩ (pw_S hK hN hP (hD.weaken (fun _ _ _ _ => trivial))) rfl hl.1 rfl (Nat.le_of_ble_eq_true rfl) ⟨Nat.zero_le _, Nat.zero_le _⟩ dX2_next_28 (fun r495 er495 => ?_)
        rcases er495 with ⟨rfl, g9⟩ | ⟨rfl, g9⟩
        · skip
          have g496 := g9
          have h497 : Iv 10 32 r493 := g496.1
          refine lv_if_eq (tgt := 50) hx hb dX2_next_31 (by decide) (fun c498 => ?_) (fun c498 => ?_)
          · first | exact absurd c498 (by decide) | exact absurd (by decide) c498
          refine lv_aload_n hx hb dX2_next_34 rfl (lv_at hl 1 rfl) ?_
          refine lv_dup hx hb dX2_next_35 rfl ?_
          refine va_get (D := D) (ci := 2) (v := .int (t10 1 5)) (C := RX2) (T := TX2) (N := 8) hx hb hT in_X2 hown hK hP 1 cw_1 rfl 5 (by decide) (hT _ t281) (fun _ h9 => h9) rfl dX2_next_36 ?_
          refine lv_iconst (v := 1) hx hb dX2_next_39 (by decide) ?_
          refine lv_iadd hx hb dX2_next_40 ?_
          refine lv_topi (fun z499 ez499 => ?_)
          refine c_put (ci := 2) (C := RX2) (T := TX2) (N := 8) (j := 5) (v := z499) hx hb hT in_X2 tyX2 tyX2_ok nmX2 hown hK hP hD hS cw_1 rfl (by decide) (hT _ t281) (by decide +kernel) (by decide +kernel) rfl rfl (Nat.le_of_ble_eq_true rfl) (cs_1 (upd (t10 1) 5 z499)) dX2_next_41 (fun s500 H9 locs9 es500 hP9 hD9 hS9 => ?_)
          clear hP hD hS
          have hS := hS9
          have hP := hP9
          have hD := hD9
          clear hP9 hD9 hS9
          have hBs500 : CB s500 := by rw [es500]; exact cb_sw hBt10 trivial
          have hFs500 : FR [1] st s500 := fr_sw hFt10 (List.mem_of_getElem? (i := 0) rfl) es500
          obtain ⟨z501, ez501⟩ : ∃ z9 : Int32, z9 = v1_10 + Int32.ofInt 1 := ⟨_, rfl⟩
          have h502 : Iv 1 1000 z501 := iv_inc ez501 h492 (by decide) (by decide) (by decide) (by decide) (by decide) (by decide)
          refine lv_iinc (v := z501) (lv' := [(1, .int z501), (0, .ref (a 1))]) hx hb dX2_next_44 hl (k := 0) rfl ez501.symm (by decide) rfl (fun ls hl => ?_)
          refine lv_goto (tgt := 10) hx hb dX2_next_47 (by decide) ?_
          exact ih10 z501 s500 _ _ _ (iv_mono (c := 0) (d := 1000) h502 (by decide) (by decide)) hBs500 (fr_sw gt10 (List.mem_of_getElem? (i := 0) rfl) es500) (Eq.trans (Eq.trans (congrFun (sw_it es500) 2) (Eq.trans qt10_0 (congrFun (sw_it es1) 2))) (Eq.symm (congrFun (sw_it es1) 2))) (Eq.trans (Eq.trans (congrFun (sw_it es500) 3) (Eq.trans qt10_1 (congrFun (sw_it es1) 3))) (Eq.symm (congrFun (sw_it es1) 3))) (Eq.trans (Eq.trans (congrFun (sw_it es500) 4) (Eq.trans qt10_2 (congrFun (sw_it es1) 4))) (Eq.symm (congrFun (sw_it es1) 4))) (Eq.trans (Eq.trans (congrFun (sw_it es500) 6) (Eq.trans qt10_3 (congrFun (sw_it es1) 6))) (Eq.symm (congrFun (sw_it es1) 6))) (Eq.trans (Eq.trans (congrFun (sw_it es500) 7) (Eq.trans qt10_4 (congrFun (sw_it es1) 7))) (Eq.symm (congrFun (sw_it es1) 7))) hP hD hS (lv_sub hl [0, 1] rfl) (fu_s (lo := 0) (ti_inc ez501 h492 (by decide) (by decide) (by decide) (by decide)) (by decide) hm10)
        · skip
          have g503 := g9
          refine lv_if_eq (tgt := 50) hx hb dX2_next_31 (by decide) (fun c504 => ?_) (fun c504 => ?_)
          rotate_left
          · first | exact absurd c504 (by decide) | exact absurd (by decide) c504
          refine lv_aload_n hx hb dX2_next_50 rfl (lv_at hl 1 rfl) ?_
          refine va_get (D := D) (ci := 2) (v := .ref (a 2)) (C := RX2) (T := TX2) (N := 8) hx hb hT in_X2 hown hK hP 1 cw_1 rfl 0 (by decide) (hT _ t272) (fun _ h9 => h9) rfl dX2_next_51 ?_
          refine lv_aload_n hx hb dX2_next_54 rfl (lv_at hl 1 rfl) ?_
          refine va_get (D := D) (ci := 2) (v := .int (t10 1 5)) (C := RX2) (T := TX2) (N := 8) hx hb hT in_X2 hown hK hP 1 cw_1 rfl 5 (by decide) (hT _ t281) (fun _ h9 => h9) rfl dX2_next_55 ?_
          refine ro_V (As := [.int (t10 1 5)]) (rest := []) S (s_X6_byteAt l D k a t10 sl  (t10 1 5) _  hBt10  ) lkX2_171 ok_X6_byteAt ⟨rfl, rfl, Nat.le_of_ble_eq_true rfl, Nat.le_of_ble_eq_true rfl⟩ (pw_V (ci := 6) (q0 := 2) hK hN rfl cw_2 hP (hD.weaken (fun _ _ _ _ => trivial))) rfl hl.1 rfl (Nat.le_of_ble_eq_true rfl) ⟨Nat.zero_le _, Nat.zero_le _⟩ dX2_next_58 (fun r505 er505 => ?_)
          have h506 : Iv (-1) 255 r505 := er505.1
          refine lv_istore_n (lv' := [(1, .int r505), (0, .ref (a 1))]) hx hb dX2_next_61 rfl hl (by decide) rfl (fun ls hl => ?_)
          refine lv_aload_n hx hb dX2_next_62 rfl (lv_at hl 1 rfl) ?_
          refine lv_aload_n hx hb dX2_next_63 rfl (lv_at hl 1 rfl) ?_
          refine va_get (D := D) (ci := 2) (v := .int (t10 1 5)) (C := RX2) (T := TX2) (N := 8) hx hb hT in_X2 hown hK hP 1 cw_1 rfl 5 (by decide) (hT _ t281) (fun _ h9 => h9) rfl dX2_next_64 ?_
          refine c_put (ci := 2) (C := RX2) (T := TX2) (N := 8) (j := 6) (v := (t10 1 5)) hx hb hT in_X2 tyX2 tyX2_ok nmX2 hown hK hP hD hS cw_1 rfl (by decide) (hT _ t282) (by decide +kernel) (by decide +kernel) rfl rfl (Nat.le_of_ble_eq_true rfl) (cs_1 (upd (t10 1) 6 (t10 1 5))) dX2_next_67 (fun s507 H9 locs9 es507 hP9 hD9 hS9 => ?_)
          clear hP hD hS
          have hS := hS9
          have hP := hP9
          have hD := hD9
          clear hP9 hD9 hS9
          have hBs507 : CB s507 := by rw [es507]; exact cb_sw hBt10 trivial
          have hFs507 : FR [1] st s507 := fr_sw hFt10 (List.mem_of_getElem? (i := 0) rfl) es507
          refine lv_aload_n hx hb dX2_next_70 rfl (lv_at hl 1 rfl) ?_
          refine lv_iconst (v := 0) hx hb dX2_next_71 (by decide) ?_
          refine c_put (ci := 2) (C := RX2) (T := TX2) (N := 8) (j := 7) (v := 0) hx hb hT in_X2 tyX2 tyX2_ok nmX2 hown hK hP hD hS cw_1 rfl (by decide) (hT _ t283) (by decide +kernel) (by decide +kernel) rfl rfl (Nat.le_of_ble_eq_true rfl) (cs_1 (upd (s507 1) 7 0)) dX2_next_72 (fun s508 H9 locs9 es508 hP9 hD9 hS9 => ?_)
          clear hP hD hS
          have hS := hS9
          have hP := hP9
          have hD := hD9
          clear hP9 hD9 hS9
          have hBs508 : CB s508 := by rw [es508]; exact cb_sw hBs507 trivial
          have hFs508 : FR [1] st s508 := fr_sw hFs507 (List.mem_of_getElem? (i := 0) rfl) es508
          refine lv_iload_n hx hb dX2_next_75 rfl (lv_at hl 0 rfl) ?_
          refine lv_iconst (v := (-1)) hx hb dX2_next_76 (by decide) ?_
          refine lv_icmp_ne (tgt := 88) hx hb dX2_next_77 (by decide) (fun c509 => ?_) (fun c509 => ?_)
          · skip
            have h510 : Iv 0 255 r505 := ne_lo h506 (show ¬ r505 = (-1) from c509) (by decide) (by decide)
            refine lv_iload_n hx hb dX2_next_88 rfl (lv_at hl 0 rfl) ?_
            refine ro_S (As := [.int r505]) (rest := []) S (s_X2_isLetter l D k a s508 sl  r505 _  hBs508  ) lkX2_182 ok_X2_isLetter ⟨rfl, rfl, Nat.le_of_ble_eq_true rfl, Nat.le_of_ble_eq_true rfl⟩ (pw_S hK hN hP (hD.weaken (fun _ _ _ _ => trivial))) rfl hl.1 rfl (Nat.le_of_ble_eq_true rfl) ⟨Nat.zero_le _, Nat.zero_le _⟩ dX2_next_89 (fun r511 er511 => ?_)
            rcases er511 with ⟨rfl, g9⟩ | ⟨rfl, g9⟩
            · skip
              have g512 := g9
              have h513 : Iv 97 122 r505 := g512.1
              refine lv_if_eq (tgt := 107) hx hb dX2_next_92 (by decide) (fun c514 => ?_) (fun c514 => ?_)
              · first | exact absurd c514 (by decide) | exact absurd (by decide) c514
              refine lv_aload_n hx hb dX2_next_95 rfl (lv_at hl 1 rfl) ?_
              refine lv_iconst (v := 1) hx hb dX2_next_96 (by decide) ?_
              refine c_put (ci := 2) (C := RX2) (T := TX2) (N := 8) (j := 4) (v := 1) hx hb hT in_X2 tyX2 tyX2_ok nmX2 hown hK hP hD hS cw_1 rfl (by decide) (hT _ t280) (by decide +kernel) (by decide +kernel) rfl rfl (Nat.le_of_ble_eq_true rfl) (cs_1 (upd (s508 1) 4 1)) dX2_next_97 (fun s515 H9 locs9 es515 hP9 hD9 hS9 => ?_)
              clear hP hD hS
              have hS := hS9
              have hP := hP9
              have hD := hD9
              clear hP9 hD9 hS9
              have hBs515 : CB s515 := by rw [es515]; exact cb_sw hBs508 trivial
              have hFs515 : FR [1] st s515 := fr_sw hFs508 (List.mem_of_getElem? (i := 0) rfl) es515
              refine lv_aload_n hx hb dX2_next_100 rfl (lv_at hl 1 rfl) ?_
              refine ca_v hP hD hS hA (fun hDc => run_V (mc := 0) (ms := 0) (As := []) (rest := []) S (s_X2_passLetters l D k a s515 sl   _  hBs515  ) lkX2_185 ok_X2_passLetters ⟨rfl, rfl, Nat.le_of_ble_eq_true rfl, Nat.le_of_ble_eq_true rfl⟩ (pw_V (ci := 2) (q0 := 1) hK hN rfl cw_1 hP hDc) rfl hl.1 rfl (Nat.le_of_ble_eq_true rfl) ⟨Nat.zero_le _, Nat.zero_le _⟩ dX2_next_101) (fun s516 H9 locs9 hs516 hP9 hD9 hS9 => ?_)
              clear hP hD hS
              have hS := hS9
              have hP := hP9
              have hD := hD9
              clear hP9 hD9 hS9
              obtain ⟨hBs516, gs516, qs516_0, qs516_1, qs516_2, qs516_3, qs516_4, fs516⟩ := hs516
              have hFs516 : FR [1] st s516 := fr_ca hFs515 gs516 (sub_1 (List.mem_of_getElem? (i := 0) rfl) sub_0)
              refine lv_goto (tgt := 151) hx hb dX2_next_104 (by decide) ?_
              rw [hQ]
              exact W.vret hx hb hr (fun t ht hW => ⟨⟨s516, rfl, ⟨hBs516, hFs516, (Eq.trans qs516_0 (Eq.trans (congrFun (sw_it es515) 2) (Eq.trans (congrFun (sw_it es508) 2) (Eq.trans (congrFun (sw_it es507) 2) (Eq.trans qt10_0 (congrFun (sw_it es1) 2)))))), (Eq.trans qs516_1 (Eq.trans (congrFun (sw_it es515) 3) (Eq.trans (congrFun (sw_it es508) 3) (Eq.trans (congrFun (sw_it es507) 3) (Eq.trans qt10_1 (congrFun (sw_it es1) 3)))))), trivial⟩, by rw [ht]; exact hP, va_K.moved hW.alike (hK.sub (tys' := []) [] rfl), by rw [hAe]; exact hD⟩, by rw [hAe]; exact hS.F ht⟩) hS.2.2 dX2_next_151
            · skip
              have g518 := g9
              refine lv_if_eq (tgt := 107) hx hb dX2_next_92 (by decide) (fun c519 => ?_) (fun c519 => ?_)
              rotate_left
              · first | exact absurd c519 (by decide) | exact absurd (by decide) c519
              refine lv_iload_n hx hb dX2_next_107 rfl (lv_at hl 0 rfl) ?_
              refine ro_S (As := [.int r505]) (rest := []) S (s_X2_isDigit l D k a s508 sl  r505 _  hBs508  ) lkX2_188 ok_X2_isDigit ⟨rfl, rfl, Nat.le_of_ble_eq_true rfl, Nat.le_of_ble_eq_true rfl⟩ (pw_S hK hN hP (hD.weaken (fun _ _ _ _ => trivial))) rfl hl.1 rfl (Nat.le_of_ble_eq_true rfl) ⟨Nat.zero_le _, Nat.zero_le _⟩ dX2_next_108 (fun r520 er520 => ?_)
              rcases er520 with ⟨rfl, g9⟩ | ⟨rfl, g9⟩
              · skip
                have g521 := g9
                have h522 : Iv 48 57 r505 := g521.1
                refine lv_if_eq (tgt := 126) hx hb dX2_next_111 (by decide) (fun c523 => ?_) (fun c523 => ?_)
                · first | exact absurd c523 (by decide) | exact absurd (by decide) c523
                refine lv_aload_n hx hb dX2_next_114 rfl (lv_at hl 1 rfl) ?_
                refine lv_iconst (v := 2) hx hb dX2_next_115 (by decide) ?_
                refine c_put (ci := 2) (C := RX2) (T := TX2) (N := 8) (j := 4) (v := 2) hx hb hT in_X2 tyX2 tyX2_ok nmX2 hown hK hP hD hS cw_1 rfl (by decide) (hT _ t280) (by decide +kernel) (by decide +kernel) rfl rfl (Nat.le_of_ble_eq_true rfl) (cs_1 (upd (s508 1) 4 2)) dX2_next_116 (fun s524 H9 locs9 es524 hP9 hD9 hS9 => ?_)
                clear hP hD hS
                have hS := hS9
                have hP := hP9
                have hD := hD9
                clear hP9 hD9 hS9
                have hBs524 : CB s524 := by rw [es524]; exact cb_sw hBs508 trivial
                have hFs524 : FR [1] st s524 := fr_sw hFs508 (List.mem_of_getElem? (i := 0) rfl) es524
                refine lv_aload_n hx hb dX2_next_119 rfl (lv_at hl 1 rfl) ?_
                refine ca_v hP hD hS hA (fun hDc => run_V (mc := 0) (ms := 0) (As := []) (rest := []) S (s_X2_passDigits l D k a s524 sl   _  hBs524  ) lkX2_191 ok_X2_passDigits ⟨rfl, rfl, Nat.le_of_ble_eq_true rfl, Nat.le_of_ble_eq_true rfl⟩ (pw_V (ci := 2) (q0 := 1) hK hN rfl cw_1 hP hDc) rfl hl.1 rfl (Nat.le_of_ble_eq_true rfl) ⟨Nat.zero_le _, Nat.zero_le _⟩ dX2_next_120) (fun s525 H9 locs9 hs525 hP9 hD9 hS9 => ?_)
                clear hP hD hS
                have hS := hS9
                have hP := hP9
                have hD := hD9
                clear hP9 hD9 hS9
                obtain ⟨hBs525, gs525, qs525_0, qs525_1, qs525_2, qs525_3, fs525⟩ := hs525
                have hFs525 : FR [1] st s525 := fr_ca hFs524 gs525 (sub_1 (List.mem_of_getElem? (i := 0) rfl) sub_0)
                refine lv_goto (tgt := 151) hx hb dX2_next_123 (by decide) ?_
                rw [hQ]
                exact W.vret hx hb hr (fun t ht hW => ⟨⟨s525, rfl, ⟨hBs525, hFs525, (Eq.trans qs525_0 (Eq.trans (congrFun (sw_it es524) 2) (Eq.trans (congrFun (sw_it es508) 2) (Eq.trans (congrFun (sw_it es507) 2) (Eq.trans qt10_0 (congrFun (sw_it es1) 2)))))), (Eq.trans qs525_1 (Eq.trans (congrFun (sw_it es524) 3) (Eq.trans (congrFun (sw_it es508) 3) (Eq.trans (congrFun (sw_it es507) 3) (Eq.trans qt10_1 (congrFun (sw_it es1) 3)))))), trivial⟩, by rw [ht]; exact hP, va_K.moved hW.alike (hK.sub (tys' := []) [] rfl), by rw [hAe]; exact hD⟩, by rw [hAe]; exact hS.F ht⟩) hS.2.2 dX2_next_151
              · skip
                have g527 := g9
                refine lv_if_eq (tgt := 126) hx hb dX2_next_111 (by decide) (fun c528 => ?_) (fun c528 => ?_)
                rotate_left
                · first | exact absurd c528 (by decide) | exact absurd (by decide) c528
                refine lv_aload_n hx hb dX2_next_126 rfl (lv_at hl 1 rfl) ?_
                refine lv_iload_n hx hb dX2_next_127 rfl (lv_at hl 0 rfl) ?_
                refine lv_bipush (v := 59) hx hb dX2_next_128 (by decide) ?_
                refine lv_icmp_ne (tgt := 137) hx hb dX2_next_130 (by decide) (fun c529 => ?_) (fun c529 => ?_)
                · skip
                  refine lv_iconst (v := 4) hx hb dX2_next_137 (by decide) ?_
                  refine c_put (ci := 2) (C := RX2) (T := TX2) (N := 8) (j := 4) (v := 4) hx hb hT in_X2 tyX2 tyX2_ok nmX2 hown hK hP hD hS cw_1 rfl (by decide) (hT _ t280) (by decide +kernel) (by decide +kernel) rfl rfl (Nat.le_of_ble_eq_true rfl) (cs_1 (upd (s508 1) 4 4)) dX2_next_138 (fun s530 H9 locs9 es530 hP9 hD9 hS9 => ?_)
                  clear hP hD hS
                  have hS := hS9
                  have hP := hP9
                  have hD := hD9
                  clear hP9 hD9 hS9
                  have hBs530 : CB s530 := by rw [es530]; exact cb_sw hBs508 trivial
                  have hFs530 : FR [1] st s530 := fr_sw hFs508 (List.mem_of_getElem? (i := 0) rfl) es530
                  refine lv_aload_n hx hb dX2_next_141 rfl (lv_at hl 1 rfl) ?_
                  refine lv_dup hx hb dX2_next_142 rfl ?_
                  refine va_get (D := D) (ci := 2) (v := .int (s530 1 6)) (C := RX2) (T := TX2) (N := 8) hx hb hT in_X2 hown hK hP 1 cw_1 rfl 6 (by decide) (hT _ t282) (fun _ h9 => h9) rfl dX2_next_143 ?_
                  refine k_top (y := (t10 1 5)) (Eq.trans (congrFun (sw_it es530) 6) (Eq.trans (congrFun (sw_it es508) 6) (congrFun (sw_it es507) 6))) ?_
                  refine lv_iconst (v := 1) hx hb dX2_next_146 (by decide) ?_
                  refine lv_iadd hx hb dX2_next_147 ?_
                  refine lv_topi (fun z531 ez531 => ?_)
                  refine c_put (ci := 2) (C := RX2) (T := TX2) (N := 8) (j := 6) (v := z531) hx hb hT in_X2 tyX2 tyX2_ok nmX2 hown hK hP hD hS cw_1 rfl (by decide) (hT _ t282) (by decide +kernel) (by decide +kernel) rfl rfl (Nat.le_of_ble_eq_true rfl) (cs_1 (upd (s530 1) 6 z531)) dX2_next_148 (fun s532 H9 locs9 es532 hP9 hD9 hS9 => ?_)
                  clear hP hD hS
                  have hS := hS9
                  have hP := hP9
                  have hD := hD9
                  clear hP9 hD9 hS9
                  have hBs532 : CB s532 := by rw [es532]; exact cb_sw hBs530 trivial
                  have hFs532 : FR [1] st s532 := fr_sw hFs530 (List.mem_of_getElem? (i := 0) rfl) es532
                  rw [hQ]
                  exact W.vret hx hb hr (fun t ht hW => ⟨⟨s532, rfl, ⟨hBs532, hFs532, (Eq.trans (congrFun (sw_it es532) 2) (Eq.trans (congrFun (sw_it es530) 2) (Eq.trans (congrFun (sw_it es508) 2) (Eq.trans (congrFun (sw_it es507) 2) (Eq.trans qt10_0 (congrFun (sw_it es1) 2)))))), (Eq.trans (congrFun (sw_it es532) 3) (Eq.trans (congrFun (sw_it es530) 3) (Eq.trans (congrFun (sw_it es508) 3) (Eq.trans (congrFun (sw_it es507) 3) (Eq.trans qt10_1 (congrFun (sw_it es1) 3)))))), trivial⟩, by rw [ht]; exact hP, va_K.moved hW.alike (hK.sub (tys' := []) [] rfl), by rw [hAe]; exact hD⟩, by rw [hAe]; exact hS.F ht⟩) hS.2.2 dX2_next_151
                · skip
                  have h533 : Iv 59 59 r505 := eq_l c529 (iv_c (by decide) : Iv 59 59 59)
                  refine lv_iconst (v := 3) hx hb dX2_next_133 (by decide) ?_
                  refine lv_goto (tgt := 138) hx hb dX2_next_134 (by decide) ?_
                  refine c_put (ci := 2) (C := RX2) (T := TX2) (N := 8) (j := 4) (v := 3) hx hb hT in_X2 tyX2 tyX2_ok nmX2 hown hK hP hD hS cw_1 rfl (by decide) (hT _ t280) (by decide +kernel) (by decide +kernel) rfl rfl (Nat.le_of_ble_eq_true rfl) (cs_1 (upd (s508 1) 4 3)) dX2_next_138 (fun s534 H9 locs9 es534 hP9 hD9 hS9 => ?_)
                  clear hP hD hS
                  have hS := hS9
                  have hP := hP9
                  have hD := hD9
                  clear hP9 hD9 hS9
                  have hBs534 : CB s534 := by rw [es534]; exact cb_sw hBs508 trivial
                  have hFs534 : FR [1] st s534 := fr_sw hFs508 (List.mem_of_getElem? (i := 0) rfl) es534
                  refine lv_aload_n hx hb dX2_next_141 rfl (lv_at hl 1 rfl) ?_
                  refine lv_dup hx hb dX2_next_142 rfl ?_
                  refine va_get (D := D) (ci := 2) (v := .int (s534 1 6)) (C := RX2) (T := TX2) (N := 8) hx hb hT in_X2 hown hK hP 1 cw_1 rfl 6 (by decide) (hT _ t282) (fun _ h9 => h9) rfl dX2_next_143 ?_
                  refine k_top (y := (t10 1 5)) (Eq.trans (congrFun (sw_it es534) 6) (Eq.trans (congrFun (sw_it es508) 6) (congrFun (sw_it es507) 6))) ?_
                  refine lv_iconst (v := 1) hx hb dX2_next_146 (by decide) ?_
                  refine lv_iadd hx hb dX2_next_147 ?_
                  refine lv_topi (fun z535 ez535 => ?_)
                  refine c_put (ci := 2) (C := RX2) (T := TX2) (N := 8) (j := 6) (v := z535) hx hb hT in_X2 tyX2 tyX2_ok nmX2 hown hK hP hD hS cw_1 rfl (by decide) (hT _ t282) (by decide +kernel) (by decide +kernel) rfl rfl (Nat.le_of_ble_eq_true rfl) (cs_1 (upd (s534 1) 6 z535)) dX2_next_148 (fun s536 H9 locs9 es536 hP9 hD9 hS9 => ?_)
                  clear hP hD hS
                  have hS := hS9
                  have hP := hP9
                  have hD := hD9
                  clear hP9 hD9 hS9
                  have hBs536 : CB s536 := by rw [es536]; exact cb_sw hBs534 trivial
                  have hFs536 : FR [1] st s536 := fr_sw hFs534 (List.mem_of_getElem? (i := 0) rfl) es536
                  rw [hQ]
                  exact W.vret hx hb hr (fun t ht hW => ⟨⟨s536, rfl, ⟨hBs536, hFs536, (Eq.trans (congrFun (sw_it es536) 2) (Eq.trans (congrFun (sw_it es534) 2) (Eq.trans (congrFun (sw_it es508) 2) (Eq.trans (congrFun (sw_it es507) 2) (Eq.trans qt10_0 (congrFun (sw_it es1) 2)))))), (Eq.trans (congrFun (sw_it es536) 3) (Eq.trans (congrFun (sw_it es534) 3) (Eq.trans (congrFun (sw_it es508) 3) (Eq.trans (congrFun (sw_it es507) 3) (Eq.trans qt10_1 (congrFun (sw_it es1) 3)))))), trivial⟩, by rw [ht]; exact hP, va_K.moved hW.alike (hK.sub (tys' := []) [] rfl), by rw [hAe]; exact hD⟩, by rw [hAe]; exact hS.F ht⟩) hS.2.2 dX2_next_151
          · skip
            have h537 : Iv (-1) (-1) r505 := eq_l c509 (iv_c (by decide) : Iv (-1) (-1) (-1))
            refine lv_aload_n hx hb dX2_next_80 rfl (lv_at hl 1 rfl) ?_
            refine lv_iconst (v := 0) hx hb dX2_next_81 (by decide) ?_
            refine c_put (ci := 2) (C := RX2) (T := TX2) (N := 8) (j := 4) (v := 0) hx hb hT in_X2 tyX2 tyX2_ok nmX2 hown hK hP hD hS cw_1 rfl (by decide) (hT _ t280) (by decide +kernel) (by decide +kernel) rfl rfl (Nat.le_of_ble_eq_true rfl) (cs_1 (upd (s508 1) 4 0)) dX2_next_82 (fun s538 H9 locs9 es538 hP9 hD9 hS9 => ?_)
            clear hP hD hS
            have hS := hS9
            have hP := hP9
            have hD := hD9
            clear hP9 hD9 hS9
            have hBs538 : CB s538 := by rw [es538]; exact cb_sw hBs508 trivial
            have hFs538 : FR [1] st s538 := fr_sw hFs508 (List.mem_of_getElem? (i := 0) rfl) es538
            refine lv_goto (tgt := 151) hx hb dX2_next_85 (by decide) ?_
            rw [hQ]
            exact W.vret hx hb hr (fun t ht hW => ⟨⟨s538, rfl, ⟨hBs538, hFs538, (Eq.trans (congrFun (sw_it es538) 2) (Eq.trans (congrFun (sw_it es508) 2) (Eq.trans (congrFun (sw_it es507) 2) (Eq.trans qt10_0 (congrFun (sw_it es1) 2))))), (Eq.trans (congrFun (sw_it es538) 3) (Eq.trans (congrFun (sw_it es508) 3) (Eq.trans (congrFun (sw_it es507) 3) (Eq.trans qt10_1 (congrFun (sw_it es1) 3))))), trivial⟩, by rw [ht]; exact hP, va_K.moved hW.alike (hK.sub (tys' := []) [] rfl), by rw [hAe]; exact hD⟩, by rw [hAe]; exact hS.F ht⟩) hS.2.2 dX2_next_151
  exact lp10 1001 0 s1 _ _ _ (iv_mono (c := 0) (d := 1000) (iv_c (by decide) : Iv 0 0 0) (by decide) (by decide)) hBs1 fr_rf rfl rfl rfl rfl rfl hP hD hS (lv_sub hl [0, 1] rfl) (fu_i (iv_mono (c := 0) (d := 1000) (iv_c (by decide) : Iv 0 0 0) (by decide) (by decide)) (by decide))
set_option maxHeartbeats 4000000 in
set_option maxRecDepth 100000 in
theorem s_X2_fail (l : Launch) (D : va_G) (k : Nat → ClassId) (a : Nat → Nat) (st : CT) (sl : CL) (p0 : Int32) (sz : Nat) (hB : CB st) (hp0 : Iv 1 3 p0) : Met l yX2_fail (.code yX2_fail cX2_fail 2 none :: TB) (rmw 1 0 0) (va_Pc [.ref (a 1), .int p0] (PW D k sz (CWS k a st sl))) (QV D (S := CT) (fun u => CB u ∧ FR [1] st u ∧ u 1 4 = st 1 4 ∧ u 1 5 = st 1 5 ∧ u 1 6 = st 1 6 ∧ u 1 7 = st 1 7 ∧ (¬ u 1 2 = 0)) (fun u => CWS k a u sl) (fun _ => []) (CWS k a st sl) sz) 0 0 (va_A (CWS k a st sl) sz) := by
  refine Met.ofW (cc := cX2_fail) (maxL := 2) (ret := none) (by decide) rfl ?_
  intro p e s m args below meth c s₁ B hml hv
  obtain ⟨rfl, hsz, hP, hK, hD0, hN⟩ := hv
  have hx := B.exec
  have hb := B.bytes
  have hr := B.returns
  have hT : ∀ w9 ∈ TB, w9.before ([.ref (a 1), .int p0] : List Value).toArray s = true := fun w9 h => atoms_spec (ws := .code yX2_fail cX2_fail 2 none :: TB) B.pre w9 (List.mem_cons_of_mem _ h)
  have hown : s.vm.findClass RX2 = some m.cls := findClass_of_methodNamed B.named
  have S : CallFix p m c cX2_fail 2 s _ TB RX2 := ⟨hx, hb, hml, hown, hT⟩
  subst hsz
  have hD := hD0.self (sz := s.heap.size)
  generalize hAe : va_A (CWS k a st sl) s.heap.size = A at hD ⊢
  have hA : ∀ q : Nat, s.heap.size ≤ q → A q := fun q h => by rw [← hAe]; exact Or.inr h
  have hS : va_S A s.heap s.heap [] := va_S.rf
  have hl := lv_entry ([.ref (a 1), .int p0]) (n := 2) (Nat.le_of_ble_eq_true rfl)
  rw [lg_entry_eq]
  generalize (lg_sl ([.ref (a 1), .int p0]) ++ List.replicate (2 - (lg_sl ([.ref (a 1), .int p0])).length) Slot.unset).toArray = ls at hl ⊢
  have hl : lv_has ls 2 [(0, .ref (a 1)), (1, .int p0)] := hl
  refine nameQ (fun Q hQ => ?_)
  refine lv_aload_n hx hb dX2_fail_0 rfl (lv_at hl 0 rfl) ?_
  refine va_get (D := D) (ci := 2) (v := .int (st 1 2)) (C := RX2) (T := TX2) (N := 8) hx hb hT in_X2 hown hK hP 1 cw_1 rfl 2 (by decide) (hT _ t276) (fun _ h9 => h9) rfl dX2_fail_1 ?_
  refine lv_if_ne (tgt := 20) hx hb dX2_fail_4 (by decide) (fun c1 => ?_) (fun c1 => ?_)
  · skip
    rw [hQ]
    exact W.vret hx hb hr (fun t ht hW => ⟨⟨st, rfl, ⟨hB, fr_rf, rfl, rfl, rfl, rfl, c1⟩, by rw [ht]; exact hP, va_K.moved hW.alike (hK.sub (tys' := []) [] rfl), by rw [hAe]; exact hD⟩, by rw [hAe]; exact hS.F ht⟩) hS.2.2 dX2_fail_20
  · skip
    have h2 : Iv 0 0 (st 1 2) := eq_l c1 (iv_c (by decide) : Iv 0 0 0)
    have k3 : (st 1 2) = 0 := c1
    refine lv_aload_n hx hb dX2_fail_7 rfl (lv_at hl 0 rfl) ?_
    refine lv_iload_n hx hb dX2_fail_8 rfl (lv_at hl 1 rfl) ?_
    refine c_put (ci := 2) (C := RX2) (T := TX2) (N := 8) (j := 2) (v := p0) hx hb hT in_X2 tyX2 tyX2_ok nmX2 hown hK hP hD hS cw_1 rfl (by decide) (hT _ t276) (by decide +kernel) (by decide +kernel) rfl rfl (Nat.le_of_ble_eq_true rfl) (cs_1 (upd (st 1) 2 p0)) dX2_fail_9 (fun s4 H9 locs9 es4 hP9 hD9 hS9 => ?_)
    clear hP hD hS
    have hS := hS9
    have hP := hP9
    have hD := hD9
    clear hP9 hD9 hS9
    have hBs4 : CB s4 := by rw [es4]; exact cb_sw hB trivial
    have hFs4 : FR [1] st s4 := fr_sw fr_rf (List.mem_of_getElem? (i := 0) rfl) es4
    refine lv_aload_n hx hb dX2_fail_12 rfl (lv_at hl 0 rfl) ?_
    refine lv_aload_n hx hb dX2_fail_13 rfl (lv_at hl 0 rfl) ?_
    refine va_get (D := D) (ci := 2) (v := .int (s4 1 5)) (C := RX2) (T := TX2) (N := 8) hx hb hT in_X2 hown hK hP 1 cw_1 rfl 5 (by decide) (hT _ t281) (fun _ h9 => h9) rfl dX2_fail_14 ?_
    refine k_top (y := (st 1 5)) (congrFun (sw_it es4) 5) ?_
    refine c_put (ci := 2) (C := RX2) (T := TX2) (N := 8) (j := 3) (v := (st 1 5)) hx hb hT in_X2 tyX2 tyX2_ok nmX2 hown hK hP hD hS cw_1 rfl (by decide) (hT _ t278) (by decide +kernel) (by decide +kernel) rfl rfl (Nat.le_of_ble_eq_true rfl) (cs_1 (upd (s4 1) 3 (st 1 5))) dX2_fail_17 (fun s5 H9 locs9 es5 hP9 hD9 hS9 => ?_)
    clear hP hD hS
    have hS := hS9
    have hP := hP9
    have hD := hD9
    clear hP9 hD9 hS9
    have hBs5 : CB s5 := by rw [es5]; exact cb_sw hBs4 trivial
    have hFs5 : FR [1] st s5 := fr_sw hFs4 (List.mem_of_getElem? (i := 0) rfl) es5
    rw [hQ]
    exact W.vret hx hb hr (fun t ht hW => ⟨⟨s5, rfl, ⟨hBs5, hFs5, (Eq.trans (congrFun (sw_it es5) 4) (congrFun (sw_it es4) 4)), (Eq.trans (congrFun (sw_it es5) 5) (congrFun (sw_it es4) 5)), (Eq.trans (congrFun (sw_it es5) 6) (congrFun (sw_it es4) 6)), (Eq.trans (congrFun (sw_it es5) 7) (congrFun (sw_it es4) 7)), (fun z9 => absurd (Eq.trans (Eq.symm (Eq.trans (congrFun (sw_it es5) 2) (congrFun (sw_it es4) 2))) z9) (iv_nz hp0 (by decide)))⟩, by rw [ht]; exact hP, va_K.moved hW.alike (hK.sub (tys' := []) [] rfl), by rw [hAe]; exact hD⟩, by rw [hAe]; exact hS.F ht⟩) hS.2.2 dX2_fail_20
set_option maxHeartbeats 4000000 in
set_option maxRecDepth 100000 in
theorem s_X2_passNumber (l : Launch) (D : va_G) (k : Nat → ClassId) (a : Nat → Nat) (st : CT) (sl : CL) (p0 : Int32) (p1 : Int32) (sz : Nat) (hB : CB st)  : Met l yX2_passNumber (.code yX2_passNumber cX2_passNumber 4 (some .int) :: TB) (rmw 4 0 0) (va_Pc [.ref (a 1), .int p0, .int p1] (PW D k sz (CWS k a st sl))) (QI D (S := CT) (fun r u => CB u ∧ FR [1] st u ∧ ((u 1 2 = 0 → st 1 2 = 0 ∧ p0.toInt ≤ r.toInt ∧ r.toInt ≤ p1.toInt))) (fun u => CWS k a u sl) (fun _ => []) (CWS k a st sl) sz) 0 0 (va_A (CWS k a st sl) sz) := by
  refine Met.ofW (cc := cX2_passNumber) (maxL := 4) (ret := (some .int)) (by decide) rfl ?_
  intro p e s m args below meth c s₁ B hml hv
  obtain ⟨rfl, hsz, hP, hK, hD0, hN⟩ := hv
  have hx := B.exec
  have hb := B.bytes
  have hr := B.returns
  have hT : ∀ w9 ∈ TB, w9.before ([.ref (a 1), .int p0, .int p1] : List Value).toArray s = true := fun w9 h => atoms_spec (ws := .code yX2_passNumber cX2_passNumber 4 (some .int) :: TB) B.pre w9 (List.mem_cons_of_mem _ h)
  have hown : s.vm.findClass RX2 = some m.cls := findClass_of_methodNamed B.named
  have S : CallFix p m c cX2_passNumber 4 s _ TB RX2 := ⟨hx, hb, hml, hown, hT⟩
  subst hsz
  have hD := hD0.self (sz := s.heap.size)
  generalize hAe : va_A (CWS k a st sl) s.heap.size = A at hD ⊢
  have hA : ∀ q : Nat, s.heap.size ≤ q → A q := fun q h => by rw [← hAe]; exact Or.inr h
  have hS : va_S A s.heap s.heap [] := va_S.rf
  have hl := lv_entry ([.ref (a 1), .int p0, .int p1]) (n := 4) (Nat.le_of_ble_eq_true rfl)
  rw [lg_entry_eq]
  generalize (lg_sl ([.ref (a 1), .int p0, .int p1]) ++ List.replicate (4 - (lg_sl ([.ref (a 1), .int p0, .int p1])).length) Slot.unset).toArray = ls at hl ⊢
  have hl : lv_has ls 4 [(0, .ref (a 1)), (1, .int p0), (2, .int p1)] := hl
  refine nameQ (fun Q hQ => ?_)
  refine lv_aload_n hx hb dX2_passNumber_0 rfl (lv_at hl 0 rfl) ?_
  refine va_get (D := D) (ci := 2) (v := .int (st 1 7)) (C := RX2) (T := TX2) (N := 8) hx hb hT in_X2 hown hK hP 1 cw_1 rfl 7 (by decide) (hT _ t283) (fun _ h9 => h9) rfl dX2_passNumber_1 ?_
  refine lv_istore_n (lv' := [(3, .int (st 1 7)), (0, .ref (a 1)), (1, .int p0), (2, .int p1)]) hx hb dX2_passNumber_4 rfl hl (by decide) rfl (fun ls hl => ?_)
  refine lv_aload_n hx hb dX2_passNumber_5 rfl (lv_at hl 1 rfl) ?_
  refine va_get (D := D) (ci := 2) (v := .int (st 1 4)) (C := RX2) (T := TX2) (N := 8) hx hb hT in_X2 hown hK hP 1 cw_1 rfl 4 (by decide) (hT _ t280) (fun _ h9 => h9) rfl dX2_passNumber_6 ?_
  refine lv_iconst (v := 2) hx hb dX2_passNumber_9 (by decide) ?_
  refine lv_icmp_eq (tgt := 21) hx hb dX2_passNumber_10 (by decide) (fun c1 => ?_) (fun c1 => ?_)
  · skip
    have h2 : Iv 2 2 (st 1 4) := eq_l c1 (iv_c (by decide) : Iv 2 2 2)
    refine lv_iload_n hx hb dX2_passNumber_21 rfl (lv_at hl 0 rfl) ?_
    refine lv_iload_n hx hb dX2_passNumber_22 rfl (lv_at hl 2 rfl) ?_
    refine lv_icmp_lt (tgt := 31) hx hb dX2_passNumber_23 (by decide) (fun c3 => ?_) (fun c3 => ?_)
    · skip
      have n4 : (st 1 7).toInt < p0.toInt := (i_lt c3)
      have h5 : Iv (-2147483648) 2147483646 (st 1 7) := lt_l (iv_full (st 1 7)) n4 (iv_full p0) (by decide)
      have h6 : Iv (-2147483647) 2147483647 p0 := lt_r (iv_full (st 1 7)) n4 (iv_full p0) (by decide)
      refine lv_aload_n hx hb dX2_passNumber_31 rfl (lv_at hl 1 rfl) ?_
      refine lv_iconst (v := 2) hx hb dX2_passNumber_32 (by decide) ?_
      refine ca_v hP hD hS hA (fun hDc => run_V (mc := 0) (ms := 0) (As := [.int 2]) (rest := []) S (s_X2_fail l D k a st sl  2 _  hB (iv_mono (c := 1) (d := 3) (iv_c (by decide) : Iv 2 2 2) (by decide) (by decide)) ) lkX2_77 ok_X2_fail ⟨rfl, rfl, Nat.le_of_ble_eq_true rfl, Nat.le_of_ble_eq_true rfl⟩ (pw_V (ci := 2) (q0 := 1) hK hN rfl cw_1 hP hDc) rfl hl.1 rfl (Nat.le_of_ble_eq_true rfl) ⟨Nat.zero_le _, Nat.zero_le _⟩ dX2_passNumber_33) (fun s7 H9 locs9 hs7 hP9 hD9 hS9 => ?_)
      clear hP hD hS
      have hS := hS9
      have hP := hP9
      have hD := hD9
      clear hP9 hD9 hS9
      obtain ⟨hBs7, gs7, qs7_0, qs7_1, qs7_2, qs7_3, fs7⟩ := hs7
      have hFs7 : FR [1] st s7 := fr_ca fr_rf gs7 (sub_1 (List.mem_of_getElem? (i := 0) rfl) sub_0)
      have k9 := fs7
      refine lv_aload_n hx hb dX2_passNumber_36 rfl (lv_at hl 1 rfl) ?_
      refine va_get (D := D) (ci := 2) (v := .int (s7 1 2)) (C := RX2) (T := TX2) (N := 8) hx hb hT in_X2 hown hK hP 1 cw_1 rfl 2 (by decide) (hT _ t276) (fun _ h9 => h9) rfl dX2_passNumber_37 ?_
      refine lv_if_ne (tgt := 47) hx hb dX2_passNumber_40 (by decide) (fun c10 => ?_) (fun c10 => ?_)
      · skip
        refine lv_iload_n hx hb dX2_passNumber_47 rfl (lv_at hl 0 rfl) ?_
        rw [hQ]
        exact W.iret (v := (st 1 7)) hx hb hr (fun t ht hW => ⟨⟨(st 1 7), s7, rfl, ⟨hBs7, hFs7, (fun z9 => absurd z9 c10)⟩, by rw [ht]; exact hP, va_K.moved hW.alike (hK.sub (tys' := []) [] rfl), by rw [hAe]; exact hD⟩, by rw [hAe]; exact hS.F ht⟩) hS.2.2 dX2_passNumber_48
      · skip
        have h11 : Iv 0 0 (s7 1 2) := eq_l c10 (iv_c (by decide) : Iv 0 0 0)
        have k12 : (s7 1 2) = 0 := c10
        exact absurd k12 k9
    · skip
      have n13 : p0.toInt ≤ (st 1 7).toInt := (i_nlt c3)
      refine lv_iload_n hx hb dX2_passNumber_26 rfl (lv_at hl 0 rfl) ?_
      refine lv_iload_n hx hb dX2_passNumber_27 rfl (lv_at hl 3 rfl) ?_
      refine lv_icmp_le (tgt := 36) hx hb dX2_passNumber_28 (by decide) (fun c14 => ?_) (fun c14 => ?_)
      · skip
        have n15 : (st 1 7).toInt ≤ p1.toInt := (i_le c14)
        refine lv_aload_n hx hb dX2_passNumber_36 rfl (lv_at hl 1 rfl) ?_
        refine va_get (D := D) (ci := 2) (v := .int (st 1 2)) (C := RX2) (T := TX2) (N := 8) hx hb hT in_X2 hown hK hP 1 cw_1 rfl 2 (by decide) (hT _ t276) (fun _ h9 => h9) rfl dX2_passNumber_37 ?_
        refine lv_if_ne (tgt := 47) hx hb dX2_passNumber_40 (by decide) (fun c16 => ?_) (fun c16 => ?_)
        · skip
          refine lv_iload_n hx hb dX2_passNumber_47 rfl (lv_at hl 0 rfl) ?_
          rw [hQ]
          exact W.iret (v := (st 1 7)) hx hb hr (fun t ht hW => ⟨⟨(st 1 7), st, rfl, ⟨hB, fr_rf, (fun z9 => absurd z9 c16)⟩, by rw [ht]; exact hP, va_K.moved hW.alike (hK.sub (tys' := []) [] rfl), by rw [hAe]; exact hD⟩, by rw [hAe]; exact hS.F ht⟩) hS.2.2 dX2_passNumber_48
        · skip
          have h17 : Iv 0 0 (st 1 2) := eq_l c16 (iv_c (by decide) : Iv 0 0 0)
          have k18 : (st 1 2) = 0 := c16
          refine lv_aload_n hx hb dX2_passNumber_43 rfl (lv_at hl 1 rfl) ?_
          refine ca_v hP hD hS hA (fun hDc => run_V (mc := 0) (ms := 0) (As := []) (rest := []) S (s_X2_next l D k a st sl   _  hB  ) lkX2_38 ok_X2_next ⟨rfl, rfl, Nat.le_of_ble_eq_true rfl, Nat.le_of_ble_eq_true rfl⟩ (pw_V (ci := 2) (q0 := 1) hK hN rfl cw_1 hP hDc) rfl hl.1 rfl (Nat.le_of_ble_eq_true rfl) ⟨Nat.zero_le _, Nat.zero_le _⟩ dX2_passNumber_44) (fun s19 H9 locs9 hs19 hP9 hD9 hS9 => ?_)
          clear hP hD hS
          have hS := hS9
          have hP := hP9
          have hD := hD9
          clear hP9 hD9 hS9
          obtain ⟨hBs19, gs19, qs19_0, qs19_1, fs19⟩ := hs19
          have hFs19 : FR [1] st s19 := fr_ca fr_rf gs19 (sub_1 (List.mem_of_getElem? (i := 0) rfl) sub_0)
          refine lv_iload_n hx hb dX2_passNumber_47 rfl (lv_at hl 0 rfl) ?_
          rw [hQ]
          exact W.iret (v := (st 1 7)) hx hb hr (fun t ht hW => ⟨⟨(st 1 7), s19, rfl, ⟨hBs19, hFs19, (fun _ => ⟨k18, n13, n15⟩)⟩, by rw [ht]; exact hP, va_K.moved hW.alike (hK.sub (tys' := []) [] rfl), by rw [hAe]; exact hD⟩, by rw [hAe]; exact hS.F ht⟩) hS.2.2 dX2_passNumber_48
      · skip
        have n21 : p1.toInt < (st 1 7).toInt := (i_nle c14)
        have h22 : Iv (-2147483648) 2147483646 p1 := lt_l (iv_full p1) n21 (iv_full (st 1 7)) (by decide)
        have h23 : Iv (-2147483647) 2147483647 (st 1 7) := lt_r (iv_full p1) n21 (iv_full (st 1 7)) (by decide)
        refine lv_aload_n hx hb dX2_passNumber_31 rfl (lv_at hl 1 rfl) ?_
        refine lv_iconst (v := 2) hx hb dX2_passNumber_32 (by decide) ?_
        refine ca_v hP hD hS hA (fun hDc => run_V (mc := 0) (ms := 0) (As := [.int 2]) (rest := []) S (s_X2_fail l D k a st sl  2 _  hB (iv_mono (c := 1) (d := 3) (iv_c (by decide) : Iv 2 2 2) (by decide) (by decide)) ) lkX2_77 ok_X2_fail ⟨rfl, rfl, Nat.le_of_ble_eq_true rfl, Nat.le_of_ble_eq_true rfl⟩ (pw_V (ci := 2) (q0 := 1) hK hN rfl cw_1 hP hDc) rfl hl.1 rfl (Nat.le_of_ble_eq_true rfl) ⟨Nat.zero_le _, Nat.zero_le _⟩ dX2_passNumber_33) (fun s24 H9 locs9 hs24 hP9 hD9 hS9 => ?_)
        clear hP hD hS
        have hS := hS9
        have hP := hP9
        have hD := hD9
        clear hP9 hD9 hS9
        obtain ⟨hBs24, gs24, qs24_0, qs24_1, qs24_2, qs24_3, fs24⟩ := hs24
        have hFs24 : FR [1] st s24 := fr_ca fr_rf gs24 (sub_1 (List.mem_of_getElem? (i := 0) rfl) sub_0)
        have k26 := fs24
        refine lv_aload_n hx hb dX2_passNumber_36 rfl (lv_at hl 1 rfl) ?_
        refine va_get (D := D) (ci := 2) (v := .int (s24 1 2)) (C := RX2) (T := TX2) (N := 8) hx hb hT in_X2 hown hK hP 1 cw_1 rfl 2 (by decide) (hT _ t276) (fun _ h9 => h9) rfl dX2_passNumber_37 ?_
        refine lv_if_ne (tgt := 47) hx hb dX2_passNumber_40 (by decide) (fun c27 => ?_) (fun c27 => ?_)
        · skip
          refine lv_iload_n hx hb dX2_passNumber_47 rfl (lv_at hl 0 rfl) ?_
          rw [hQ]
          exact W.iret (v := (st 1 7)) hx hb hr (fun t ht hW => ⟨⟨(st 1 7), s24, rfl, ⟨hBs24, hFs24, (fun z9 => absurd z9 c27)⟩, by rw [ht]; exact hP, va_K.moved hW.alike (hK.sub (tys' := []) [] rfl), by rw [hAe]; exact hD⟩, by rw [hAe]; exact hS.F ht⟩) hS.2.2 dX2_passNumber_48
        · skip
          have h28 : Iv 0 0 (s24 1 2) := eq_l c27 (iv_c (by decide) : Iv 0 0 0)
          have k29 : (s24 1 2) = 0 := c27
          exact absurd k29 k26
  · skip
    refine lv_aload_n hx hb dX2_passNumber_13 rfl (lv_at hl 1 rfl) ?_
    refine lv_iconst (v := 1) hx hb dX2_passNumber_14 (by decide) ?_
    refine ca_v hP hD hS hA (fun hDc => run_V (mc := 0) (ms := 0) (As := [.int 1]) (rest := []) S (s_X2_fail l D k a st sl  1 _  hB (iv_mono (c := 1) (d := 3) (iv_c (by decide) : Iv 1 1 1) (by decide) (by decide)) ) lkX2_77 ok_X2_fail ⟨rfl, rfl, Nat.le_of_ble_eq_true rfl, Nat.le_of_ble_eq_true rfl⟩ (pw_V (ci := 2) (q0 := 1) hK hN rfl cw_1 hP hDc) rfl hl.1 rfl (Nat.le_of_ble_eq_true rfl) ⟨Nat.zero_le _, Nat.zero_le _⟩ dX2_passNumber_15) (fun s30 H9 locs9 hs30 hP9 hD9 hS9 => ?_)
    clear hP hD hS
    have hS := hS9
    have hP := hP9
    have hD := hD9
    clear hP9 hD9 hS9
    obtain ⟨hBs30, gs30, qs30_0, qs30_1, qs30_2, qs30_3, fs30⟩ := hs30
    have hFs30 : FR [1] st s30 := fr_ca fr_rf gs30 (sub_1 (List.mem_of_getElem? (i := 0) rfl) sub_0)
    have k32 := fs30
    refine lv_goto (tgt := 36) hx hb dX2_passNumber_18 (by decide) ?_
    refine lv_aload_n hx hb dX2_passNumber_36 rfl (lv_at hl 1 rfl) ?_
    refine va_get (D := D) (ci := 2) (v := .int (s30 1 2)) (C := RX2) (T := TX2) (N := 8) hx hb hT in_X2 hown hK hP 1 cw_1 rfl 2 (by decide) (hT _ t276) (fun _ h9 => h9) rfl dX2_passNumber_37 ?_
    refine lv_if_ne (tgt := 47) hx hb dX2_passNumber_40 (by decide) (fun c33 => ?_) (fun c33 => ?_)
    · skip
      refine lv_iload_n hx hb dX2_passNumber_47 rfl (lv_at hl 0 rfl) ?_
      rw [hQ]
      exact W.iret (v := (st 1 7)) hx hb hr (fun t ht hW => ⟨⟨(st 1 7), s30, rfl, ⟨hBs30, hFs30, (fun z9 => absurd z9 c33)⟩, by rw [ht]; exact hP, va_K.moved hW.alike (hK.sub (tys' := []) [] rfl), by rw [hAe]; exact hD⟩, by rw [hAe]; exact hS.F ht⟩) hS.2.2 dX2_passNumber_48
    · skip
      have h34 : Iv 0 0 (s30 1 2) := eq_l c33 (iv_c (by decide) : Iv 0 0 0)
      have k35 : (s30 1 2) = 0 := c33
      exact absurd k35 k32
set_option maxHeartbeats 4000000 in
set_option maxRecDepth 100000 in
theorem s_X2_readSeat (l : Launch) (D : va_G) (k : Nat → ClassId) (a : Nat → Nat) (st : CT) (sl : CL) (p0 : Int32) (sz : Nat) (hB : CB st)  : Met l yX2_readSeat (.code yX2_readSeat cX2_readSeat 2 none :: TB) (rmw 4 0 0) (va_Pc [.ref (a 1), .int p0] (PW D k sz (CWS k a st sl))) (QV D (S := CT) (fun u => CB u ∧ FR [14, 1] st u ∧ (True)) (fun u => CWS k a u sl) (fun _ => []) (CWS k a st sl) sz) 0 0 (va_A (CWS k a st sl) sz) := by
  refine Met.ofW (cc := cX2_readSeat) (maxL := 2) (ret := none) (by decide) rfl ?_
  intro p e s m args below meth c s₁ B hml hv
  obtain ⟨rfl, hsz, hP, hK, hD0, hN⟩ := hv
  have hx := B.exec
  have hb := B.bytes
  have hr := B.returns
  have hT : ∀ w9 ∈ TB, w9.before ([.ref (a 1), .int p0] : List Value).toArray s = true := fun w9 h => atoms_spec (ws := .code yX2_readSeat cX2_readSeat 2 none :: TB) B.pre w9 (List.mem_cons_of_mem _ h)
  have hown : s.vm.findClass RX2 = some m.cls := findClass_of_methodNamed B.named
  have S : CallFix p m c cX2_readSeat 2 s _ TB RX2 := ⟨hx, hb, hml, hown, hT⟩
  subst hsz
  have hD := hD0.self (sz := s.heap.size)
  generalize hAe : va_A (CWS k a st sl) s.heap.size = A at hD ⊢
  have hA : ∀ q : Nat, s.heap.size ≤ q → A q := fun q h => by rw [← hAe]; exact Or.inr h
  have hS : va_S A s.heap s.heap [] := va_S.rf
  have hl := lv_entry ([.ref (a 1), .int p0]) (n := 2) (Nat.le_of_ble_eq_true rfl)
  rw [lg_entry_eq]
  generalize (lg_sl ([.ref (a 1), .int p0]) ++ List.replicate (2 - (lg_sl ([.ref (a 1), .int p0])).length) Slot.unset).toArray = ls at hl ⊢
  have hl : lv_has ls 2 [(0, .ref (a 1)), (1, .int p0)] := hl
  refine nameQ (fun Q hQ => ?_)
  refine lv_aload_n hx hb dX2_readSeat_0 rfl (lv_at hl 0 rfl) ?_
  refine va_get (D := D) (ci := 2) (v := .ref (a 4)) (C := RX2) (T := TX2) (N := 8) hx hb hT in_X2 hown hK hP 1 cw_1 rfl 1 (by decide) (hT _ t274) (fun _ h9 => h9) rfl dX2_readSeat_1 ?_
  refine lv_aload_n hx hb dX2_readSeat_4 rfl (lv_at hl 0 rfl) ?_
  refine va_get (D := D) (ci := 2) (v := .int (st 1 7)) (C := RX2) (T := TX2) (N := 8) hx hb hT in_X2 hown hK hP 1 cw_1 rfl 7 (by decide) (hT _ t283) (fun _ h9 => h9) rfl dX2_readSeat_5 ?_
  refine ro_V (As := [.int (st 1 7)]) (rest := []) S (s_X1_isWheel_d l D k a st sl  (st 1 7) _  hB  ) lkX2_146 ok_X1_isWheel ⟨rfl, rfl, Nat.le_of_ble_eq_true rfl, Nat.le_of_ble_eq_true rfl⟩ (pw_V (ci := 1) (q0 := 4) hK hN rfl cw_4 hP (hD.weaken (fun _ _ _ _ => trivial))) rfl hl.1 rfl (Nat.le_of_ble_eq_true rfl) ⟨Nat.zero_le _, Nat.zero_le _⟩ dX2_readSeat_8 (fun r1 er1 => ?_)
  rcases er1 with ⟨rfl, g9⟩ | ⟨rfl, g9⟩
  · skip
    have g2 := g9
    have h3 : Iv 0 7 (st 1 7) := g2.1
    refine lv_if_ne (tgt := 22) hx hb dX2_readSeat_11 (by decide) (fun c4 => ?_) (fun c4 => ?_)
    rotate_left
    · first | exact absurd c4 (by decide) | exact absurd (by decide) c4
    refine lv_iload_n hx hb dX2_readSeat_22 rfl (lv_at hl 1 rfl) ?_
    refine lv_iconst (v := 4) hx hb dX2_readSeat_23 (by decide) ?_
    refine lv_icmp_lt (tgt := 35) hx hb dX2_readSeat_24 (by decide) (fun c5 => ?_) (fun c5 => ?_)
    · skip
      have n6 : p0.toInt < (4 : Int32).toInt := (i_lt c5)
      have h7 : Iv (-2147483648) 3 p0 := lt_l (iv_full p0) n6 (iv_c (by decide) : Iv 4 4 4) (by decide)
      refine lv_aload_n hx hb dX2_readSeat_35 rfl (lv_at hl 0 rfl) ?_
      refine va_get (D := D) (ci := 2) (v := .ref (a 4)) (C := RX2) (T := TX2) (N := 8) hx hb hT in_X2 hown hK hP 1 cw_1 rfl 1 (by decide) (hT _ t274) (fun _ h9 => h9) rfl dX2_readSeat_36 ?_
      refine va_get (D := D) (ci := 1) (v := .ref (a 11)) (C := RX1) (T := TX1) (N := 14) hx hb hT in_X1 hown hK hP 4 cw_4 rfl 13 (by decide) (hT _ t241) (fun _ h9 => h9) rfl dX2_readSeat_39 ?_
      refine va_get (D := D) (ci := 5) (v := .ref (a 14)) (C := RX5) (T := TX5) (N := 5) hx hb hT in_X5 hown hK hP 11 cw_11 rfl 2 (by decide) (hT _ t174) (fun _ h9 => h9) rfl dX2_readSeat_42 ?_
      refine lv_aload_n hx hb dX2_readSeat_45 rfl (lv_at hl 0 rfl) ?_
      refine va_get (D := D) (ci := 2) (v := .int (st 1 7)) (C := RX2) (T := TX2) (N := 8) hx hb hT in_X2 hown hK hP 1 cw_1 rfl 7 (by decide) (hT _ t283) (fun _ h9 => h9) rfl dX2_readSeat_46 ?_
      refine va_iald hx hb hK hP 14 0 cw_14 rfl (iv_in h3 (by decide) (by decide)) dX2_readSeat_49 ?_
      refine lv_topi (fun z8 ez8 => ?_)
      refine lv_iconst (v := (-1)) hx hb dX2_readSeat_50 (by decide) ?_
      refine lv_icmp_eq (tgt := 62) hx hb dX2_readSeat_51 (by decide) (fun c9 => ?_) (fun c9 => ?_)
      · skip
        have h10 : Iv (-1) (-1) z8 := eq_l c9 (iv_c (by decide) : Iv (-1) (-1) (-1))
        refine lv_aload_n hx hb dX2_readSeat_62 rfl (lv_at hl 0 rfl) ?_
        refine va_get (D := D) (ci := 2) (v := .ref (a 4)) (C := RX2) (T := TX2) (N := 8) hx hb hT in_X2 hown hK hP 1 cw_1 rfl 1 (by decide) (hT _ t274) (fun _ h9 => h9) rfl dX2_readSeat_63 ?_
        refine va_get (D := D) (ci := 1) (v := .ref (a 11)) (C := RX1) (T := TX1) (N := 14) hx hb hT in_X1 hown hK hP 4 cw_4 rfl 13 (by decide) (hT _ t241) (fun _ h9 => h9) rfl dX2_readSeat_66 ?_
        refine va_get (D := D) (ci := 5) (v := .ref (a 14)) (C := RX5) (T := TX5) (N := 5) hx hb hT in_X5 hown hK hP 11 cw_11 rfl 2 (by decide) (hT _ t174) (fun _ h9 => h9) rfl dX2_readSeat_69 ?_
        refine lv_aload_n hx hb dX2_readSeat_72 rfl (lv_at hl 0 rfl) ?_
        refine va_get (D := D) (ci := 2) (v := .int (st 1 7)) (C := RX2) (T := TX2) (N := 8) hx hb hT in_X2 hown hK hP 1 cw_1 rfl 7 (by decide) (hT _ t283) (fun _ h9 => h9) rfl dX2_readSeat_73 ?_
        refine lv_aload_n hx hb dX2_readSeat_76 rfl (lv_at hl 0 rfl) ?_
        refine va_get (D := D) (ci := 2) (v := .ref (a 4)) (C := RX2) (T := TX2) (N := 8) hx hb hT in_X2 hown hK hP 1 cw_1 rfl 1 (by decide) (hT _ t274) (fun _ h9 => h9) rfl dX2_readSeat_77 ?_
        refine va_get (D := D) (ci := 1) (v := .int (st 4 5)) (C := RX1) (T := TX1) (N := 14) hx hb hT in_X1 hown hK hP 4 cw_4 rfl 5 (by decide) (hT _ t217) (fun _ h9 => h9) rfl dX2_readSeat_80 ?_
        have h11 : Iv 0 3 (st 4 5) := (rb_4_5 hB)
        refine lv_iconst (v := 1) hx hb dX2_readSeat_83 (by decide) ?_
        refine lv_isub hx hb dX2_readSeat_84 ?_
        refine lv_topi (fun z12 ez12 => ?_)
        have h13 : Iv (-1) 2 z12 := iv_sub ez12 h11 (iv_c (by decide) : Iv 1 1 1) (by decide) (by decide) (by decide) (by decide)
        refine c_ist hx hb hK hP hD hS cw_14 cs_14 (iv_in h3 (by decide) (by decide)) dX2_readSeat_85 (fun s14 H9 locs9 es14 hP9 hD9 hS9 => ?_)
        clear hP hD hS
        have hS := hS9
        have hP := hP9
        have hD := hD9
        clear hP9 hD9 hS9
        have hBs14 : CB s14 := by rw [es14]; exact cb_sw hB trivial
        have hFs14 : FR [14, 1] st s14 := fr_sw fr_rf (List.mem_of_getElem? (i := 0) rfl) es14
        refine lv_aload_n hx hb dX2_readSeat_86 rfl (lv_at hl 0 rfl) ?_
        refine ca_v hP hD hS hA (fun hDc => run_V (mc := 0) (ms := 0) (As := []) (rest := []) S (s_X2_next l D k a s14 sl   _  hBs14  ) lkX2_38 ok_X2_next ⟨rfl, rfl, Nat.le_of_ble_eq_true rfl, Nat.le_of_ble_eq_true rfl⟩ (pw_V (ci := 2) (q0 := 1) hK hN rfl cw_1 hP hDc) rfl hl.1 rfl (Nat.le_of_ble_eq_true rfl) ⟨Nat.zero_le _, Nat.zero_le _⟩ dX2_readSeat_87) (fun s15 H9 locs9 hs15 hP9 hD9 hS9 => ?_)
        clear hP hD hS
        have hS := hS9
        have hP := hP9
        have hD := hD9
        clear hP9 hD9 hS9
        obtain ⟨hBs15, gs15, qs15_0, qs15_1, fs15⟩ := hs15
        have hFs15 : FR [14, 1] st s15 := fr_ca hFs14 gs15 (sub_1 (List.mem_of_getElem? (i := 1) rfl) sub_0)
        rw [hQ]
        exact W.vret hx hb hr (fun t ht hW => ⟨⟨s15, rfl, ⟨hBs15, hFs15, trivial⟩, by rw [ht]; exact hP, va_K.moved hW.alike (hK.sub (tys' := []) [] rfl), by rw [hAe]; exact hD⟩, by rw [hAe]; exact hS.F ht⟩) hS.2.2 dX2_readSeat_90
      · skip
        refine lv_aload_n hx hb dX2_readSeat_54 rfl (lv_at hl 0 rfl) ?_
        refine lv_iconst (v := 2) hx hb dX2_readSeat_55 (by decide) ?_
        refine ca_v hP hD hS hA (fun hDc => run_V (mc := 0) (ms := 0) (As := [.int 2]) (rest := []) S (s_X2_fail l D k a st sl  2 _  hB (iv_mono (c := 1) (d := 3) (iv_c (by decide) : Iv 2 2 2) (by decide) (by decide)) ) lkX2_77 ok_X2_fail ⟨rfl, rfl, Nat.le_of_ble_eq_true rfl, Nat.le_of_ble_eq_true rfl⟩ (pw_V (ci := 2) (q0 := 1) hK hN rfl cw_1 hP hDc) rfl hl.1 rfl (Nat.le_of_ble_eq_true rfl) ⟨Nat.zero_le _, Nat.zero_le _⟩ dX2_readSeat_56) (fun s17 H9 locs9 hs17 hP9 hD9 hS9 => ?_)
        clear hP hD hS
        have hS := hS9
        have hP := hP9
        have hD := hD9
        clear hP9 hD9 hS9
        obtain ⟨hBs17, gs17, qs17_0, qs17_1, qs17_2, qs17_3, fs17⟩ := hs17
        have hFs17 : FR [14, 1] st s17 := fr_ca fr_rf gs17 (sub_1 (List.mem_of_getElem? (i := 1) rfl) sub_0)
        have k19 := fs17
        refine lv_goto (tgt := 90) hx hb dX2_readSeat_59 (by decide) ?_
        rw [hQ]
        exact W.vret hx hb hr (fun t ht hW => ⟨⟨s17, rfl, ⟨hBs17, hFs17, trivial⟩, by rw [ht]; exact hP, va_K.moved hW.alike (hK.sub (tys' := []) [] rfl), by rw [hAe]; exact hD⟩, by rw [hAe]; exact hS.F ht⟩) hS.2.2 dX2_readSeat_90
    · skip
      have n20 : (4 : Int32).toInt ≤ p0.toInt := (i_nlt c5)
      have h21 : Iv 4 2147483647 p0 := le_r (iv_c (by decide) : Iv 4 4 4) n20 (iv_full p0) (by decide)
      refine lv_aload_n hx hb dX2_readSeat_27 rfl (lv_at hl 0 rfl) ?_
      refine lv_iconst (v := 3) hx hb dX2_readSeat_28 (by decide) ?_
      refine ca_v hP hD hS hA (fun hDc => run_V (mc := 0) (ms := 0) (As := [.int 3]) (rest := []) S (s_X2_fail l D k a st sl  3 _  hB (iv_mono (c := 1) (d := 3) (iv_c (by decide) : Iv 3 3 3) (by decide) (by decide)) ) lkX2_77 ok_X2_fail ⟨rfl, rfl, Nat.le_of_ble_eq_true rfl, Nat.le_of_ble_eq_true rfl⟩ (pw_V (ci := 2) (q0 := 1) hK hN rfl cw_1 hP hDc) rfl hl.1 rfl (Nat.le_of_ble_eq_true rfl) ⟨Nat.zero_le _, Nat.zero_le _⟩ dX2_readSeat_29) (fun s22 H9 locs9 hs22 hP9 hD9 hS9 => ?_)
      clear hP hD hS
      have hS := hS9
      have hP := hP9
      have hD := hD9
      clear hP9 hD9 hS9
      obtain ⟨hBs22, gs22, qs22_0, qs22_1, qs22_2, qs22_3, fs22⟩ := hs22
      have hFs22 : FR [14, 1] st s22 := fr_ca fr_rf gs22 (sub_1 (List.mem_of_getElem? (i := 1) rfl) sub_0)
      have k24 := fs22
      refine lv_goto (tgt := 90) hx hb dX2_readSeat_32 (by decide) ?_
      rw [hQ]
      exact W.vret hx hb hr (fun t ht hW => ⟨⟨s22, rfl, ⟨hBs22, hFs22, trivial⟩, by rw [ht]; exact hP, va_K.moved hW.alike (hK.sub (tys' := []) [] rfl), by rw [hAe]; exact hD⟩, by rw [hAe]; exact hS.F ht⟩) hS.2.2 dX2_readSeat_90
  · skip
    have g25 := g9
    refine lv_if_ne (tgt := 22) hx hb dX2_readSeat_11 (by decide) (fun c26 => ?_) (fun c26 => ?_)
    · first | exact absurd c26 (by decide) | exact absurd (by decide) c26
    refine lv_aload_n hx hb dX2_readSeat_14 rfl (lv_at hl 0 rfl) ?_
    refine lv_iconst (v := 2) hx hb dX2_readSeat_15 (by decide) ?_
    refine ca_v hP hD hS hA (fun hDc => run_V (mc := 0) (ms := 0) (As := [.int 2]) (rest := []) S (s_X2_fail l D k a st sl  2 _  hB (iv_mono (c := 1) (d := 3) (iv_c (by decide) : Iv 2 2 2) (by decide) (by decide)) ) lkX2_77 ok_X2_fail ⟨rfl, rfl, Nat.le_of_ble_eq_true rfl, Nat.le_of_ble_eq_true rfl⟩ (pw_V (ci := 2) (q0 := 1) hK hN rfl cw_1 hP hDc) rfl hl.1 rfl (Nat.le_of_ble_eq_true rfl) ⟨Nat.zero_le _, Nat.zero_le _⟩ dX2_readSeat_16) (fun s27 H9 locs9 hs27 hP9 hD9 hS9 => ?_)
    clear hP hD hS
    have hS := hS9
    have hP := hP9
    have hD := hD9
    clear hP9 hD9 hS9
    obtain ⟨hBs27, gs27, qs27_0, qs27_1, qs27_2, qs27_3, fs27⟩ := hs27
    have hFs27 : FR [14, 1] st s27 := fr_ca fr_rf gs27 (sub_1 (List.mem_of_getElem? (i := 1) rfl) sub_0)
    have k29 := fs27
    refine lv_goto (tgt := 90) hx hb dX2_readSeat_19 (by decide) ?_
    rw [hQ]
    exact W.vret hx hb hr (fun t ht hW => ⟨⟨s27, rfl, ⟨hBs27, hFs27, trivial⟩, by rw [ht]; exact hP, va_K.moved hW.alike (hK.sub (tys' := []) [] rfl), by rw [hAe]; exact hD⟩, by rw [hAe]; exact hS.F ht⟩) hS.2.2 dX2_readSeat_90
