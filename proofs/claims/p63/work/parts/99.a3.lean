theorem isw_fr1 {st u : CT} {n : Nat} {f : Nat → Int32} (e0 : u 0 = st 0) (e4 : u 4 = st 4) (h : ISW st n f) : ISW u n f := by
  unfold ISW PWD at h ⊢
  rw [e0, e4]
  exact h
theorem isw_fr0 {st u : CT} {n : Nat} {f : Nat → Int32} (e0 : u 0 = st 0) (e4 : u 4 = st 4) (h : ¬ ISW st n f) : ¬ ISW u n f := by
  unfold ISW PWD at h ⊢
  rw [e0, e4]
  exact h
set_option maxHeartbeats 4000000 in
set_option maxRecDepth 100000 in
theorem m_X10_takes (l : Launch) (D : va_G) (k : Nat → ClassId) (a : Nat → Nat) (st : CT) (sl : CL) (w n : Nat) (f : Nat → Int32) (sz : Nat) (hB : MB st) (hn : n ≤ 20) : Met l yX10_takes (.code yX10_takes cX10_takes 3 (some .boolean) :: TB) (rmw 6 0 0) (va_Pc [.ref (a 0), .ref w] (PX D k sz (MWS k a st sl) (NSW w n f))) (QI D (S := CT) (fun r u => MB u ∧ FR [0] st u ∧ u 0 0 = st 0 0 ∧ u 0 5 = st 0 5 ∧ u 0 7 = st 0 7 ∧ u 0 12 = st 0 12 ∧ u 0 13 = st 0 13 ∧ u 0 20 = st 0 20 ∧ u 0 21 = st 0 21 ∧ u 0 22 = st 0 22 ∧ u 0 26 = st 0 26 ∧ u 0 27 = st 0 27 ∧ u 0 29 = st 0 29 ∧ u 0 31 = st 0 31 ∧ u 0 33 = st 0 33 ∧ ((r = 1 ∧ (ISW st n f ∧ AD st u)) ∨ (r = 0 ∧ (¬ ISW st n f ∧ u 0 = st 0)))) (fun u => MWS k a u sl) (fun _ => []) (MWS k a st sl) sz) 0 0 (va_A (MWS k a st sl) sz) := by
  refine Met.ofW (cc := cX10_takes) (maxL := 3) (ret := (some .boolean)) (by decide) rfl ?_
  intro p e s m args below meth c s₁ B hml hv
  obtain ⟨rfl, hsz, hP, hK, hD0, hN, hX⟩ := hv
  have hx := B.exec
  have hb := B.bytes
  have hr := B.returns
  have hT : ∀ w9 ∈ TB, w9.before ([.ref (a 0), .ref w] : List Value).toArray s = true := fun w9 h => atoms_spec (ws := .code yX10_takes cX10_takes 3 (some .boolean) :: TB) B.pre w9 (List.mem_cons_of_mem _ h)
  have hown : s.vm.findClass RX10 = some m.cls := findClass_of_methodNamed B.named
  have S : CallFix p m c cX10_takes 3 s _ TB RX10 := ⟨hx, hb, hml, hown, hT⟩
  subst hsz
  have hD := hD0.self (sz := s.heap.size)
  generalize hAe : va_A (MWS k a st sl) s.heap.size = A at hD hX ⊢
  have hA : ∀ q : Nat, s.heap.size ≤ q → A q := fun q h => by rw [← hAe]; exact Or.inr h
  have hS : va_S A s.heap s.heap [] := va_S.rf
  have hl := lv_entry ([.ref (a 0), .ref w]) (n := 3) (Nat.le_of_ble_eq_true rfl)
  rw [lg_entry_eq]
  generalize (lg_sl ([.ref (a 0), .ref w]) ++ List.replicate (3 - (lg_sl ([.ref (a 0), .ref w])).length) Slot.unset).toArray = ls at hl ⊢
  have hl : lv_has ls 3 [(0, .ref (a 0)), (1, .ref w)] := hl
  refine nameQ (fun Q hQ => ?_)
  refine lv_aload_n hx hb dX10_takes_0 rfl (lv_at hl 0 rfl) ?_
  refine lv_aload_n hx hb dX10_takes_1 rfl (lv_at hl 1 rfl) ?_
  refine ro_V (As := [.ref w]) (rest := []) S (m_X10_is l D k a st sl   w n f _  hB hn ) lkX10_150 ok_X10_is ⟨rfl, rfl, Nat.le_of_ble_eq_true rfl, Nat.le_of_ble_eq_true rfl⟩ (px_V (ci := 10) (q0 := 0) nice_NSW hK hN rfl mw_0 hP (hD.weaken (fun _ _ _ _ => trivial)) (show NSW w n f A s s.heap from ⟨hX.1, hX.2⟩) hS (px_free hD hS hA)) rfl hl.1 rfl (Nat.le_of_ble_eq_true rfl) ⟨Nat.zero_le _, Nat.zero_le _⟩ dX10_takes_2 (fun r1 er1 => ?_)
  rcases er1 with ⟨rfl, g9⟩ | ⟨rfl, g9⟩
  · skip
    have g2 := g9
    have k3 := g2
    refine lv_istore_n (lv' := [(2, .int 1), (0, .ref (a 0)), (1, .ref w)]) hx hb dX10_takes_5 rfl hl (by decide) rfl (fun ls hl => ?_)
    refine lv_iload_n hx hb dX10_takes_6 rfl (lv_at hl 0 rfl) ?_
    refine lv_if_eq (tgt := 14) hx hb dX10_takes_7 (by decide) (fun c4 => ?_) (fun c4 => ?_)
    · first | exact absurd c4 (by decide) | exact absurd (by decide) c4
    refine lv_aload_n hx hb dX10_takes_10 rfl (lv_at hl 1 rfl) ?_
    refine ca_v hP hD hS hA (fun hDc => run_V (mc := 0) (ms := 0) (As := []) (rest := []) S (m_X10_advance l D k a st sl   _  hB  ) lkX10_154 ok_X10_advance ⟨rfl, rfl, Nat.le_of_ble_eq_true rfl, Nat.le_of_ble_eq_true rfl⟩ (pw_V (ci := 10) (q0 := 0) hK hN rfl mw_0 hP hDc) rfl hl.1 rfl (Nat.le_of_ble_eq_true rfl) ⟨Nat.zero_le _, Nat.zero_le _⟩ dX10_takes_11) (fun s5 H9 locs9 hs5 hP9 hD9 hS9 => ?_)
    clear hP hD hS
    have hS := hS9
    have hP := hP9
    have hD := hD9
    clear hP9 hD9 hS9
    obtain ⟨hBs5, gs5, qs5_0, qs5_1, qs5_2, qs5_3, qs5_4, qs5_5, qs5_6, qs5_7, qs5_8, qs5_9, qs5_10, qs5_11, qs5_12, fs5⟩ := hs5
    have hFs5 : FR [0] st s5 := fr_ca fr_rf gs5 (sub_1 (List.mem_of_getElem? (i := 0) rfl) sub_0)
    have k7 := fs5
    refine lv_iload_n hx hb dX10_takes_14 rfl (lv_at hl 0 rfl) ?_
    rw [hQ]
    exact W.zret (v := 1) (ty := .boolean) hx hb hr rfl (fun t ht hW => ⟨⟨1, s5, rfl, ⟨hBs5, hFs5, qs5_0, qs5_1, qs5_2, qs5_3, qs5_4, qs5_5, qs5_6, qs5_7, qs5_8, qs5_9, qs5_10, qs5_11, qs5_12, Or.inl ⟨rfl, ⟨k3, k7⟩⟩⟩, by rw [ht]; exact hP, va_K.moved hW.alike (hK.sub (tys' := []) [] rfl), by rw [hAe]; exact hD⟩, by rw [hAe]; exact hS.F ht⟩) hS.2.2 dX10_takes_15
  · skip
    have g8 := g9
    have k9 := g8
    refine lv_istore_n (lv' := [(2, .int 0), (0, .ref (a 0)), (1, .ref w)]) hx hb dX10_takes_5 rfl hl (by decide) rfl (fun ls hl => ?_)
    refine lv_iload_n hx hb dX10_takes_6 rfl (lv_at hl 0 rfl) ?_
    refine lv_if_eq (tgt := 14) hx hb dX10_takes_7 (by decide) (fun c10 => ?_) (fun c10 => ?_)
    rotate_left
    · first | exact absurd c10 (by decide) | exact absurd (by decide) c10
    refine lv_iload_n hx hb dX10_takes_14 rfl (lv_at hl 0 rfl) ?_
    rw [hQ]
    exact W.zret (v := 0) (ty := .boolean) hx hb hr rfl (fun t ht hW => ⟨⟨0, st, rfl, ⟨hB, fr_rf, rfl, rfl, rfl, rfl, rfl, rfl, rfl, rfl, rfl, rfl, rfl, rfl, rfl, Or.inr ⟨rfl, ⟨k9, rfl⟩⟩⟩, by rw [ht]; exact hP, va_K.moved hW.alike (hK.sub (tys' := []) [] rfl), by rw [hAe]; exact hD⟩, by rw [hAe]; exact hS.F ht⟩) hS.2.2 dX10_takes_15
set_option maxHeartbeats 4000000 in
set_option maxRecDepth 100000 in
theorem m_X10_needs (l : Launch) (D : va_G) (k : Nat → ClassId) (a : Nat → Nat) (st : CT) (sl : CL) (w n : Nat) (f : Nat → Int32) (sz : Nat) (hB : MB st) (hn : n ≤ 20) : Met l yX10_needs (.code yX10_needs cX10_needs 2 none :: TB) (rmw 7 0 0) (va_Pc [.ref (a 0), .ref w] (PX D k sz (MWS k a st sl) (NSW w n f))) (QV D (S := CT) (fun u => MB u ∧ FR [0] st u ∧ u 0 0 = st 0 0 ∧ u 0 5 = st 0 5 ∧ u 0 7 = st 0 7 ∧ u 0 20 = st 0 20 ∧ u 0 21 = st 0 21 ∧ u 0 22 = st 0 22 ∧ u 0 26 = st 0 26 ∧ u 0 27 = st 0 27 ∧ u 0 29 = st 0 29 ∧ u 0 31 = st 0 31 ∧ u 0 33 = st 0 33 ∧ ((u 0 12 = 0 → st 0 12 = 0) ∧ (st 0 8).toInt ≤ (u 0 8).toInt)) (fun u => MWS k a u sl) (fun _ => []) (MWS k a st sl) sz) 0 0 (va_A (MWS k a st sl) sz) := by
  refine Met.ofW (cc := cX10_needs) (maxL := 2) (ret := none) (by decide) rfl ?_
  intro p e s m args below meth c s₁ B hml hv
  obtain ⟨rfl, hsz, hP, hK, hD0, hN, hX⟩ := hv
  have hx := B.exec
  have hb := B.bytes
  have hr := B.returns
  have hT : ∀ w9 ∈ TB, w9.before ([.ref (a 0), .ref w] : List Value).toArray s = true := fun w9 h => atoms_spec (ws := .code yX10_needs cX10_needs 2 none :: TB) B.pre w9 (List.mem_cons_of_mem _ h)
  have hown : s.vm.findClass RX10 = some m.cls := findClass_of_methodNamed B.named
  have S : CallFix p m c cX10_needs 2 s _ TB RX10 := ⟨hx, hb, hml, hown, hT⟩
  subst hsz
  have hD := hD0.self (sz := s.heap.size)
  generalize hAe : va_A (MWS k a st sl) s.heap.size = A at hD hX ⊢
  have hA : ∀ q : Nat, s.heap.size ≤ q → A q := fun q h => by rw [← hAe]; exact Or.inr h
  have hS : va_S A s.heap s.heap [] := va_S.rf
  have hl := lv_entry ([.ref (a 0), .ref w]) (n := 2) (Nat.le_of_ble_eq_true rfl)
  rw [lg_entry_eq]
  generalize (lg_sl ([.ref (a 0), .ref w]) ++ List.replicate (2 - (lg_sl ([.ref (a 0), .ref w])).length) Slot.unset).toArray = ls at hl ⊢
  have hl : lv_has ls 2 [(0, .ref (a 0)), (1, .ref w)] := hl
  refine nameQ (fun Q hQ => ?_)
  refine lv_aload_n hx hb dX10_needs_0 rfl (lv_at hl 0 rfl) ?_
  refine lv_aload_n hx hb dX10_needs_1 rfl (lv_at hl 1 rfl) ?_
  refine ca_i hP hD hS hA (fun hDc => run_V (mc := 0) (ms := 0) (As := [.ref w]) (rest := []) S (m_X10_takes l D k a st sl   w n f _  hB hn ) lkX10_157 ok_X10_takes ⟨rfl, rfl, Nat.le_of_ble_eq_true rfl, Nat.le_of_ble_eq_true rfl⟩ (px_V (ci := 10) (q0 := 0) nice_NSW hK hN rfl mw_0 hP hDc (show NSW w n f A s s.heap from ⟨hX.1, hX.2⟩) hS (px_free hD hS hA)) rfl hl.1 rfl (Nat.le_of_ble_eq_true rfl) ⟨Nat.zero_le _, Nat.zero_le _⟩ dX10_needs_2) (fun r2 s1 H9 locs9 hs1 hP9 hD9 hS9 => ?_)
  clear hP hD hS
  have hS := hS9
  have hP := hP9
  have hD := hD9
  clear hP9 hD9 hS9
  obtain ⟨hBs1, gs1, qs1_0, qs1_1, qs1_2, qs1_3, qs1_4, qs1_5, qs1_6, qs1_7, qs1_8, qs1_9, qs1_10, qs1_11, qs1_12, fs1⟩ := hs1
  have hFs1 : FR [0] st s1 := fr_ca fr_rf gs1 (sub_1 (List.mem_of_getElem? (i := 0) rfl) sub_0)
  rcases fs1 with ⟨rfl, g9⟩ | ⟨rfl, g9⟩
  · skip
    have g3 := g9
    have k4 := g3
    refine lv_if_ne (tgt := 13) hx hb dX10_needs_5 (by decide) (fun c5 => ?_) (fun c5 => ?_)
    rotate_left
    · first | exact absurd c5 (by decide) | exact absurd (by decide) c5
    rw [hQ]
    exact W.vret hx hb hr (fun t ht hW => ⟨⟨s1, rfl, ⟨hBs1, hFs1, qs1_0, qs1_1, qs1_2, qs1_5, qs1_6, qs1_7, qs1_8, qs1_9, qs1_10, qs1_11, qs1_12, ⟨(fun z9 => (Eq.trans (Eq.symm qs1_3) z9)), k4.2.1⟩⟩, by rw [ht]; exact hP, va_K.moved hW.alike (hK.sub (tys' := []) [] rfl), by rw [hAe]; exact hD⟩, by rw [hAe]; exact hS.F ht⟩) hS.2.2 dX10_needs_13
  · skip
    have g6 := g9
    have k7 := g6
    refine lv_if_ne (tgt := 13) hx hb dX10_needs_5 (by decide) (fun c8 => ?_) (fun c8 => ?_)
    · first | exact absurd c8 (by decide) | exact absurd (by decide) c8
    refine lv_aload_n hx hb dX10_needs_8 rfl (lv_at hl 0 rfl) ?_
    refine lv_iconst (v := 1) hx hb dX10_needs_9 (by decide) ?_
    refine ca_v hP hD hS hA (fun hDc => run_V (mc := 0) (ms := 0) (As := [.int 1]) (rest := []) S (m_X10_errs l D k a s1 sl  1 _  hBs1 (iv_mono (c := 1) (d := 3) (iv_c (by decide) : Iv 1 1 1) (by decide) (by decide)) ) lkX10_160 ok_X10_errs ⟨rfl, rfl, Nat.le_of_ble_eq_true rfl, Nat.le_of_ble_eq_true rfl⟩ (pw_V (ci := 10) (q0 := 0) hK hN rfl mw_0 hP hDc) rfl hl.1 rfl (Nat.le_of_ble_eq_true rfl) ⟨Nat.zero_le _, Nat.zero_le _⟩ dX10_needs_10) (fun s9 H9 locs9 hs9 hP9 hD9 hS9 => ?_)
    clear hP hD hS
    have hS := hS9
    have hP := hP9
    have hD := hD9
    clear hP9 hD9 hS9
    obtain ⟨hBs9, gs9, qs9_0, qs9_1, qs9_2, qs9_3, qs9_4, qs9_5, qs9_6, qs9_7, qs9_8, qs9_9, qs9_10, qs9_11, qs9_12, qs9_13, qs9_14, fs9⟩ := hs9
    have hFs9 : FR [0] st s9 := fr_ca hFs1 gs9 (sub_1 (List.mem_of_getElem? (i := 0) rfl) sub_0)
    have k11 := fs9
    rw [hQ]
    exact W.vret hx hb hr (fun t ht hW => ⟨⟨s9, rfl, ⟨hBs9, hFs9, (Eq.trans qs9_0 qs1_0), (Eq.trans qs9_1 qs1_1), (Eq.trans qs9_2 qs1_2), (Eq.trans qs9_7 qs1_5), (Eq.trans qs9_8 qs1_6), (Eq.trans qs9_9 qs1_7), (Eq.trans qs9_10 qs1_8), (Eq.trans qs9_11 qs1_9), (Eq.trans qs9_12 qs1_10), (Eq.trans qs9_13 qs1_11), (Eq.trans qs9_14 qs1_12), ⟨(fun z9 => absurd z9 k11), (Int.le_trans (show (st 0 8).toInt ≤ (s1 0 8).toInt from by rw [k7.2]; exact Int.le_refl _) (show (s1 0 8).toInt ≤ (s9 0 8).toInt from by rw [qs9_3]; exact Int.le_refl _))⟩⟩, by rw [ht]; exact hP, va_K.moved hW.alike (hK.sub (tys' := []) [] rfl), by rw [hAe]; exact hD⟩, by rw [hAe]; exact hS.F ht⟩) hS.2.2 dX10_needs_13
set_option maxHeartbeats 4000000 in
set_option maxRecDepth 100000 in
theorem m_X10_number (l : Launch) (D : va_G) (k : Nat → ClassId) (a : Nat → Nat) (st : CT) (sl : CL) (p0 : Int32) (p1 : Int32) (sz : Nat) (hB : MB st)  : Met l yX10_number (.code yX10_number cX10_number 4 (some .int) :: TB) (rmw 3 0 0) (va_Pc [.ref (a 0), .int p0, .int p1] (PW D k sz (MWS k a st sl))) (QI D (S := CT) (fun r u => MB u ∧ FR [0] st u ∧ u 0 0 = st 0 0 ∧ u 0 5 = st 0 5 ∧ u 0 7 = st 0 7 ∧ u 0 20 = st 0 20 ∧ u 0 21 = st 0 21 ∧ u 0 22 = st 0 22 ∧ u 0 26 = st 0 26 ∧ u 0 27 = st 0 27 ∧ u 0 29 = st 0 29 ∧ u 0 31 = st 0 31 ∧ u 0 33 = st 0 33 ∧ (((u 0 12 = 0 → st 0 12 = 0 ∧ st 0 10 = 2 ∧ (p0.toInt ≤ r.toInt ∧ r.toInt ≤ p1.toInt) ∧ AD st u) ∧ (st 0 8).toInt ≤ (u 0 8).toInt ∧ (r = 0 ∨ (p0.toInt ≤ r.toInt ∧ r.toInt ≤ p1.toInt))))) (fun u => MWS k a u sl) (fun _ => []) (MWS k a st sl) sz) 0 0 (va_A (MWS k a st sl) sz) := by
  refine Met.ofW (cc := cX10_number) (maxL := 4) (ret := (some .int)) (by decide) rfl ?_
  intro p e s m args below meth c s₁ B hml hv
  obtain ⟨rfl, hsz, hP, hK, hD0, hN⟩ := hv
  have hx := B.exec
  have hb := B.bytes
  have hr := B.returns
  have hT : ∀ w9 ∈ TB, w9.before ([.ref (a 0), .int p0, .int p1] : List Value).toArray s = true := fun w9 h => atoms_spec (ws := .code yX10_number cX10_number 4 (some .int) :: TB) B.pre w9 (List.mem_cons_of_mem _ h)
  have hown : s.vm.findClass RX10 = some m.cls := findClass_of_methodNamed B.named
  have S : CallFix p m c cX10_number 4 s _ TB RX10 := ⟨hx, hb, hml, hown, hT⟩
  subst hsz
  have hD := hD0.self (sz := s.heap.size)
  generalize hAe : va_A (MWS k a st sl) s.heap.size = A at hD ⊢
  have hA : ∀ q : Nat, s.heap.size ≤ q → A q := fun q h => by rw [← hAe]; exact Or.inr h
  have hS : va_S A s.heap s.heap [] := va_S.rf
  have hl := lv_entry ([.ref (a 0), .int p0, .int p1]) (n := 4) (Nat.le_of_ble_eq_true rfl)
  rw [lg_entry_eq]
  generalize (lg_sl ([.ref (a 0), .int p0, .int p1]) ++ List.replicate (4 - (lg_sl ([.ref (a 0), .int p0, .int p1])).length) Slot.unset).toArray = ls at hl ⊢
  have hl : lv_has ls 4 [(0, .ref (a 0)), (1, .int p0), (2, .int p1)] := hl
  refine nameQ (fun Q hQ => ?_)
  refine lv_aload_n hx hb dX10_number_0 rfl (lv_at hl 0 rfl) ?_
  refine ro_V (As := []) (rest := []) S (m_X10_good l D k a st sl   _  hB  ) lkX10_136 ok_X10_good ⟨rfl, rfl, Nat.le_of_ble_eq_true rfl, Nat.le_of_ble_eq_true rfl⟩ (pw_V (ci := 10) (q0 := 0) hK hN rfl mw_0 hP (hD.weaken (fun _ _ _ _ => trivial))) rfl hl.1 rfl (Nat.le_of_ble_eq_true rfl) ⟨Nat.zero_le _, Nat.zero_le _⟩ dX10_number_1 (fun r1 er1 => ?_)
  rcases er1 with ⟨rfl, g9⟩ | ⟨rfl, g9⟩
  · skip
    have g2 := g9
    have k3 := g2
    refine lv_if_eq (tgt := 20) hx hb dX10_number_4 (by decide) (fun c4 => ?_) (fun c4 => ?_)
    · first | exact absurd c4 (by decide) | exact absurd (by decide) c4
    refine lv_aload_n hx hb dX10_number_7 rfl (lv_at hl 0 rfl) ?_
    refine va_get (D := D) (ci := 10) (v := .int (st 0 10)) (C := RX10) (T := TX10) (N := 38) hx hb hT in_X10 hown hK hP 0 mw_0 rfl 10 (by decide) (hT _ t1272) (fun _ h9 => h9) rfl dX10_number_8 ?_
    refine lv_iconst (v := 2) hx hb dX10_number_11 (by decide) ?_
    refine lv_icmp_eq (tgt := 20) hx hb dX10_number_12 (by decide) (fun c5 => ?_) (fun c5 => ?_)
    · skip
      have h6 : Iv 2 2 (st 0 10) := eq_l c5 (iv_c (by decide) : Iv 2 2 2)
      refine lv_aload_n hx hb dX10_number_20 rfl (lv_at hl 0 rfl) ?_
      refine ro_V (As := []) (rest := []) S (m_X10_good l D k a st sl   _  hB  ) lkX10_136 ok_X10_good ⟨rfl, rfl, Nat.le_of_ble_eq_true rfl, Nat.le_of_ble_eq_true rfl⟩ (pw_V (ci := 10) (q0 := 0) hK hN rfl mw_0 hP (hD.weaken (fun _ _ _ _ => trivial))) rfl hl.1 rfl (Nat.le_of_ble_eq_true rfl) ⟨Nat.zero_le _, Nat.zero_le _⟩ dX10_number_21 (fun r7 er7 => ?_)
      rcases er7 with ⟨rfl, g9⟩ | ⟨rfl, g9⟩
      · skip
        have g8 := g9
        have k9 := g8
        refine lv_if_eq (tgt := 47) hx hb dX10_number_24 (by decide) (fun c10 => ?_) (fun c10 => ?_)
        · first | exact absurd c10 (by decide) | exact absurd (by decide) c10
        refine lv_aload_n hx hb dX10_number_27 rfl (lv_at hl 0 rfl) ?_
        refine va_get (D := D) (ci := 10) (v := .int (st 0 11)) (C := RX10) (T := TX10) (N := 38) hx hb hT in_X10 hown hK hP 0 mw_0 rfl 11 (by decide) (hT _ t1273) (fun _ h9 => h9) rfl dX10_number_28 ?_
        have h11 : Iv 0 99999 (st 0 11) := (rm_0_11 hB)
        refine lv_i2l hx hb dX10_number_31 rfl ?_
        refine lv_iload_n hx hb dX10_number_32 rfl (lv_at hl 1 rfl) ?_
        refine lv_i2l hx hb dX10_number_33 rfl ?_
        refine lv_iload_n hx hb dX10_number_34 rfl (lv_at hl 2 rfl) ?_
        refine lv_i2l hx hb dX10_number_35 rfl ?_
        refine ro_S (As := [.long ((st 0 11).toInt64), .long (p0.toInt64), .long (p1.toInt64)]) (rest := []) S (m_X10_in l D k a st sl  ((st 0 11).toInt64) (p0.toInt64) (p1.toInt64) _  hB  ) lkX10_85 ok_X10_in ⟨rfl, rfl, Nat.le_of_ble_eq_true rfl, Nat.le_of_ble_eq_true rfl⟩ (pw_S hK hN hP (hD.weaken (fun _ _ _ _ => trivial))) rfl hl.1 rfl (Nat.le_of_ble_eq_true rfl) ⟨Nat.zero_le _, Nat.zero_le _⟩ dX10_number_36 (fun r12 er12 => ?_)
        rcases er12 with ⟨rfl, g9⟩ | ⟨rfl, g9⟩
        · skip
          have g13 := g9
          have k14 := g13
          refine lv_if_ne (tgt := 47) hx hb dX10_number_39 (by decide) (fun c15 => ?_) (fun c15 => ?_)
          rotate_left
          · first | exact absurd c15 (by decide) | exact absurd (by decide) c15
          refine lv_aload_n hx hb dX10_number_47 rfl (lv_at hl 0 rfl) ?_
          refine ro_V (As := []) (rest := []) S (m_X10_good l D k a st sl   _  hB  ) lkX10_136 ok_X10_good ⟨rfl, rfl, Nat.le_of_ble_eq_true rfl, Nat.le_of_ble_eq_true rfl⟩ (pw_V (ci := 10) (q0 := 0) hK hN rfl mw_0 hP (hD.weaken (fun _ _ _ _ => trivial))) rfl hl.1 rfl (Nat.le_of_ble_eq_true rfl) ⟨Nat.zero_le _, Nat.zero_le _⟩ dX10_number_48 (fun r16 er16 => ?_)
          rcases er16 with ⟨rfl, g9⟩ | ⟨rfl, g9⟩
          · skip
            have g17 := g9
            have k18 := g17
            refine lv_if_ne (tgt := 56) hx hb dX10_number_51 (by decide) (fun c19 => ?_) (fun c19 => ?_)
            rotate_left
            · first | exact absurd c19 (by decide) | exact absurd (by decide) c19
            refine lv_aload_n hx hb dX10_number_56 rfl (lv_at hl 0 rfl) ?_
            refine va_get (D := D) (ci := 10) (v := .int (st 0 11)) (C := RX10) (T := TX10) (N := 38) hx hb hT in_X10 hown hK hP 0 mw_0 rfl 11 (by decide) (hT _ t1273) (fun _ h9 => h9) rfl dX10_number_57 ?_
            refine lv_istore_n (lv' := [(3, .int (st 0 11)), (0, .ref (a 0)), (1, .int p0), (2, .int p1)]) hx hb dX10_number_60 rfl hl (by decide) rfl (fun ls hl => ?_)
            refine lv_aload_n hx hb dX10_number_61 rfl (lv_at hl 1 rfl) ?_
            refine ca_v hP hD hS hA (fun hDc => run_V (mc := 0) (ms := 0) (As := []) (rest := []) S (m_X10_advance l D k a st sl   _  hB  ) lkX10_154 ok_X10_advance ⟨rfl, rfl, Nat.le_of_ble_eq_true rfl, Nat.le_of_ble_eq_true rfl⟩ (pw_V (ci := 10) (q0 := 0) hK hN rfl mw_0 hP hDc) rfl hl.1 rfl (Nat.le_of_ble_eq_true rfl) ⟨Nat.zero_le _, Nat.zero_le _⟩ dX10_number_62) (fun s20 H9 locs9 hs20 hP9 hD9 hS9 => ?_)
            clear hP hD hS
            have hS := hS9
            have hP := hP9
            have hD := hD9
            clear hP9 hD9 hS9
            obtain ⟨hBs20, gs20, qs20_0, qs20_1, qs20_2, qs20_3, qs20_4, qs20_5, qs20_6, qs20_7, qs20_8, qs20_9, qs20_10, qs20_11, qs20_12, fs20⟩ := hs20
            have hFs20 : FR [0] st s20 := fr_ca fr_rf gs20 (sub_1 (List.mem_of_getElem? (i := 0) rfl) sub_0)
            have k22 := fs20
            refine lv_iload_n hx hb dX10_number_65 rfl (lv_at hl 0 rfl) ?_
            rw [hQ]
            exact W.iret (v := (st 0 11)) hx hb hr (fun t ht hW => ⟨⟨(st 0 11), s20, rfl, ⟨hBs20, hFs20, qs20_0, qs20_1, qs20_2, qs20_5, qs20_6, qs20_7, qs20_8, qs20_9, qs20_10, qs20_11, qs20_12, ⟨fun _ => ⟨k18, c5, (by have y9 := k14; rw [l_ti, l_ti, l_ti] at y9; exact y9), k22⟩, k22.1, Or.inr (by have y9 := k14; rw [l_ti, l_ti, l_ti] at y9; exact y9)⟩⟩, by rw [ht]; exact hP, va_K.moved hW.alike (hK.sub (tys' := []) [] rfl), by rw [hAe]; exact hD⟩, by rw [hAe]; exact hS.F ht⟩) hS.2.2 dX10_number_66
          · skip
            have g23 := g9
            have k24 := g23
            exact absurd k9 k24
        · skip
          have g25 := g9
          have k26 := g25
          refine lv_if_ne (tgt := 47) hx hb dX10_number_39 (by decide) (fun c27 => ?_) (fun c27 => ?_)
          · first | exact absurd c27 (by decide) | exact absurd (by decide) c27
          refine lv_aload_n hx hb dX10_number_42 rfl (lv_at hl 0 rfl) ?_
          refine lv_iconst (v := 2) hx hb dX10_number_43 (by decide) ?_
          refine ca_v hP hD hS hA (fun hDc => run_V (mc := 0) (ms := 0) (As := [.int 2]) (rest := []) S (m_X10_errs l D k a st sl  2 _  hB (iv_mono (c := 1) (d := 3) (iv_c (by decide) : Iv 2 2 2) (by decide) (by decide)) ) lkX10_160 ok_X10_errs ⟨rfl, rfl, Nat.le_of_ble_eq_true rfl, Nat.le_of_ble_eq_true rfl⟩ (pw_V (ci := 10) (q0 := 0) hK hN rfl mw_0 hP hDc) rfl hl.1 rfl (Nat.le_of_ble_eq_true rfl) ⟨Nat.zero_le _, Nat.zero_le _⟩ dX10_number_44) (fun s28 H9 locs9 hs28 hP9 hD9 hS9 => ?_)
          clear hP hD hS
          have hS := hS9
          have hP := hP9
          have hD := hD9
          clear hP9 hD9 hS9
          obtain ⟨hBs28, gs28, qs28_0, qs28_1, qs28_2, qs28_3, qs28_4, qs28_5, qs28_6, qs28_7, qs28_8, qs28_9, qs28_10, qs28_11, qs28_12, qs28_13, qs28_14, fs28⟩ := hs28
          have hFs28 : FR [0] st s28 := fr_ca fr_rf gs28 (sub_1 (List.mem_of_getElem? (i := 0) rfl) sub_0)
          have k30 := fs28
          refine lv_aload_n hx hb dX10_number_47 rfl (lv_at hl 0 rfl) ?_
          refine ro_V (As := []) (rest := []) S (m_X10_good l D k a s28 sl   _  hBs28  ) lkX10_136 ok_X10_good ⟨rfl, rfl, Nat.le_of_ble_eq_true rfl, Nat.le_of_ble_eq_true rfl⟩ (pw_V (ci := 10) (q0 := 0) hK hN rfl mw_0 hP (hD.weaken (fun _ _ _ _ => trivial))) rfl hl.1 rfl (Nat.le_of_ble_eq_true rfl) ⟨Nat.zero_le _, Nat.zero_le _⟩ dX10_number_48 (fun r31 er31 => ?_)
          rcases er31 with ⟨rfl, g9⟩ | ⟨rfl, g9⟩
          · skip
            have g32 := g9
            have k33 := g32
            exact absurd k33 k30
          · skip
            have g34 := g9
            have k35 := g34
            refine lv_if_ne (tgt := 56) hx hb dX10_number_51 (by decide) (fun c36 => ?_) (fun c36 => ?_)
            · first | exact absurd c36 (by decide) | exact absurd (by decide) c36
            refine lv_iconst (v := 0) hx hb dX10_number_54 (by decide) ?_
            rw [hQ]
            exact W.iret (v := 0) hx hb hr (fun t ht hW => ⟨⟨0, s28, rfl, ⟨hBs28, hFs28, qs28_0, qs28_1, qs28_2, qs28_7, qs28_8, qs28_9, qs28_10, qs28_11, qs28_12, qs28_13, qs28_14, ⟨fun z9 => absurd z9 k35, (show (st 0 8).toInt ≤ (s28 0 8).toInt from by rw [qs28_3]; exact Int.le_refl _), Or.inl rfl⟩⟩, by rw [ht]; exact hP, va_K.moved hW.alike (hK.sub (tys' := []) [] rfl), by rw [hAe]; exact hD⟩, by rw [hAe]; exact hS.F ht⟩) hS.2.2 dX10_number_55
      · skip
        have g37 := g9
        have k38 := g37
        exact absurd k3 k38
    · skip
      refine lv_aload_n hx hb dX10_number_15 rfl (lv_at hl 0 rfl) ?_
      refine lv_iconst (v := 1) hx hb dX10_number_16 (by decide) ?_
      refine ca_v hP hD hS hA (fun hDc => run_V (mc := 0) (ms := 0) (As := [.int 1]) (rest := []) S (m_X10_errs l D k a st sl  1 _  hB (iv_mono (c := 1) (d := 3) (iv_c (by decide) : Iv 1 1 1) (by decide) (by decide)) ) lkX10_160 ok_X10_errs ⟨rfl, rfl, Nat.le_of_ble_eq_true rfl, Nat.le_of_ble_eq_true rfl⟩ (pw_V (ci := 10) (q0 := 0) hK hN rfl mw_0 hP hDc) rfl hl.1 rfl (Nat.le_of_ble_eq_true rfl) ⟨Nat.zero_le _, Nat.zero_le _⟩ dX10_number_17) (fun s39 H9 locs9 hs39 hP9 hD9 hS9 => ?_)
      clear hP hD hS
      have hS := hS9
      have hP := hP9
      have hD := hD9
      clear hP9 hD9 hS9
      obtain ⟨hBs39, gs39, qs39_0, qs39_1, qs39_2, qs39_3, qs39_4, qs39_5, qs39_6, qs39_7, qs39_8, qs39_9, qs39_10, qs39_11, qs39_12, qs39_13, qs39_14, fs39⟩ := hs39
      have hFs39 : FR [0] st s39 := fr_ca fr_rf gs39 (sub_1 (List.mem_of_getElem? (i := 0) rfl) sub_0)
      have k41 := fs39
      refine lv_aload_n hx hb dX10_number_20 rfl (lv_at hl 0 rfl) ?_
      refine ro_V (As := []) (rest := []) S (m_X10_good l D k a s39 sl   _  hBs39  ) lkX10_136 ok_X10_good ⟨rfl, rfl, Nat.le_of_ble_eq_true rfl, Nat.le_of_ble_eq_true rfl⟩ (pw_V (ci := 10) (q0 := 0) hK hN rfl mw_0 hP (hD.weaken (fun _ _ _ _ => trivial))) rfl hl.1 rfl (Nat.le_of_ble_eq_true rfl) ⟨Nat.zero_le _, Nat.zero_le _⟩ dX10_number_21 (fun r42 er42 => ?_)
      rcases er42 with ⟨rfl, g9⟩ | ⟨rfl, g9⟩
      · skip
        have g43 := g9
        have k44 := g43
        exact absurd k44 k41
      · skip
        have g45 := g9
        have k46 := g45
        refine lv_if_eq (tgt := 47) hx hb dX10_number_24 (by decide) (fun c47 => ?_) (fun c47 => ?_)
        rotate_left
        · first | exact absurd c47 (by decide) | exact absurd (by decide) c47
        refine lv_aload_n hx hb dX10_number_47 rfl (lv_at hl 0 rfl) ?_
        refine ro_V (As := []) (rest := []) S (m_X10_good l D k a s39 sl   _  hBs39  ) lkX10_136 ok_X10_good ⟨rfl, rfl, Nat.le_of_ble_eq_true rfl, Nat.le_of_ble_eq_true rfl⟩ (pw_V (ci := 10) (q0 := 0) hK hN rfl mw_0 hP (hD.weaken (fun _ _ _ _ => trivial))) rfl hl.1 rfl (Nat.le_of_ble_eq_true rfl) ⟨Nat.zero_le _, Nat.zero_le _⟩ dX10_number_48 (fun r48 er48 => ?_)
        rcases er48 with ⟨rfl, g9⟩ | ⟨rfl, g9⟩
        · skip
          have g49 := g9
          have k50 := g49
          exact absurd k50 k46
        · skip
          have g51 := g9
          have k52 := g51
          refine lv_if_ne (tgt := 56) hx hb dX10_number_51 (by decide) (fun c53 => ?_) (fun c53 => ?_)
          · first | exact absurd c53 (by decide) | exact absurd (by decide) c53
          refine lv_iconst (v := 0) hx hb dX10_number_54 (by decide) ?_
          rw [hQ]
          exact W.iret (v := 0) hx hb hr (fun t ht hW => ⟨⟨0, s39, rfl, ⟨hBs39, hFs39, qs39_0, qs39_1, qs39_2, qs39_7, qs39_8, qs39_9, qs39_10, qs39_11, qs39_12, qs39_13, qs39_14, ⟨fun z9 => absurd z9 k52, (show (st 0 8).toInt ≤ (s39 0 8).toInt from by rw [qs39_3]; exact Int.le_refl _), Or.inl rfl⟩⟩, by rw [ht]; exact hP, va_K.moved hW.alike (hK.sub (tys' := []) [] rfl), by rw [hAe]; exact hD⟩, by rw [hAe]; exact hS.F ht⟩) hS.2.2 dX10_number_55
  · skip
    have g54 := g9
    have k55 := g54
    refine lv_if_eq (tgt := 20) hx hb dX10_number_4 (by decide) (fun c56 => ?_) (fun c56 => ?_)
    rotate_left
    · first | exact absurd c56 (by decide) | exact absurd (by decide) c56
    refine lv_aload_n hx hb dX10_number_20 rfl (lv_at hl 0 rfl) ?_
    refine ro_V (As := []) (rest := []) S (m_X10_good l D k a st sl   _  hB  ) lkX10_136 ok_X10_good ⟨rfl, rfl, Nat.le_of_ble_eq_true rfl, Nat.le_of_ble_eq_true rfl⟩ (pw_V (ci := 10) (q0 := 0) hK hN rfl mw_0 hP (hD.weaken (fun _ _ _ _ => trivial))) rfl hl.1 rfl (Nat.le_of_ble_eq_true rfl) ⟨Nat.zero_le _, Nat.zero_le _⟩ dX10_number_21 (fun r57 er57 => ?_)
    rcases er57 with ⟨rfl, g9⟩ | ⟨rfl, g9⟩
    · skip
      have g58 := g9
      have k59 := g58
      exact absurd k59 k55
    · skip
      have g60 := g9
      have k61 := g60
      refine lv_if_eq (tgt := 47) hx hb dX10_number_24 (by decide) (fun c62 => ?_) (fun c62 => ?_)
      rotate_left
      · first | exact absurd c62 (by decide) | exact absurd (by decide) c62
      refine lv_aload_n hx hb dX10_number_47 rfl (lv_at hl 0 rfl) ?_
      refine ro_V (As := []) (rest := []) S (m_X10_good l D k a st sl   _  hB  ) lkX10_136 ok_X10_good ⟨rfl, rfl, Nat.le_of_ble_eq_true rfl, Nat.le_of_ble_eq_true rfl⟩ (pw_V (ci := 10) (q0 := 0) hK hN rfl mw_0 hP (hD.weaken (fun _ _ _ _ => trivial))) rfl hl.1 rfl (Nat.le_of_ble_eq_true rfl) ⟨Nat.zero_le _, Nat.zero_le _⟩ dX10_number_48 (fun r63 er63 => ?_)
      rcases er63 with ⟨rfl, g9⟩ | ⟨rfl, g9⟩
      · skip
        have g64 := g9
        have k65 := g64
        exact absurd k65 k61
      · skip
        have g66 := g9
        have k67 := g66
        refine lv_if_ne (tgt := 56) hx hb dX10_number_51 (by decide) (fun c68 => ?_) (fun c68 => ?_)
        · first | exact absurd c68 (by decide) | exact absurd (by decide) c68
        refine lv_iconst (v := 0) hx hb dX10_number_54 (by decide) ?_
        rw [hQ]
        exact W.iret (v := 0) hx hb hr (fun t ht hW => ⟨⟨0, st, rfl, ⟨hB, fr_rf, rfl, rfl, rfl, rfl, rfl, rfl, rfl, rfl, rfl, rfl, rfl, ⟨fun z9 => absurd z9 k67, (Int.le_refl _), Or.inl rfl⟩⟩, by rw [ht]; exact hP, va_K.moved hW.alike (hK.sub (tys' := []) [] rfl), by rw [hAe]; exact hD⟩, by rw [hAe]; exact hS.F ht⟩) hS.2.2 dX10_number_55
set_option maxHeartbeats 4000000 in
set_option maxRecDepth 100000 in
theorem m_X10_told (l : Launch) (D : va_G) (k : Nat → ClassId) (a : Nat → Nat) (st : CT) (sl : CL) (p0 : Int32) (p1 : Int32) (w n : Nat) (f : Nat → Int32) (sz : Nat) (hB : MB st) (hn : n ≤ 20) : Met l yX10_told (.code yX10_told cX10_told 4 (some .int) :: TB) (rmw 8 0 0) (va_Pc [.ref (a 0), .ref w, .int p0, .int p1] (PX D k sz (MWS k a st sl) (NSW w n f))) (QI D (S := CT) (fun r u => MB u ∧ FR [0] st u ∧ u 0 0 = st 0 0 ∧ u 0 5 = st 0 5 ∧ u 0 7 = st 0 7 ∧ u 0 20 = st 0 20 ∧ u 0 21 = st 0 21 ∧ u 0 22 = st 0 22 ∧ u 0 26 = st 0 26 ∧ u 0 27 = st 0 27 ∧ u 0 29 = st 0 29 ∧ u 0 31 = st 0 31 ∧ u 0 33 = st 0 33 ∧ (((u 0 12 = 0 → st 0 12 = 0) ∧ (st 0 8).toInt ≤ (u 0 8).toInt ∧ (r = 0 ∨ (p0.toInt ≤ r.toInt ∧ r.toInt ≤ p1.toInt))))) (fun u => MWS k a u sl) (fun _ => []) (MWS k a st sl) sz) 0 0 (va_A (MWS k a st sl) sz) := by
  refine Met.ofW (cc := cX10_told) (maxL := 4) (ret := (some .int)) (by decide) rfl ?_
  intro p e s m args below meth c s₁ B hml hv
  obtain ⟨rfl, hsz, hP, hK, hD0, hN, hX⟩ := hv
  have hx := B.exec
  have hb := B.bytes
  have hr := B.returns
  have hT : ∀ w9 ∈ TB, w9.before ([.ref (a 0), .ref w, .int p0, .int p1] : List Value).toArray s = true := fun w9 h => atoms_spec (ws := .code yX10_told cX10_told 4 (some .int) :: TB) B.pre w9 (List.mem_cons_of_mem _ h)
  have hown : s.vm.findClass RX10 = some m.cls := findClass_of_methodNamed B.named
  have S : CallFix p m c cX10_told 4 s _ TB RX10 := ⟨hx, hb, hml, hown, hT⟩
  subst hsz
  have hD := hD0.self (sz := s.heap.size)
  generalize hAe : va_A (MWS k a st sl) s.heap.size = A at hD hX ⊢
  have hA : ∀ q : Nat, s.heap.size ≤ q → A q := fun q h => by rw [← hAe]; exact Or.inr h
  have hS : va_S A s.heap s.heap [] := va_S.rf
  have hl := lv_entry ([.ref (a 0), .ref w, .int p0, .int p1]) (n := 4) (Nat.le_of_ble_eq_true rfl)
  rw [lg_entry_eq]
  generalize (lg_sl ([.ref (a 0), .ref w, .int p0, .int p1]) ++ List.replicate (4 - (lg_sl ([.ref (a 0), .ref w, .int p0, .int p1])).length) Slot.unset).toArray = ls at hl ⊢
  have hl : lv_has ls 4 [(0, .ref (a 0)), (1, .ref w), (2, .int p0), (3, .int p1)] := hl
  refine nameQ (fun Q hQ => ?_)
  refine lv_aload_n hx hb dX10_told_0 rfl (lv_at hl 0 rfl) ?_
  refine lv_aload_n hx hb dX10_told_1 rfl (lv_at hl 1 rfl) ?_
  refine ca_v hP hD hS hA (fun hDc => run_V (mc := 0) (ms := 0) (As := [.ref w]) (rest := []) S (m_X10_needs l D k a st sl   w n f _  hB hn ) lkX10_164 ok_X10_needs ⟨rfl, rfl, Nat.le_of_ble_eq_true rfl, Nat.le_of_ble_eq_true rfl⟩ (px_V (ci := 10) (q0 := 0) nice_NSW hK hN rfl mw_0 hP hDc (show NSW w n f A s s.heap from ⟨hX.1, hX.2⟩) hS (px_free hD hS hA)) rfl hl.1 rfl (Nat.le_of_ble_eq_true rfl) ⟨Nat.zero_le _, Nat.zero_le _⟩ dX10_told_2) (fun s1 H9 locs9 hs1 hP9 hD9 hS9 => ?_)
  clear hP hD hS
  have hS := hS9
  have hP := hP9
  have hD := hD9
  clear hP9 hD9 hS9
  obtain ⟨hBs1, gs1, qs1_0, qs1_1, qs1_2, qs1_3, qs1_4, qs1_5, qs1_6, qs1_7, qs1_8, qs1_9, qs1_10, fs1⟩ := hs1
  have hFs1 : FR [0] st s1 := fr_ca fr_rf gs1 (sub_1 (List.mem_of_getElem? (i := 0) rfl) sub_0)
  have k3 := fs1
  refine lv_aload_n hx hb dX10_told_5 rfl (lv_at hl 0 rfl) ?_
  refine lv_iload_n hx hb dX10_told_6 rfl (lv_at hl 2 rfl) ?_
  refine lv_iload_n hx hb dX10_told_7 rfl (lv_at hl 3 rfl) ?_
  refine ca_i hP hD hS hA (fun hDc => run_V (mc := 0) (ms := 0) (As := [.int p0, .int p1]) (rest := []) S (m_X10_number l D k a s1 sl  p0 p1 _  hBs1  ) lkX10_168 ok_X10_number ⟨rfl, rfl, Nat.le_of_ble_eq_true rfl, Nat.le_of_ble_eq_true rfl⟩ (pw_V (ci := 10) (q0 := 0) hK hN rfl mw_0 hP hDc) rfl hl.1 rfl (Nat.le_of_ble_eq_true rfl) ⟨Nat.zero_le _, Nat.zero_le _⟩ dX10_told_8) (fun r5 s4 H9 locs9 hs4 hP9 hD9 hS9 => ?_)
  clear hP hD hS
  have hS := hS9
  have hP := hP9
  have hD := hD9
  clear hP9 hD9 hS9
  obtain ⟨hBs4, gs4, qs4_0, qs4_1, qs4_2, qs4_3, qs4_4, qs4_5, qs4_6, qs4_7, qs4_8, qs4_9, qs4_10, fs4⟩ := hs4
  have hFs4 : FR [0] st s4 := fr_ca hFs1 gs4 (sub_1 (List.mem_of_getElem? (i := 0) rfl) sub_0)
  have k6 := fs4
  have k7 : Iv (-2147483648) 2147483647 r5 := (by rcases k6.2.2 with q9 | q9; (rw [q9]; exact ⟨by decide, by decide⟩); (obtain ⟨y1, y2⟩ := id ((iv_full p0)); obtain ⟨y3, y4⟩ := id ((iv_full p1)); exact ⟨by omega, by omega⟩))
  rw [hQ]
  exact W.iret (v := r5) hx hb hr (fun t ht hW => ⟨⟨r5, s4, rfl, ⟨hBs4, hFs4, (Eq.trans qs4_0 qs1_0), (Eq.trans qs4_1 qs1_1), (Eq.trans qs4_2 qs1_2), (Eq.trans qs4_3 qs1_3), (Eq.trans qs4_4 qs1_4), (Eq.trans qs4_5 qs1_5), (Eq.trans qs4_6 qs1_6), (Eq.trans qs4_7 qs1_7), (Eq.trans qs4_8 qs1_8), (Eq.trans qs4_9 qs1_9), (Eq.trans qs4_10 qs1_10), ⟨(fun z9 => by have y0 : (s4 0 12) = 0 := z9; have k8 := k6.1 y0; have k9 : s1 0 12 = 0 := k8.1; have k10 := k3.1 k9; have k11 : st 0 12 = 0 := k10; exact k11), (Int.le_trans k3.2 k6.2.1), k6.2.2⟩⟩, by rw [ht]; exact hP, va_K.moved hW.alike (hK.sub (tys' := []) [] rfl), by rw [hAe]; exact hD⟩, by rw [hAe]; exact hS.F ht⟩) hS.2.2 dX10_told_11
set_option maxHeartbeats 4000000 in
set_option maxRecDepth 100000 in
theorem m_X10_freshPlace (l : Launch) (D : va_G) (k : Nat → ClassId) (a : Nat → Nat) (st : CT) (sl : CL) (sz : Nat) (hB : MB st)  : Met l yX10_freshPlace (.code yX10_freshPlace cX10_freshPlace 1 (some .int) :: TB) (rmw 4 0 0) (va_Pc [.ref (a 0)] (PW D k sz (MWS k a st sl))) (QI D (S := CT) (fun r u => MB u ∧ FR [0] st u ∧ u 0 0 = st 0 0 ∧ u 0 5 = st 0 5 ∧ u 0 7 = st 0 7 ∧ u 0 20 = st 0 20 ∧ u 0 21 = st 0 21 ∧ u 0 22 = st 0 22 ∧ u 0 26 = st 0 26 ∧ u 0 27 = st 0 27 ∧ u 0 29 = st 0 29 ∧ u 0 31 = st 0 31 ∧ u 0 33 = st 0 33 ∧ (Iv 0 5 r ∧ ((u 0 12 = 0 → st 0 12 = 0) ∧ (st 0 8).toInt ≤ (u 0 8).toInt))) (fun u => MWS k a u sl) (fun _ => []) (MWS k a st sl) sz) 0 0 (va_A (MWS k a st sl) sz) := by
  refine Met.ofW (cc := cX10_freshPlace) (maxL := 1) (ret := (some .int)) (by decide) rfl ?_
  intro p e s m args below meth c s₁ B hml hv
  obtain ⟨rfl, hsz, hP, hK, hD0, hN⟩ := hv
  have hx := B.exec
  have hb := B.bytes
  have hr := B.returns
  have hT : ∀ w9 ∈ TB, w9.before ([.ref (a 0)] : List Value).toArray s = true := fun w9 h => atoms_spec (ws := .code yX10_freshPlace cX10_freshPlace 1 (some .int) :: TB) B.pre w9 (List.mem_cons_of_mem _ h)
  have hown : s.vm.findClass RX10 = some m.cls := findClass_of_methodNamed B.named
  have S : CallFix p m c cX10_freshPlace 1 s _ TB RX10 := ⟨hx, hb, hml, hown, hT⟩
  subst hsz
  have hD := hD0.self (sz := s.heap.size)
  generalize hAe : va_A (MWS k a st sl) s.heap.size = A at hD ⊢
  have hA : ∀ q : Nat, s.heap.size ≤ q → A q := fun q h => by rw [← hAe]; exact Or.inr h
  have hS : va_S A s.heap s.heap [] := va_S.rf
  have hl := lv_entry ([.ref (a 0)]) (n := 1) (Nat.le_of_ble_eq_true rfl)
  rw [lg_entry_eq]
  generalize (lg_sl ([.ref (a 0)]) ++ List.replicate (1 - (lg_sl ([.ref (a 0)])).length) Slot.unset).toArray = ls at hl ⊢
  have hl : lv_has ls 1 [(0, .ref (a 0))] := hl
  refine nameQ (fun Q hQ => ?_)
  refine lv_aload_n hx hb dX10_freshPlace_0 rfl (lv_at hl 0 rfl) ?_
  refine lv_iconst (v := 0) hx hb dX10_freshPlace_1 (by decide) ?_
  refine lv_aload_n hx hb dX10_freshPlace_2 rfl (lv_at hl 0 rfl) ?_
  refine va_get (D := D) (ci := 10) (v := .ref (a 6)) (C := RX10) (T := TX10) (N := 38) hx hb hT in_X10 hown hK hP 0 mw_0 rfl 14 (by decide) (hT _ t1276) (fun _ h9 => h9) rfl dX10_freshPlace_3 ?_
  refine lv_iconst (v := 0) hx hb dX10_freshPlace_6 (by decide) ?_
  refine va_iald hx hb hK hP 6 0 mw_6 rfl (by unfold vp_in; decide) dX10_freshPlace_7 ?_
  refine k_top (y := (st 6 0)) rfl ?_
  have h1 : Iv 0 6 (st 6 0) := (tok_at (rm_6 hB).1 0 0 6 (by decide) (by decide) (by decide))
  refine lv_iconst (v := 1) hx hb dX10_freshPlace_8 (by decide) ?_
  refine lv_isub hx hb dX10_freshPlace_9 ?_
  refine lv_topi (fun z2 ez2 => ?_)
  have h3 : Iv (-1) 5 z2 := iv_sub ez2 h1 (iv_c (by decide) : Iv 1 1 1) (by decide) (by decide) (by decide) (by decide)
  refine ca_i hP hD hS hA (fun hDc => run_V (mc := 0) (ms := 0) (As := [.int 0, .int z2]) (rest := []) S (m_X10_number l D k a st sl  0 z2 _  hB  ) lkX10_168 ok_X10_number ⟨rfl, rfl, Nat.le_of_ble_eq_true rfl, Nat.le_of_ble_eq_true rfl⟩ (pw_V (ci := 10) (q0 := 0) hK hN rfl mw_0 hP hDc) rfl hl.1 rfl (Nat.le_of_ble_eq_true rfl) ⟨Nat.zero_le _, Nat.zero_le _⟩ dX10_freshPlace_10) (fun r5 s4 H9 locs9 hs4 hP9 hD9 hS9 => ?_)
  clear hP hD hS
  have hS := hS9
  have hP := hP9
  have hD := hD9
  clear hP9 hD9 hS9
  obtain ⟨hBs4, gs4, qs4_0, qs4_1, qs4_2, qs4_3, qs4_4, qs4_5, qs4_6, qs4_7, qs4_8, qs4_9, qs4_10, fs4⟩ := hs4
  have hFs4 : FR [0] st s4 := fr_ca fr_rf gs4 (sub_1 (List.mem_of_getElem? (i := 0) rfl) sub_0)
  have k6 := fs4
  have k7 : Iv 0 5 r5 := (by rcases k6.2.2 with q9 | q9; (rw [q9]; exact ⟨by decide, by decide⟩); (obtain ⟨y1, y2⟩ := id ((iv_c (by decide) : Iv 0 0 0)); obtain ⟨y3, y4⟩ := id (h3); exact ⟨by omega, by omega⟩))
  rw [hQ]
  exact W.iret (v := r5) hx hb hr (fun t ht hW => ⟨⟨r5, s4, rfl, ⟨hBs4, hFs4, qs4_0, qs4_1, qs4_2, qs4_3, qs4_4, qs4_5, qs4_6, qs4_7, qs4_8, qs4_9, qs4_10, ⟨k7, ⟨(fun z9 => by have y0 : (s4 0 12) = 0 := z9; have k8 := k6.1 y0; have k9 : st 0 12 = 0 := k8.1; exact k9), k6.2.1⟩⟩⟩, by rw [ht]; exact hP, va_K.moved hW.alike (hK.sub (tys' := []) [] rfl), by rw [hAe]; exact hD⟩, by rw [hAe]; exact hS.F ht⟩) hS.2.2 dX10_freshPlace_13
set_option maxHeartbeats 4000000 in
set_option maxRecDepth 100000 in
theorem m_X10_freshSeated (l : Launch) (D : va_G) (k : Nat → ClassId) (a : Nat → Nat) (st : CT) (sl : CL) (sz : Nat) (hB : MB st)  : Met l yX10_freshSeated (.code yX10_freshSeated cX10_freshSeated 3 (some .int) :: TB) (rmk 1) (va_Pc [.ref (a 0)] (PW D k sz (MWS k a st sl))) (vp_Si (fun r => (True))) 0 0 (fun _ => False) := by
  refine Met.ofW (cc := cX10_freshSeated) (maxL := 3) (ret := (some .int)) (by decide) rfl ?_
  intro p e s m args below meth c s₁ B hml hv
  obtain ⟨rfl, hsz, hP, hK, hD0, hN⟩ := hv
  have hx := B.exec
  have hb := B.bytes
  have hr := B.returns
  have hT : ∀ w9 ∈ TB, w9.before ([.ref (a 0)] : List Value).toArray s = true := fun w9 h => atoms_spec (ws := .code yX10_freshSeated cX10_freshSeated 3 (some .int) :: TB) B.pre w9 (List.mem_cons_of_mem _ h)
  have hown : s.vm.findClass RX10 = some m.cls := findClass_of_methodNamed B.named
  have S : CallFix p m c cX10_freshSeated 3 s _ TB RX10 := ⟨hx, hb, hml, hown, hT⟩
  subst hsz
  have hl := lv_entry ([.ref (a 0)]) (n := 3) (Nat.le_of_ble_eq_true rfl)
  rw [lg_entry_eq]
  generalize (lg_sl ([.ref (a 0)]) ++ List.replicate (3 - (lg_sl ([.ref (a 0)])).length) Slot.unset).toArray = ls at hl ⊢
  have hl : lv_has ls 3 [(0, .ref (a 0))] := hl
  refine nameQ (fun Q hQ => ?_)
  refine lv_iconst (v := 0) hx hb dX10_freshSeated_0 (by decide) ?_
  refine lv_istore_n (lv' := [(1, .int 0), (0, .ref (a 0))]) hx hb dX10_freshSeated_1 rfl hl (by decide) rfl (fun ls hl => ?_)
  refine lv_iconst (v := 0) hx hb dX10_freshSeated_2 (by decide) ?_
  refine lv_istore_n (lv' := [(2, .int 0), (1, .int 0), (0, .ref (a 0))]) hx hb dX10_freshSeated_3 rfl hl (by decide) rfl (fun ls hl => ?_)
  have lp4 : ∀ (n9_4 : Nat) (v2_4 : Int32) (v1_4 : Int32) (ls : Array Slot), Iv 0 3 v2_4 → lv_has ls 3 [(2, .int v2_4), (1, .int v1_4), (0, .ref (a 0))] → (3 : Int) - v2_4.toInt < (n9_4 : Int) → W p l e (rmk 1) s m ([.ref (a 0)] : List Value).toArray below meth c s.heap [] 0 0 Q (F0 m 4 ls []) := by
    clear hl
    intro n9_4
    induction n9_4 with
    | zero =>
      intro v2_4 v1_4 ls iv2_4 hl hm4
      exact (fu_0 iv2_4 hm4).elim
    | succ n9_4 ih4 =>
      intro v2_4 v1_4 ls iv2_4 hl hm4
      refine lv_iload_n hx hb dX10_freshSeated_4 rfl (lv_at hl 0 rfl) ?_
      refine lv_aload_n hx hb dX10_freshSeated_5 rfl (lv_at hl 2 rfl) ?_
      refine va_get (D := D) (ci := 10) (v := .ref (a 6)) (C := RX10) (T := TX10) (N := 38) hx hb hT in_X10 hown hK hP 0 mw_0 rfl 14 (by decide) (hT _ t1276) (fun _ h9 => h9) rfl dX10_freshSeated_6 ?_
      refine lv_iconst (v := 4) hx hb dX10_freshSeated_9 (by decide) ?_
      refine va_iald hx hb hK hP 6 0 mw_6 rfl (by unfold vp_in; decide) dX10_freshSeated_10 ?_
      refine k_top (y := (st 6 4)) rfl ?_
      have h65 : Iv 0 3 (st 6 4) := (tok_at (rm_6 hB).1 4 0 3 (by decide) (by decide) (by decide))
      refine lv_icmp_ge (tgt := 36) hx hb dX10_freshSeated_11 (by decide) (fun c66 => ?_) (fun c66 => ?_)
      · skip
        have n67 : (st 6 4).toInt ≤ v2_4.toInt := (i_le c66)
        refine lv_iload_n hx hb dX10_freshSeated_36 rfl (lv_at hl 1 rfl) ?_
        rw [hQ]
        exact W.iret (v := v1_4) hx hb hr (fun t ht hW => ⟨v1_4, rfl, trivial, ht⟩) (fun _ h9 => by cases h9) dX10_freshSeated_37
      · skip
        have n68 : v2_4.toInt < (st 6 4).toInt := (i_nle c66)
        have h69 : Iv 0 2 v2_4 := lt_l iv2_4 n68 h65 (by decide)
        have h70 : Iv 1 3 (st 6 4) := lt_r iv2_4 n68 h65 (by decide)
        refine lv_iload_n hx hb dX10_freshSeated_14 rfl (lv_at hl 1 rfl) ?_
        refine lv_aload_n hx hb dX10_freshSeated_15 rfl (lv_at hl 2 rfl) ?_
        refine va_get (D := D) (ci := 10) (v := .ref (a 6)) (C := RX10) (T := TX10) (N := 38) hx hb hT in_X10 hown hK hP 0 mw_0 rfl 14 (by decide) (hT _ t1276) (fun _ h9 => h9) rfl dX10_freshSeated_16 ?_
        refine lv_bipush (v := 104) hx hb dX10_freshSeated_19 (by decide) ?_
        refine lv_iconst (v := 2) hx hb dX10_freshSeated_21 (by decide) ?_
        refine lv_iload_n hx hb dX10_freshSeated_22 rfl (lv_at hl 0 rfl) ?_
        refine lv_imul hx hb dX10_freshSeated_23 ?_
        refine lv_topi (fun z71 ez71 => ?_)
        have h72 : Iv 0 4 z71 := iv_mull ez71 h69 (k := 2) (by decide) (by decide) (by decide) (by decide) (by decide) (by decide)
        refine lv_iadd hx hb dX10_freshSeated_24 ?_
        refine lv_topi (fun z73 ez73 => ?_)
        have h74 : Iv 104 108 z73 := iv_add ez73 (iv_c (by decide) : Iv 104 104 104) h72 (by decide) (by decide) (by decide) (by decide)
        refine lv_iconst (v := 1) hx hb dX10_freshSeated_25 (by decide) ?_
        refine lv_iadd hx hb dX10_freshSeated_26 ?_
        refine lv_topi (fun z75 ez75 => ?_)
        have h76 : Iv 105 109 z75 := iv_add ez75 h74 (iv_c (by decide) : Iv 1 1 1) (by decide) (by decide) (by decide) (by decide)
        refine va_iald hx hb hK hP 6 0 mw_6 rfl (iv_in h76 (by decide) (by decide)) dX10_freshSeated_27 ?_
        refine lv_topi (fun z77 ez77 => ?_)
        refine lv_ior hx hb dX10_freshSeated_28 ?_
        refine lv_topi (fun z78 ez78 => ?_)
        refine lv_istore_n (lv' := [(1, .int z78), (2, .int v2_4), (0, .ref (a 0))]) hx hb dX10_freshSeated_29 rfl hl (by decide) rfl (fun ls hl => ?_)
        obtain ⟨z79, ez79⟩ : ∃ z9 : Int32, z9 = v2_4 + Int32.ofInt 1 := ⟨_, rfl⟩
        have h80 : Iv 1 3 z79 := iv_inc ez79 h69 (by decide) (by decide) (by decide) (by decide) (by decide) (by decide)
        refine lv_iinc (v := z79) (lv' := [(2, .int z79), (1, .int z78), (0, .ref (a 0))]) hx hb dX10_freshSeated_30 hl (k := 1) rfl ez79.symm (by decide) rfl (fun ls hl => ?_)
        refine lv_goto (tgt := 4) hx hb dX10_freshSeated_33 (by decide) ?_
        exact ih4 z79 z78 _ (iv_mono (c := 0) (d := 3) h80 (by decide) (by decide)) (lv_sub hl [0, 1, 2] rfl) (fu_s (lo := 0) (ti_inc ez79 h69 (by decide) (by decide) (by decide) (by decide)) (by decide) hm4)
  exact lp4 4 0 0 _ (iv_mono (c := 0) (d := 3) (iv_c (by decide) : Iv 0 0 0) (by decide) (by decide)) (lv_sub hl [0, 1, 2] rfl) (fu_i (iv_mono (c := 0) (d := 3) (iv_c (by decide) : Iv 0 0 0) (by decide) (by decide)) (by decide))
