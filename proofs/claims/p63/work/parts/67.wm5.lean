set_option maxHeartbeats 4000000 in
set_option maxRecDepth 100000 in
theorem s_X9_roams (l : Launch) (D : va_G) (k : Nat → ClassId) (a : Nat → Nat) (st : CT) (sl : CL) (p0 : Int32) (p1 : Int32) (sz : Nat) (hB : CB st)  : Met l yX9_roams (.code yX9_roams cX9_roams 4 (some .int) :: TB) (rmw 5 0 0) (va_Pc [.ref (a 0), .int p0, .int p1] (PW D k sz (CWS k a st sl))) (QI D (S := CT) (fun r u => CB u ∧ FR [120, 121, 122, 123, 124] st u ∧ (Iv (-2) 5 r ∧ (True))) (fun u => CWS k a u sl) (fun _ => []) (CWS k a st sl) sz) 0 0 (va_A (CWS k a st sl) sz) := by
  refine Met.ofW (cc := cX9_roams) (maxL := 4) (ret := (some .int)) (by decide) rfl ?_
  intro p e s m args below meth c s₁ B hml hv
  obtain ⟨rfl, hsz, hP, hK, hD0, hN⟩ := hv
  have hx := B.exec
  have hb := B.bytes
  have hr := B.returns
  have hT : ∀ w9 ∈ TB, w9.before ([.ref (a 0), .int p0, .int p1] : List Value).toArray s = true := fun w9 h => atoms_spec (ws := .code yX9_roams cX9_roams 4 (some .int) :: TB) B.pre w9 (List.mem_cons_of_mem _ h)
  have hown : s.vm.findClass RX9 = some m.cls := findClass_of_methodNamed B.named
  have S : CallFix p m c cX9_roams 4 s _ TB RX9 := ⟨hx, hb, hml, hown, hT⟩
  subst hsz
  have hD := hD0.self (sz := s.heap.size)
  generalize hAe : va_A (CWS k a st sl) s.heap.size = A at hD ⊢
  have hA : ∀ q : Nat, s.heap.size ≤ q → A q := fun q h => by rw [← hAe]; exact Or.inr h
  have hS : va_S A s.heap s.heap [] := va_S.rf
  have hl := lv_entry ([.ref (a 0), .int p0, .int p1]) (n := 4) (Nat.le_of_ble_eq_true rfl)
  rw [lg_entry_eq]
  generalize (lg_sl ([.ref (a 0), .int p0, .int p1]) ++ List.replicate (4 - (lg_sl ([.ref (a 0), .int p0, .int p1])).length) Slot.unset).toArray = ls at hl ⊢
  have hl : lv_has ls 4 [(0, .ref (a 0)), (1, .int p0), (2, .int p1)] := hl
  refine nameQ (fun Q hQ => ?_)
  refine lv_aload_n hx hb dX9_roams_0 rfl (lv_at hl 0 rfl) ?_
  refine va_get (D := D) (ci := 9) (v := .ref (a 17)) (C := RX9) (T := TX9) (N := 11) hx hb hT in_X9 hown hK hP 0 cw_0 rfl 2 (by decide) (hT _ t453) (fun _ h9 => h9) rfl dX9_roams_1 ?_
  refine va_get (D := D) (ci := 8) (v := .ref (a 18)) (C := RX8) (T := TX8) (N := 6) hx hb hT in_X8 hown hK hP 17 cw_17 rfl 0 (by decide) (hT _ t312) (fun _ h9 => h9) rfl dX9_roams_4 ?_
  refine lv_iload_n hx hb dX9_roams_7 rfl (lv_at hl 1 rfl) ?_
  refine ro_V (As := [.int p0]) (rest := []) S (s_X1_isCart l D k a st sl  p0 _  hB  ) lkX9_147 ok_X1_isCart ⟨rfl, rfl, Nat.le_of_ble_eq_true rfl, Nat.le_of_ble_eq_true rfl⟩ (pw_V (ci := 1) (q0 := 18) hK hN rfl cw_18 hP (hD.weaken (fun _ _ _ _ => trivial))) rfl hl.1 rfl (Nat.le_of_ble_eq_true rfl) ⟨Nat.zero_le _, Nat.zero_le _⟩ dX9_roams_8 (fun r1 er1 => ?_)
  rcases er1 with ⟨rfl, g9⟩ | ⟨rfl, g9⟩
  · skip
    have g2 := g9
    have h3 : Iv 0 2 p0 := g2.1
    refine lv_if_eq (tgt := 24) hx hb dX9_roams_11 (by decide) (fun c4 => ?_) (fun c4 => ?_)
    · first | exact absurd c4 (by decide) | exact absurd (by decide) c4
    refine lv_iload_n hx hb dX9_roams_14 rfl (lv_at hl 2 rfl) ?_
    refine lv_if_lt (tgt := 24) hx hb dX9_roams_15 (by decide) (fun c5 => ?_) (fun c5 => ?_)
    · skip
      have n6 : p1.toInt < (0 : Int32).toInt := (i_lt c5)
      have h7 : Iv (-2147483648) (-1) p1 := lt_l (iv_full p1) n6 (iv_c (by decide) : Iv 0 0 0) (by decide)
      refine lv_bipush (v := (-2)) hx hb dX9_roams_24 (by decide) ?_
      rw [hQ]
      exact W.iret (v := (-2)) hx hb hr (fun t ht hW => ⟨⟨(-2), st, rfl, ⟨hB, fr_rf, ⟨(iv_mono (c := (-2)) (d := 5) (iv_c (by decide) : Iv (-2) (-2) (-2)) (by decide) (by decide)), trivial⟩⟩, by rw [ht]; exact hP, va_K.moved hW.alike (hK.sub (tys' := []) [] rfl), by rw [hAe]; exact hD⟩, by rw [hAe]; exact hS.F ht⟩) hS.2.2 dX9_roams_26
    · skip
      have n8 : (0 : Int32).toInt ≤ p1.toInt := (i_nlt c5)
      have h9 : Iv 0 2147483647 p1 := le_r (iv_c (by decide) : Iv 0 0 0) n8 (iv_full p1) (by decide)
      refine lv_iload_n hx hb dX9_roams_18 rfl (lv_at hl 2 rfl) ?_
      refine lv_bipush (v := 40) hx hb dX9_roams_19 (by decide) ?_
      refine lv_icmp_le (tgt := 27) hx hb dX9_roams_21 (by decide) (fun c10 => ?_) (fun c10 => ?_)
      · skip
        have n11 : p1.toInt ≤ (40 : Int32).toInt := (i_le c10)
        have h12 : Iv 0 40 p1 := le_l h9 n11 (iv_c (by decide) : Iv 40 40 40) (by decide)
        refine lv_aload_n hx hb dX9_roams_27 rfl (lv_at hl 0 rfl) ?_
        refine va_get (D := D) (ci := 9) (v := .ref (a 119)) (C := RX9) (T := TX9) (N := 11) hx hb hT in_X9 hown hK hP 0 cw_0 rfl 6 (by decide) (hT _ t457) (fun _ h9 => h9) rfl dX9_roams_28 ?_
        refine lv_aload_n hx hb dX9_roams_31 rfl (lv_at hl 0 rfl) ?_
        refine va_get (D := D) (ci := 9) (v := .ref (a 17)) (C := RX9) (T := TX9) (N := 11) hx hb hT in_X9 hown hK hP 0 cw_0 rfl 2 (by decide) (hT _ t453) (fun _ h9 => h9) rfl dX9_roams_32 ?_
        refine va_get (D := D) (ci := 8) (v := .ref (a 31)) (C := RX8) (T := TX8) (N := 6) hx hb hT in_X8 hown hK hP 17 cw_17 rfl 1 (by decide) (hT _ t314) (fun _ h9 => h9) rfl dX9_roams_35 ?_
        refine ca_v hP hD hS hA (fun hDc => run_V (mc := 0) (ms := 0) (As := [.ref (a 31)]) (rest := []) S (s_X5_copy l D k a st sl 119 31  _ (by decide) (by decide) hB  ) lkX9_253 ok_X5_copy ⟨rfl, rfl, Nat.le_of_ble_eq_true rfl, Nat.le_of_ble_eq_true rfl⟩ (pw_V (ci := 5) (q0 := 119) hK hN rfl cw_119 hP hDc) rfl hl.1 rfl (Nat.le_of_ble_eq_true rfl) ⟨Nat.zero_le _, Nat.zero_le _⟩ dX9_roams_38) (fun s13 H9 locs9 hs13 hP9 hD9 hS9 => ?_)
        clear hP hD hS
        have hS := hS9
        have hP := hP9
        have hD := hD9
        clear hP9 hD9 hS9
        obtain ⟨hBs13, gs13, fs13⟩ := hs13
        have hFs13 : FR [120, 121, 122, 123, 124] st s13 := fr_ca fr_rf gs13 (sub_1 (List.mem_of_getElem? (i := 0) rfl) (sub_1 (List.mem_of_getElem? (i := 1) rfl) (sub_1 (List.mem_of_getElem? (i := 2) rfl) (sub_1 (List.mem_of_getElem? (i := 3) rfl) (sub_1 (List.mem_of_getElem? (i := 4) rfl) sub_0)))))
        refine lv_iconst (v := 0) hx hb dX9_roams_41 (by decide) ?_
        refine lv_istore_n (lv' := [(3, .int 0), (0, .ref (a 0)), (1, .int p0), (2, .int p1)]) hx hb dX9_roams_42 rfl hl (by decide) rfl (fun ls hl => ?_)
        have lp43 : ∀ (n9_43 : Nat) (v3_43 : Int32) (t43 : CT) (H9 : Heap) (locs9 : List Loc) (ls : Array Slot), Iv 0 40 v3_43 → CB t43 → FR [120, 121, 123, 124] s13 t43 → va_P D vwCl (CWS k a t43 sl) H9 → va_D A (CWS k a t43 sl) → va_S A s.heap H9 locs9 → lv_has ls 4 [(3, .int v3_43), (0, .ref (a 0)), (1, .int p0), (2, .int p1)] → (40 : Int) - v3_43.toInt < (n9_43 : Int) → W p l e (rmw 5 0 0) s m ([.ref (a 0), .int p0, .int p1] : List Value).toArray below meth c H9 locs9 0 0 Q (F0 m 43 ls []) := by
          clear hl hP hD hS
          intro n9_43
          induction n9_43 with
          | zero =>
            intro v3_43 t43 H9 locs9 ls iv3_43 hBt43 gt43 hP hD hS hl hm43
            exact (fu_0 iv3_43 hm43).elim
          | succ n9_43 ih43 =>
            intro v3_43 t43 H9 locs9 ls iv3_43 hBt43 gt43 hP hD hS hl hm43
            have hFt43 : FR [120, 121, 122, 123, 124] st t43 := fr_ca hFs13 gt43 (sub_1 (List.mem_of_getElem? (i := 0) rfl) (sub_1 (List.mem_of_getElem? (i := 1) rfl) (sub_1 (List.mem_of_getElem? (i := 3) rfl) (sub_1 (List.mem_of_getElem? (i := 4) rfl) sub_0))))
            refine lv_iload_n hx hb dX9_roams_43 rfl (lv_at hl 0 rfl) ?_
            refine lv_iload_n hx hb dX9_roams_44 rfl (lv_at hl 3 rfl) ?_
            refine lv_icmp_ge (tgt := 71) hx hb dX9_roams_45 (by decide) (fun c185 => ?_) (fun c185 => ?_)
            · skip
              have n186 : p1.toInt ≤ v3_43.toInt := (i_le c185)
              refine lv_aload_n hx hb dX9_roams_71 rfl (lv_at hl 1 rfl) ?_
              refine va_get (D := D) (ci := 9) (v := .ref (a 119)) (C := RX9) (T := TX9) (N := 11) hx hb hT in_X9 hown hK hP 0 cw_0 rfl 6 (by decide) (hT _ t457) (fun _ h9 => h9) rfl dX9_roams_72 ?_
              refine va_get (D := D) (ci := 5) (v := .ref (a 123)) (C := RX5) (T := TX5) (N := 5) hx hb hT in_X5 hown hK hP 119 cw_119 rfl 3 (by decide) (hT _ t180) (fun _ h9 => h9) rfl dX9_roams_75 ?_
              refine lv_iload_n hx hb dX9_roams_78 rfl (lv_at hl 2 rfl) ?_
              refine va_iald hx hb hK hP 123 0 cw_123 rfl (iv_in h3 (by decide) (by decide)) dX9_roams_79 ?_
              refine lv_topi (fun z187 ez187 => ?_)
              have h188 : Iv 0 5 z187 := by rw [ez187]; exact (rb_123 hBt43 (vp_in_lt (iv_in h3 (by decide) (by decide))))
              rw [hQ]
              exact W.iret (v := z187) hx hb hr (fun t ht hW => ⟨⟨z187, t43, rfl, ⟨hBt43, hFt43, ⟨(iv_mono (c := (-2)) (d := 5) h188 (by decide) (by decide)), trivial⟩⟩, by rw [ht]; exact hP, va_K.moved hW.alike (hK.sub (tys' := []) [] rfl), by rw [hAe]; exact hD⟩, by rw [hAe]; exact hS.F ht⟩) hS.2.2 dX9_roams_80
            · skip
              have n189 : v3_43.toInt < p1.toInt := (i_nle c185)
              have h190 : Iv 0 39 v3_43 := lt_l iv3_43 n189 h12 (by decide)
              have h191 : Iv 1 40 p1 := lt_r iv3_43 n189 h12 (by decide)
              refine lv_aload_n hx hb dX9_roams_48 rfl (lv_at hl 1 rfl) ?_
              refine va_get (D := D) (ci := 9) (v := .ref (a 119)) (C := RX9) (T := TX9) (N := 11) hx hb hT in_X9 hown hK hP 0 cw_0 rfl 6 (by decide) (hT _ t457) (fun _ h9 => h9) rfl dX9_roams_49 ?_
              refine lv_aload_n hx hb dX9_roams_52 rfl (lv_at hl 1 rfl) ?_
              refine va_get (D := D) (ci := 9) (v := .ref (a 17)) (C := RX9) (T := TX9) (N := 11) hx hb hT in_X9 hown hK hP 0 cw_0 rfl 2 (by decide) (hT _ t453) (fun _ h9 => h9) rfl dX9_roams_53 ?_
              refine va_get (D := D) (ci := 8) (v := .ref (a 18)) (C := RX8) (T := TX8) (N := 6) hx hb hT in_X8 hown hK hP 17 cw_17 rfl 0 (by decide) (hT _ t312) (fun _ h9 => h9) rfl dX9_roams_56 ?_
              refine lv_iload_n hx hb dX9_roams_59 rfl (lv_at hl 2 rfl) ?_
              refine lv_iconst (v := (-1)) hx hb dX9_roams_60 (by decide) ?_
              refine ca_i hP hD hS hA (fun hDc => run_V (mc := 0) (ms := 0) (As := [.ref (a 18), .int p0, .int (-1)]) (rest := []) S (s_X5_go l D k a t43 sl 119 p0 (-1) _ (by decide) hBt43 h3 ) lkX9_317 ok_X5_go ⟨rfl, rfl, Nat.le_of_ble_eq_true rfl, Nat.le_of_ble_eq_true rfl⟩ (pw_V (ci := 5) (q0 := 119) hK hN rfl cw_119 hP hDc) rfl hl.1 rfl (Nat.le_of_ble_eq_true rfl) ⟨Nat.zero_le _, Nat.zero_le _⟩ dX9_roams_61) (fun r193 s192 H9 locs9 hs192 hP9 hD9 hS9 => ?_)
              clear hP hD hS
              have hS := hS9
              have hP := hP9
              have hD := hD9
              clear hP9 hD9 hS9
              obtain ⟨hBs192, gs192, fs192⟩ := hs192
              have hFs192 : FR [120, 121, 122, 123, 124] st s192 := fr_ca hFt43 gs192 (sub_1 (List.mem_of_getElem? (i := 0) rfl) (sub_1 (List.mem_of_getElem? (i := 1) rfl) (sub_1 (List.mem_of_getElem? (i := 3) rfl) (sub_1 (List.mem_of_getElem? (i := 4) rfl) sub_0))))
              have h194 : Iv (-1) 7 r193 := fs192.1
              refine lv_pop hx hb dX9_roams_64 rfl ?_
              obtain ⟨z195, ez195⟩ : ∃ z9 : Int32, z9 = v3_43 + Int32.ofInt 1 := ⟨_, rfl⟩
              have h196 : Iv 1 40 z195 := iv_inc ez195 h190 (by decide) (by decide) (by decide) (by decide) (by decide) (by decide)
              refine lv_iinc (v := z195) (lv' := [(3, .int z195), (0, .ref (a 0)), (1, .int p0), (2, .int p1)]) hx hb dX9_roams_65 hl (k := 0) rfl ez195.symm (by decide) rfl (fun ls hl => ?_)
              refine lv_goto (tgt := 43) hx hb dX9_roams_68 (by decide) ?_
              exact ih43 z195 s192 _ _ _ (iv_mono (c := 0) (d := 40) h196 (by decide) (by decide)) hBs192 (fr_ca gt43 gs192 (sub_1 (List.mem_of_getElem? (i := 0) rfl) (sub_1 (List.mem_of_getElem? (i := 1) rfl) (sub_1 (List.mem_of_getElem? (i := 2) rfl) (sub_1 (List.mem_of_getElem? (i := 3) rfl) sub_0))))) hP hD hS (lv_sub hl [0, 1, 2, 3] rfl) (fu_s (lo := 0) (ti_inc ez195 h190 (by decide) (by decide) (by decide) (by decide)) (by decide) hm43)
        exact lp43 41 0 s13 _ _ _ (iv_mono (c := 0) (d := 40) (iv_c (by decide) : Iv 0 0 0) (by decide) (by decide)) hBs13 fr_rf hP hD hS (lv_sub hl [0, 1, 2, 3] rfl) (fu_i (iv_mono (c := 0) (d := 40) (iv_c (by decide) : Iv 0 0 0) (by decide) (by decide)) (by decide))
      · skip
        have n197 : (40 : Int32).toInt < p1.toInt := (i_nle c10)
        have h198 : Iv 41 2147483647 p1 := lt_r (iv_c (by decide) : Iv 40 40 40) n197 h9 (by decide)
        refine lv_bipush (v := (-2)) hx hb dX9_roams_24 (by decide) ?_
        rw [hQ]
        exact W.iret (v := (-2)) hx hb hr (fun t ht hW => ⟨⟨(-2), st, rfl, ⟨hB, fr_rf, ⟨(iv_mono (c := (-2)) (d := 5) (iv_c (by decide) : Iv (-2) (-2) (-2)) (by decide) (by decide)), trivial⟩⟩, by rw [ht]; exact hP, va_K.moved hW.alike (hK.sub (tys' := []) [] rfl), by rw [hAe]; exact hD⟩, by rw [hAe]; exact hS.F ht⟩) hS.2.2 dX9_roams_26
  · skip
    have g199 := g9
    refine lv_if_eq (tgt := 24) hx hb dX9_roams_11 (by decide) (fun c200 => ?_) (fun c200 => ?_)
    rotate_left
    · first | exact absurd c200 (by decide) | exact absurd (by decide) c200
    refine lv_bipush (v := (-2)) hx hb dX9_roams_24 (by decide) ?_
    rw [hQ]
    exact W.iret (v := (-2)) hx hb hr (fun t ht hW => ⟨⟨(-2), st, rfl, ⟨hB, fr_rf, ⟨(iv_mono (c := (-2)) (d := 5) (iv_c (by decide) : Iv (-2) (-2) (-2)) (by decide) (by decide)), trivial⟩⟩, by rw [ht]; exact hP, va_K.moved hW.alike (hK.sub (tys' := []) [] rfl), by rw [hAe]; exact hD⟩, by rw [hAe]; exact hS.F ht⟩) hS.2.2 dX9_roams_26
set_option maxHeartbeats 4000000 in
set_option maxRecDepth 100000 in
theorem s_X9_circle (l : Launch) (D : va_G) (k : Nat → ClassId) (a : Nat → Nat) (st : CT) (sl : CL) (p0 : Int32) (sz : Nat) (hB : CB st)  : Met l yX9_circle (.code yX9_circle cX9_circle 5 (some .int) :: TB) (rmw 5 0 0) (va_Pc [.ref (a 0), .int p0] (PW D k sz (CWS k a st sl))) (QI D (S := CT) (fun r u => CB u ∧ FR [120, 121, 122, 123, 124] st u ∧ (Iv (-2) 40 r ∧ (True))) (fun u => CWS k a u sl) (fun _ => []) (CWS k a st sl) sz) 0 0 (va_A (CWS k a st sl) sz) := by
  refine Met.ofW (cc := cX9_circle) (maxL := 5) (ret := (some .int)) (by decide) rfl ?_
  intro p e s m args below meth c s₁ B hml hv
  obtain ⟨rfl, hsz, hP, hK, hD0, hN⟩ := hv
  have hx := B.exec
  have hb := B.bytes
  have hr := B.returns
  have hT : ∀ w9 ∈ TB, w9.before ([.ref (a 0), .int p0] : List Value).toArray s = true := fun w9 h => atoms_spec (ws := .code yX9_circle cX9_circle 5 (some .int) :: TB) B.pre w9 (List.mem_cons_of_mem _ h)
  have hown : s.vm.findClass RX9 = some m.cls := findClass_of_methodNamed B.named
  have S : CallFix p m c cX9_circle 5 s _ TB RX9 := ⟨hx, hb, hml, hown, hT⟩
  subst hsz
  have hD := hD0.self (sz := s.heap.size)
  generalize hAe : va_A (CWS k a st sl) s.heap.size = A at hD ⊢
  have hA : ∀ q : Nat, s.heap.size ≤ q → A q := fun q h => by rw [← hAe]; exact Or.inr h
  have hS : va_S A s.heap s.heap [] := va_S.rf
  have hl := lv_entry ([.ref (a 0), .int p0]) (n := 5) (Nat.le_of_ble_eq_true rfl)
  rw [lg_entry_eq]
  generalize (lg_sl ([.ref (a 0), .int p0]) ++ List.replicate (5 - (lg_sl ([.ref (a 0), .int p0])).length) Slot.unset).toArray = ls at hl ⊢
  have hl : lv_has ls 5 [(0, .ref (a 0)), (1, .int p0)] := hl
  refine nameQ (fun Q hQ => ?_)
  refine lv_aload_n hx hb dX9_circle_0 rfl (lv_at hl 0 rfl) ?_
  refine va_get (D := D) (ci := 9) (v := .ref (a 17)) (C := RX9) (T := TX9) (N := 11) hx hb hT in_X9 hown hK hP 0 cw_0 rfl 2 (by decide) (hT _ t453) (fun _ h9 => h9) rfl dX9_circle_1 ?_
  refine va_get (D := D) (ci := 8) (v := .ref (a 18)) (C := RX8) (T := TX8) (N := 6) hx hb hT in_X8 hown hK hP 17 cw_17 rfl 0 (by decide) (hT _ t312) (fun _ h9 => h9) rfl dX9_circle_4 ?_
  refine lv_iload_n hx hb dX9_circle_7 rfl (lv_at hl 1 rfl) ?_
  refine ro_V (As := [.int p0]) (rest := []) S (s_X1_isCart l D k a st sl  p0 _  hB  ) lkX9_147 ok_X1_isCart ⟨rfl, rfl, Nat.le_of_ble_eq_true rfl, Nat.le_of_ble_eq_true rfl⟩ (pw_V (ci := 1) (q0 := 18) hK hN rfl cw_18 hP (hD.weaken (fun _ _ _ _ => trivial))) rfl hl.1 rfl (Nat.le_of_ble_eq_true rfl) ⟨Nat.zero_le _, Nat.zero_le _⟩ dX9_circle_8 (fun r1 er1 => ?_)
  rcases er1 with ⟨rfl, g9⟩ | ⟨rfl, g9⟩
  · skip
    have g2 := g9
    have h3 : Iv 0 2 p0 := g2.1
    refine lv_if_ne (tgt := 17) hx hb dX9_circle_11 (by decide) (fun c4 => ?_) (fun c4 => ?_)
    rotate_left
    · first | exact absurd c4 (by decide) | exact absurd (by decide) c4
    refine lv_aload_n hx hb dX9_circle_17 rfl (lv_at hl 0 rfl) ?_
    refine va_get (D := D) (ci := 9) (v := .ref (a 119)) (C := RX9) (T := TX9) (N := 11) hx hb hT in_X9 hown hK hP 0 cw_0 rfl 6 (by decide) (hT _ t457) (fun _ h9 => h9) rfl dX9_circle_18 ?_
    refine lv_aload_n hx hb dX9_circle_21 rfl (lv_at hl 0 rfl) ?_
    refine va_get (D := D) (ci := 9) (v := .ref (a 17)) (C := RX9) (T := TX9) (N := 11) hx hb hT in_X9 hown hK hP 0 cw_0 rfl 2 (by decide) (hT _ t453) (fun _ h9 => h9) rfl dX9_circle_22 ?_
    refine va_get (D := D) (ci := 8) (v := .ref (a 31)) (C := RX8) (T := TX8) (N := 6) hx hb hT in_X8 hown hK hP 17 cw_17 rfl 1 (by decide) (hT _ t314) (fun _ h9 => h9) rfl dX9_circle_25 ?_
    refine ca_v hP hD hS hA (fun hDc => run_V (mc := 0) (ms := 0) (As := [.ref (a 31)]) (rest := []) S (s_X5_copy l D k a st sl 119 31  _ (by decide) (by decide) hB  ) lkX9_253 ok_X5_copy ⟨rfl, rfl, Nat.le_of_ble_eq_true rfl, Nat.le_of_ble_eq_true rfl⟩ (pw_V (ci := 5) (q0 := 119) hK hN rfl cw_119 hP hDc) rfl hl.1 rfl (Nat.le_of_ble_eq_true rfl) ⟨Nat.zero_le _, Nat.zero_le _⟩ dX9_circle_28) (fun s5 H9 locs9 hs5 hP9 hD9 hS9 => ?_)
    clear hP hD hS
    have hS := hS9
    have hP := hP9
    have hD := hD9
    clear hP9 hD9 hS9
    obtain ⟨hBs5, gs5, fs5⟩ := hs5
    have hFs5 : FR [120, 121, 122, 123, 124] st s5 := fr_ca fr_rf gs5 (sub_1 (List.mem_of_getElem? (i := 0) rfl) (sub_1 (List.mem_of_getElem? (i := 1) rfl) (sub_1 (List.mem_of_getElem? (i := 2) rfl) (sub_1 (List.mem_of_getElem? (i := 3) rfl) (sub_1 (List.mem_of_getElem? (i := 4) rfl) sub_0)))))
    refine lv_iconst (v := 1) hx hb dX9_circle_31 (by decide) ?_
    refine lv_aload_n hx hb dX9_circle_32 rfl (lv_at hl 0 rfl) ?_
    refine va_get (D := D) (ci := 9) (v := .ref (a 119)) (C := RX9) (T := TX9) (N := 11) hx hb hT in_X9 hown hK hP 0 cw_0 rfl 6 (by decide) (hT _ t457) (fun _ h9 => h9) rfl dX9_circle_33 ?_
    refine va_get (D := D) (ci := 5) (v := .ref (a 123)) (C := RX5) (T := TX5) (N := 5) hx hb hT in_X5 hown hK hP 119 cw_119 rfl 3 (by decide) (hT _ t180) (fun _ h9 => h9) rfl dX9_circle_36 ?_
    refine lv_iload_n hx hb dX9_circle_39 rfl (lv_at hl 1 rfl) ?_
    refine va_iald hx hb hK hP 123 0 cw_123 rfl (iv_in h3 (by decide) (by decide)) dX9_circle_40 ?_
    refine lv_topi (fun z7 ez7 => ?_)
    have h8 : Iv 0 5 z7 := by rw [ez7]; exact (rb_123 hBs5 (vp_in_lt (iv_in h3 (by decide) (by decide))))
    refine lv_ishl hx hb dX9_circle_41 ?_
    refine lv_topi (fun z9 ez9 => ?_)
    have h10 : Iv 1 32 z9 := iv_shl 5 ez9 h8 (by decide) (by decide) (by decide)
    refine lv_istore_n (lv' := [(2, .int z9), (0, .ref (a 0)), (1, .int p0)]) hx hb dX9_circle_42 rfl hl (by decide) rfl (fun ls hl => ?_)
    refine lv_iconst (v := 1) hx hb dX9_circle_43 (by decide) ?_
    refine lv_istore_n (lv' := [(3, .int 1), (2, .int z9), (0, .ref (a 0)), (1, .int p0)]) hx hb dX9_circle_44 rfl hl (by decide) rfl (fun ls hl => ?_)
    have lp45 : ∀ (n9_45 : Nat) (v3_45 : Int32) (v2_45 : Int32) (t45 : CT) (H9 : Heap) (locs9 : List Loc) (ls : Array Slot), Iv 1 41 v3_45 → Iv 0 63 v2_45 → CB t45 → FR [120, 121, 123, 124] s5 t45 → va_P D vwCl (CWS k a t45 sl) H9 → va_D A (CWS k a t45 sl) → va_S A s.heap H9 locs9 → lv_has ls 5 [(3, .int v3_45), (2, .int v2_45), (0, .ref (a 0)), (1, .int p0)] → (41 : Int) - v3_45.toInt < (n9_45 : Int) → W p l e (rmw 5 0 0) s m ([.ref (a 0), .int p0] : List Value).toArray below meth c H9 locs9 0 0 Q (F0 m 45 ls []) := by
      clear hl hP hD hS
      intro n9_45
      induction n9_45 with
      | zero =>
        intro v3_45 v2_45 t45 H9 locs9 ls iv3_45 iv2_45 hBt45 gt45 hP hD hS hl hm45
        exact (fu_0 iv3_45 hm45).elim
      | succ n9_45 ih45 =>
        intro v3_45 v2_45 t45 H9 locs9 ls iv3_45 iv2_45 hBt45 gt45 hP hD hS hl hm45
        have hFt45 : FR [120, 121, 122, 123, 124] st t45 := fr_ca hFs5 gt45 (sub_1 (List.mem_of_getElem? (i := 0) rfl) (sub_1 (List.mem_of_getElem? (i := 1) rfl) (sub_1 (List.mem_of_getElem? (i := 3) rfl) (sub_1 (List.mem_of_getElem? (i := 4) rfl) sub_0))))
        refine lv_iload_n hx hb dX9_circle_45 rfl (lv_at hl 0 rfl) ?_
        refine lv_bipush (v := 40) hx hb dX9_circle_46 (by decide) ?_
        refine lv_icmp_gt (tgt := 106) hx hb dX9_circle_48 (by decide) (fun c387 => ?_) (fun c387 => ?_)
        · skip
          have n388 : (40 : Int32).toInt < v3_45.toInt := (i_lt c387)
          have h389 : Iv 41 41 v3_45 := lt_r (iv_c (by decide) : Iv 40 40 40) n388 iv3_45 (by decide)
          refine lv_iconst (v := (-1)) hx hb dX9_circle_106 (by decide) ?_
          rw [hQ]
          exact W.iret (v := (-1)) hx hb hr (fun t ht hW => ⟨⟨(-1), t45, rfl, ⟨hBt45, hFt45, ⟨(iv_mono (c := (-2)) (d := 40) (iv_c (by decide) : Iv (-1) (-1) (-1)) (by decide) (by decide)), trivial⟩⟩, by rw [ht]; exact hP, va_K.moved hW.alike (hK.sub (tys' := []) [] rfl), by rw [hAe]; exact hD⟩, by rw [hAe]; exact hS.F ht⟩) hS.2.2 dX9_circle_107
        · skip
          have n390 : v3_45.toInt ≤ (40 : Int32).toInt := (i_nlt c387)
          have h391 : Iv 1 40 v3_45 := le_l iv3_45 n390 (iv_c (by decide) : Iv 40 40 40) (by decide)
          refine lv_aload_n hx hb dX9_circle_51 rfl (lv_at hl 2 rfl) ?_
          refine va_get (D := D) (ci := 9) (v := .ref (a 119)) (C := RX9) (T := TX9) (N := 11) hx hb hT in_X9 hown hK hP 0 cw_0 rfl 6 (by decide) (hT _ t457) (fun _ h9 => h9) rfl dX9_circle_52 ?_
          refine lv_aload_n hx hb dX9_circle_55 rfl (lv_at hl 2 rfl) ?_
          refine va_get (D := D) (ci := 9) (v := .ref (a 17)) (C := RX9) (T := TX9) (N := 11) hx hb hT in_X9 hown hK hP 0 cw_0 rfl 2 (by decide) (hT _ t453) (fun _ h9 => h9) rfl dX9_circle_56 ?_
          refine va_get (D := D) (ci := 8) (v := .ref (a 18)) (C := RX8) (T := TX8) (N := 6) hx hb hT in_X8 hown hK hP 17 cw_17 rfl 0 (by decide) (hT _ t312) (fun _ h9 => h9) rfl dX9_circle_59 ?_
          refine lv_iload_n hx hb dX9_circle_62 rfl (lv_at hl 3 rfl) ?_
          refine lv_iconst (v := (-1)) hx hb dX9_circle_63 (by decide) ?_
          refine ca_i hP hD hS hA (fun hDc => run_V (mc := 0) (ms := 0) (As := [.ref (a 18), .int p0, .int (-1)]) (rest := []) S (s_X5_go l D k a t45 sl 119 p0 (-1) _ (by decide) hBt45 h3 ) lkX9_317 ok_X5_go ⟨rfl, rfl, Nat.le_of_ble_eq_true rfl, Nat.le_of_ble_eq_true rfl⟩ (pw_V (ci := 5) (q0 := 119) hK hN rfl cw_119 hP hDc) rfl hl.1 rfl (Nat.le_of_ble_eq_true rfl) ⟨Nat.zero_le _, Nat.zero_le _⟩ dX9_circle_64) (fun r393 s392 H9 locs9 hs392 hP9 hD9 hS9 => ?_)
          clear hP hD hS
          have hS := hS9
          have hP := hP9
          have hD := hD9
          clear hP9 hD9 hS9
          obtain ⟨hBs392, gs392, fs392⟩ := hs392
          have hFs392 : FR [120, 121, 122, 123, 124] st s392 := fr_ca hFt45 gs392 (sub_1 (List.mem_of_getElem? (i := 0) rfl) (sub_1 (List.mem_of_getElem? (i := 1) rfl) (sub_1 (List.mem_of_getElem? (i := 3) rfl) (sub_1 (List.mem_of_getElem? (i := 4) rfl) sub_0))))
          have h394 : Iv (-1) 7 r393 := fs392.1
          refine lv_iconst (v := (-1)) hx hb dX9_circle_67 (by decide) ?_
          refine lv_icmp_ne (tgt := 73) hx hb dX9_circle_68 (by decide) (fun c395 => ?_) (fun c395 => ?_)
          · skip
            have h396 : Iv 0 7 r393 := ne_lo h394 (show ¬ r393 = (-1) from c395) (by decide) (by decide)
            refine lv_iconst (v := 1) hx hb dX9_circle_73 (by decide) ?_
            refine lv_aload_n hx hb dX9_circle_74 rfl (lv_at hl 2 rfl) ?_
            refine va_get (D := D) (ci := 9) (v := .ref (a 119)) (C := RX9) (T := TX9) (N := 11) hx hb hT in_X9 hown hK hP 0 cw_0 rfl 6 (by decide) (hT _ t457) (fun _ h9 => h9) rfl dX9_circle_75 ?_
            refine va_get (D := D) (ci := 5) (v := .ref (a 123)) (C := RX5) (T := TX5) (N := 5) hx hb hT in_X5 hown hK hP 119 cw_119 rfl 3 (by decide) (hT _ t180) (fun _ h9 => h9) rfl dX9_circle_78 ?_
            refine lv_iload_n hx hb dX9_circle_81 rfl (lv_at hl 3 rfl) ?_
            refine va_iald hx hb hK hP 123 0 cw_123 rfl (iv_in h3 (by decide) (by decide)) dX9_circle_82 ?_
            refine lv_topi (fun z397 ez397 => ?_)
            have h398 : Iv 0 5 z397 := by rw [ez397]; exact (rb_123 hBs392 (vp_in_lt (iv_in h3 (by decide) (by decide))))
            refine lv_ishl hx hb dX9_circle_83 ?_
            refine lv_topi (fun z399 ez399 => ?_)
            have h400 : Iv 1 32 z399 := iv_shl 5 ez399 h398 (by decide) (by decide) (by decide)
            refine lv_istore (lv' := [(4, .int z399), (3, .int v3_45), (2, .int v2_45), (0, .ref (a 0)), (1, .int p0)]) hx hb dX9_circle_84 hl (by decide) rfl (fun ls hl => ?_)
            refine lv_iload_n hx hb dX9_circle_86 rfl (lv_at hl 2 rfl) ?_
            refine lv_iload hx hb dX9_circle_87 (lv_at hl 0 rfl) ?_
            refine lv_iand hx hb dX9_circle_89 ?_
            refine lv_topi (fun z401 ez401 => ?_)
            have h402 : Iv 0 32 z401 := iv_andr ez401 (iv_mono (c := 0) (d := 32) h400 (by decide) (by decide))
            refine lv_if_eq (tgt := 95) hx hb dX9_circle_90 (by decide) (fun c403 => ?_) (fun c403 => ?_)
            · skip
              have h404 : Iv 0 0 z401 := eq_l c403 (iv_c (by decide) : Iv 0 0 0)
              refine lv_iload_n hx hb dX9_circle_95 rfl (lv_at hl 2 rfl) ?_
              refine lv_iload hx hb dX9_circle_96 (lv_at hl 0 rfl) ?_
              refine lv_ior hx hb dX9_circle_98 ?_
              refine lv_topi (fun z405 ez405 => ?_)
              have h406 : Iv 0 63 z405 := iv_or 6 ez405 iv2_45 (iv_mono (c := 0) (d := 32) h400 (by decide) (by decide)) (by decide) (by decide) (by decide) (by decide)
              refine lv_istore_n (lv' := [(2, .int z405), (4, .int z399), (3, .int v3_45), (0, .ref (a 0)), (1, .int p0)]) hx hb dX9_circle_99 rfl hl (by decide) rfl (fun ls hl => ?_)
              obtain ⟨z407, ez407⟩ : ∃ z9 : Int32, z9 = v3_45 + Int32.ofInt 1 := ⟨_, rfl⟩
              have h408 : Iv 2 41 z407 := iv_inc ez407 h391 (by decide) (by decide) (by decide) (by decide) (by decide) (by decide)
              refine lv_iinc (v := z407) (lv' := [(3, .int z407), (2, .int z405), (4, .int z399), (0, .ref (a 0)), (1, .int p0)]) hx hb dX9_circle_100 hl (k := 2) rfl ez407.symm (by decide) rfl (fun ls hl => ?_)
              refine lv_goto (tgt := 45) hx hb dX9_circle_103 (by decide) ?_
              exact ih45 z407 z405 s392 _ _ _ (iv_mono (c := 1) (d := 41) h408 (by decide) (by decide)) h406 hBs392 (fr_ca gt45 gs392 (sub_1 (List.mem_of_getElem? (i := 0) rfl) (sub_1 (List.mem_of_getElem? (i := 1) rfl) (sub_1 (List.mem_of_getElem? (i := 2) rfl) (sub_1 (List.mem_of_getElem? (i := 3) rfl) sub_0))))) hP hD hS (lv_sub hl [0, 1, 3, 4] rfl) (fu_s (lo := 0) (ti_inc ez407 h391 (by decide) (by decide) (by decide) (by decide)) (by decide) hm45)
            · skip
              have h409 : Iv 1 32 z401 := ne_lo h402 c403 (by decide) (by decide)
              refine lv_iload_n hx hb dX9_circle_93 rfl (lv_at hl 1 rfl) ?_
              rw [hQ]
              exact W.iret (v := v3_45) hx hb hr (fun t ht hW => ⟨⟨v3_45, s392, rfl, ⟨hBs392, hFs392, ⟨(iv_mono (c := (-2)) (d := 40) h391 (by decide) (by decide)), trivial⟩⟩, by rw [ht]; exact hP, va_K.moved hW.alike (hK.sub (tys' := []) [] rfl), by rw [hAe]; exact hD⟩, by rw [hAe]; exact hS.F ht⟩) hS.2.2 dX9_circle_94
          · skip
            have h410 : Iv (-1) (-1) r393 := eq_l c395 (iv_c (by decide) : Iv (-1) (-1) (-1))
            refine lv_iconst (v := (-1)) hx hb dX9_circle_71 (by decide) ?_
            rw [hQ]
            exact W.iret (v := (-1)) hx hb hr (fun t ht hW => ⟨⟨(-1), s392, rfl, ⟨hBs392, hFs392, ⟨(iv_mono (c := (-2)) (d := 40) (iv_c (by decide) : Iv (-1) (-1) (-1)) (by decide) (by decide)), trivial⟩⟩, by rw [ht]; exact hP, va_K.moved hW.alike (hK.sub (tys' := []) [] rfl), by rw [hAe]; exact hD⟩, by rw [hAe]; exact hS.F ht⟩) hS.2.2 dX9_circle_72
    exact lp45 41 1 z9 s5 _ _ _ (iv_mono (c := 1) (d := 41) (iv_c (by decide) : Iv 1 1 1) (by decide) (by decide)) (iv_mono (c := 0) (d := 63) h10 (by decide) (by decide)) hBs5 fr_rf hP hD hS (lv_sub hl [0, 1, 2, 3] rfl) (fu_i (iv_mono (c := 1) (d := 41) (iv_c (by decide) : Iv 1 1 1) (by decide) (by decide)) (by decide))
  · skip
    have g411 := g9
    refine lv_if_ne (tgt := 17) hx hb dX9_circle_11 (by decide) (fun c412 => ?_) (fun c412 => ?_)
    · first | exact absurd c412 (by decide) | exact absurd (by decide) c412
    refine lv_bipush (v := (-2)) hx hb dX9_circle_14 (by decide) ?_
    rw [hQ]
    exact W.iret (v := (-2)) hx hb hr (fun t ht hW => ⟨⟨(-2), st, rfl, ⟨hB, fr_rf, ⟨(iv_mono (c := (-2)) (d := 40) (iv_c (by decide) : Iv (-2) (-2) (-2)) (by decide) (by decide)), trivial⟩⟩, by rw [ht]; exact hP, va_K.moved hW.alike (hK.sub (tys' := []) [] rfl), by rw [hAe]; exact hD⟩, by rw [hAe]; exact hS.F ht⟩) hS.2.2 dX9_circle_16
set_option maxHeartbeats 4000000 in
set_option maxRecDepth 100000 in
theorem s_X9_haunts (l : Launch) (D : va_G) (k : Nat → ClassId) (a : Nat → Nat) (st : CT) (sl : CL) (p0 : Int32) (sz : Nat) (hB : CB st)  : Met l yX9_haunts (.code yX9_haunts cX9_haunts 4 (some .int) :: TB) (rmw 5 0 0) (va_Pc [.ref (a 0), .int p0] (PW D k sz (CWS k a st sl))) (QI D (S := CT) (fun r u => CB u ∧ FR [166, 120, 121, 122, 123, 124] st u ∧ (Iv (-2) 5 r ∧ (True))) (fun u => CWS k a u sl) (fun _ => []) (CWS k a st sl) sz) 0 0 (va_A (CWS k a st sl) sz) := by
  refine Met.ofW (cc := cX9_haunts) (maxL := 4) (ret := (some .int)) (by decide) rfl ?_
  intro p e s m args below meth c s₁ B hml hv
  obtain ⟨rfl, hsz, hP, hK, hD0, hN⟩ := hv
  have hx := B.exec
  have hb := B.bytes
  have hr := B.returns
  have hT : ∀ w9 ∈ TB, w9.before ([.ref (a 0), .int p0] : List Value).toArray s = true := fun w9 h => atoms_spec (ws := .code yX9_haunts cX9_haunts 4 (some .int) :: TB) B.pre w9 (List.mem_cons_of_mem _ h)
  have hown : s.vm.findClass RX9 = some m.cls := findClass_of_methodNamed B.named
  have S : CallFix p m c cX9_haunts 4 s _ TB RX9 := ⟨hx, hb, hml, hown, hT⟩
  subst hsz
  have hD := hD0.self (sz := s.heap.size)
  generalize hAe : va_A (CWS k a st sl) s.heap.size = A at hD ⊢
  have hA : ∀ q : Nat, s.heap.size ≤ q → A q := fun q h => by rw [← hAe]; exact Or.inr h
  have hS : va_S A s.heap s.heap [] := va_S.rf
  have hl := lv_entry ([.ref (a 0), .int p0]) (n := 4) (Nat.le_of_ble_eq_true rfl)
  rw [lg_entry_eq]
  generalize (lg_sl ([.ref (a 0), .int p0]) ++ List.replicate (4 - (lg_sl ([.ref (a 0), .int p0])).length) Slot.unset).toArray = ls at hl ⊢
  have hl : lv_has ls 4 [(0, .ref (a 0)), (1, .int p0)] := hl
  refine nameQ (fun Q hQ => ?_)
  refine lv_aload_n hx hb dX9_haunts_0 rfl (lv_at hl 0 rfl) ?_
  refine va_get (D := D) (ci := 9) (v := .ref (a 17)) (C := RX9) (T := TX9) (N := 11) hx hb hT in_X9 hown hK hP 0 cw_0 rfl 2 (by decide) (hT _ t453) (fun _ h9 => h9) rfl dX9_haunts_1 ?_
  refine va_get (D := D) (ci := 8) (v := .ref (a 18)) (C := RX8) (T := TX8) (N := 6) hx hb hT in_X8 hown hK hP 17 cw_17 rfl 0 (by decide) (hT _ t312) (fun _ h9 => h9) rfl dX9_haunts_4 ?_
  refine lv_iload_n hx hb dX9_haunts_7 rfl (lv_at hl 1 rfl) ?_
  refine ro_V (As := [.int p0]) (rest := []) S (s_X1_isCart l D k a st sl  p0 _  hB  ) lkX9_147 ok_X1_isCart ⟨rfl, rfl, Nat.le_of_ble_eq_true rfl, Nat.le_of_ble_eq_true rfl⟩ (pw_V (ci := 1) (q0 := 18) hK hN rfl cw_18 hP (hD.weaken (fun _ _ _ _ => trivial))) rfl hl.1 rfl (Nat.le_of_ble_eq_true rfl) ⟨Nat.zero_le _, Nat.zero_le _⟩ dX9_haunts_8 (fun r1 er1 => ?_)
  rcases er1 with ⟨rfl, g9⟩ | ⟨rfl, g9⟩
  · skip
    have g2 := g9
    have h3 : Iv 0 2 p0 := g2.1
    refine lv_if_ne (tgt := 17) hx hb dX9_haunts_11 (by decide) (fun c4 => ?_) (fun c4 => ?_)
    rotate_left
    · first | exact absurd c4 (by decide) | exact absurd (by decide) c4
    refine lv_aload_n hx hb dX9_haunts_17 rfl (lv_at hl 0 rfl) ?_
    refine va_get (D := D) (ci := 9) (v := .ref (a 166)) (C := RX9) (T := TX9) (N := 11) hx hb hT in_X9 hown hK hP 0 cw_0 rfl 10 (by decide) (hT _ t461) (fun _ h9 => h9) rfl dX9_haunts_18 ?_
    refine lv_iconst (v := 0) hx hb dX9_haunts_21 (by decide) ?_
    refine c_fil hP hD hS hA cw_166 cs_166 (fun hPc hDc => run_S (mc := 0) (ms := 0) (C := RJ7) (As := [.ref (a 166), .int 0]) (rest := []) S (c_fillI l D k (a 166) 8 _ 0 (by decide) _) (gdC t166) t1024 t165 t109 ok_J7_fill_53178 ⟨rfl, rfl, Nat.le_of_ble_eq_true rfl, Nat.le_of_ble_eq_true rfl⟩ (pw_S hK hN hPc hDc) rfl hl.1 rfl (Nat.le_of_ble_eq_true rfl) ⟨Nat.zero_le _, Nat.zero_le _⟩ dX9_haunts_22) (fun s5 H9 locs9 fs5 es5 gs5 hP9 hD9 hS9 => ?_)
    clear hP hD hS
    have hS := hS9
    have hP := hP9
    have hD := hD9
    clear hP9 hD9 hS9
    have hBs5 : CB s5 := by rw [es5]; exact cb_sw hB trivial
    have hFs5 : FR [166, 120, 121, 122, 123, 124] st s5 := fr_sw fr_rf (List.mem_of_getElem? (i := 0) rfl) es5
    refine lv_aload_n hx hb dX9_haunts_25 rfl (lv_at hl 0 rfl) ?_
    refine va_get (D := D) (ci := 9) (v := .ref (a 119)) (C := RX9) (T := TX9) (N := 11) hx hb hT in_X9 hown hK hP 0 cw_0 rfl 6 (by decide) (hT _ t457) (fun _ h9 => h9) rfl dX9_haunts_26 ?_
    refine lv_aload_n hx hb dX9_haunts_29 rfl (lv_at hl 0 rfl) ?_
    refine va_get (D := D) (ci := 9) (v := .ref (a 17)) (C := RX9) (T := TX9) (N := 11) hx hb hT in_X9 hown hK hP 0 cw_0 rfl 2 (by decide) (hT _ t453) (fun _ h9 => h9) rfl dX9_haunts_30 ?_
    refine va_get (D := D) (ci := 8) (v := .ref (a 31)) (C := RX8) (T := TX8) (N := 6) hx hb hT in_X8 hown hK hP 17 cw_17 rfl 1 (by decide) (hT _ t314) (fun _ h9 => h9) rfl dX9_haunts_33 ?_
    refine ca_v hP hD hS hA (fun hDc => run_V (mc := 0) (ms := 0) (As := [.ref (a 31)]) (rest := []) S (s_X5_copy l D k a s5 sl 119 31  _ (by decide) (by decide) hBs5  ) lkX9_253 ok_X5_copy ⟨rfl, rfl, Nat.le_of_ble_eq_true rfl, Nat.le_of_ble_eq_true rfl⟩ (pw_V (ci := 5) (q0 := 119) hK hN rfl cw_119 hP hDc) rfl hl.1 rfl (Nat.le_of_ble_eq_true rfl) ⟨Nat.zero_le _, Nat.zero_le _⟩ dX9_haunts_36) (fun s6 H9 locs9 hs6 hP9 hD9 hS9 => ?_)
    clear hP hD hS
    have hS := hS9
    have hP := hP9
    have hD := hD9
    clear hP9 hD9 hS9
    obtain ⟨hBs6, gs6, fs6⟩ := hs6
    have hFs6 : FR [166, 120, 121, 122, 123, 124] st s6 := fr_ca hFs5 gs6 (sub_1 (List.mem_of_getElem? (i := 1) rfl) (sub_1 (List.mem_of_getElem? (i := 2) rfl) (sub_1 (List.mem_of_getElem? (i := 3) rfl) (sub_1 (List.mem_of_getElem? (i := 4) rfl) (sub_1 (List.mem_of_getElem? (i := 5) rfl) sub_0)))))
    refine lv_aload_n hx hb dX9_haunts_39 rfl (lv_at hl 0 rfl) ?_
    refine va_get (D := D) (ci := 9) (v := .ref (a 166)) (C := RX9) (T := TX9) (N := 11) hx hb hT in_X9 hown hK hP 0 cw_0 rfl 10 (by decide) (hT _ t461) (fun _ h9 => h9) rfl dX9_haunts_40 ?_
    refine lv_aload_n hx hb dX9_haunts_43 rfl (lv_at hl 0 rfl) ?_
    refine va_get (D := D) (ci := 9) (v := .ref (a 119)) (C := RX9) (T := TX9) (N := 11) hx hb hT in_X9 hown hK hP 0 cw_0 rfl 6 (by decide) (hT _ t457) (fun _ h9 => h9) rfl dX9_haunts_44 ?_
    refine va_get (D := D) (ci := 5) (v := .ref (a 123)) (C := RX5) (T := TX5) (N := 5) hx hb hT in_X5 hown hK hP 119 cw_119 rfl 3 (by decide) (hT _ t180) (fun _ h9 => h9) rfl dX9_haunts_47 ?_
    refine lv_iload_n hx hb dX9_haunts_50 rfl (lv_at hl 1 rfl) ?_
    refine va_iald hx hb hK hP 123 0 cw_123 rfl (iv_in h3 (by decide) (by decide)) dX9_haunts_51 ?_
    refine lv_topi (fun z8 ez8 => ?_)
    have h9 : Iv 0 5 z8 := by rw [ez8]; exact (rb_123 hBs6 (vp_in_lt (iv_in h3 (by decide) (by decide))))
    refine lv_dup2_11 hx hb dX9_haunts_52 rfl rfl ?_
    refine va_iald hx hb hK hP 166 0 cw_166 rfl (iv_in h9 (by decide) (by decide)) dX9_haunts_53 ?_
    refine lv_topi (fun z10 ez10 => ?_)
    refine lv_iconst (v := 1) hx hb dX9_haunts_54 (by decide) ?_
    refine lv_iadd hx hb dX9_haunts_55 ?_
    refine lv_topi (fun z11 ez11 => ?_)
    refine c_ist hx hb hK hP hD hS cw_166 cs_166 (iv_in h9 (by decide) (by decide)) dX9_haunts_56 (fun s12 H9 locs9 es12 hP9 hD9 hS9 => ?_)
    clear hP hD hS
    have hS := hS9
    have hP := hP9
    have hD := hD9
    clear hP9 hD9 hS9
    have hBs12 : CB s12 := by rw [es12]; exact cb_sw hBs6 trivial
    have hFs12 : FR [166, 120, 121, 122, 123, 124] st s12 := fr_sw hFs6 (List.mem_of_getElem? (i := 0) rfl) es12
    refine lv_iconst (v := 0) hx hb dX9_haunts_57 (by decide) ?_
    refine lv_istore_n (lv' := [(2, .int 0), (0, .ref (a 0)), (1, .int p0)]) hx hb dX9_haunts_58 rfl hl (by decide) rfl (fun ls hl => ?_)
    have lp59 : ∀ (n9_59 : Nat) (v2_59 : Int32) (t59 : CT) (H9 : Heap) (locs9 : List Loc) (ls : Array Slot), Iv 0 40 v2_59 → CB t59 → FR [120, 121, 123, 124, 166] s12 t59 → va_P D vwCl (CWS k a t59 sl) H9 → va_D A (CWS k a t59 sl) → va_S A s.heap H9 locs9 → lv_has ls 4 [(2, .int v2_59), (0, .ref (a 0)), (1, .int p0)] → (40 : Int) - v2_59.toInt < (n9_59 : Int) → W p l e (rmw 5 0 0) s m ([.ref (a 0), .int p0] : List Value).toArray below meth c H9 locs9 0 0 Q (F0 m 59 ls []) := by
      clear hl hP hD hS
      intro n9_59
      induction n9_59 with
      | zero =>
        intro v2_59 t59 H9 locs9 ls iv2_59 hBt59 gt59 hP hD hS hl hm59
        exact (fu_0 iv2_59 hm59).elim
      | succ n9_59 ih59 =>
        intro v2_59 t59 H9 locs9 ls iv2_59 hBt59 gt59 hP hD hS hl hm59
        have hFt59 : FR [166, 120, 121, 122, 123, 124] st t59 := fr_ca hFs12 gt59 (sub_1 (List.mem_of_getElem? (i := 1) rfl) (sub_1 (List.mem_of_getElem? (i := 2) rfl) (sub_1 (List.mem_of_getElem? (i := 4) rfl) (sub_1 (List.mem_of_getElem? (i := 5) rfl) (sub_1 (List.mem_of_getElem? (i := 0) rfl) sub_0)))))
        refine lv_iload_n hx hb dX9_haunts_59 rfl (lv_at hl 0 rfl) ?_
        refine lv_bipush (v := 40) hx hb dX9_haunts_60 (by decide) ?_
        refine lv_icmp_ge (tgt := 106) hx hb dX9_haunts_62 (by decide) (fun c236 => ?_) (fun c236 => ?_)
        · skip
          have n237 : (40 : Int32).toInt ≤ v2_59.toInt := (i_le c236)
          have h238 : Iv 40 40 v2_59 := le_r (iv_c (by decide) : Iv 40 40 40) n237 iv2_59 (by decide)
          refine lv_iconst (v := 0) hx hb dX9_haunts_106 (by decide) ?_
          refine lv_istore_n (lv' := [(2, .int 0), (0, .ref (a 0)), (1, .int p0)]) hx hb dX9_haunts_107 rfl hl (by decide) rfl (fun ls hl => ?_)
          refine lv_iconst (v := 1) hx hb dX9_haunts_108 (by decide) ?_
          refine lv_istore_n (lv' := [(3, .int 1), (2, .int 0), (0, .ref (a 0)), (1, .int p0)]) hx hb dX9_haunts_109 rfl hl (by decide) rfl (fun ls hl => ?_)
          have lp110 : ∀ (n9_110 : Nat) (v3_110 : Int32) (v2_110 : Int32) (ls : Array Slot), Iv 1 6 v3_110 → Iv 0 5 v2_110 → lv_has ls 4 [(3, .int v3_110), (2, .int v2_110), (0, .ref (a 0)), (1, .int p0)] → (6 : Int) - v3_110.toInt < (n9_110 : Int) → W p l e (rmw 5 0 0) s m ([.ref (a 0), .int p0] : List Value).toArray below meth c H9 locs9 0 0 Q (F0 m 110 ls []) := by
            clear hl
            intro n9_110
            induction n9_110 with
            | zero =>
              intro v3_110 v2_110 ls iv3_110 iv2_110 hl hm110
              exact (fu_0 iv3_110 hm110).elim
            | succ n9_110 ih110 =>
              intro v3_110 v2_110 ls iv3_110 iv2_110 hl hm110
              refine lv_iload_n hx hb dX9_haunts_110 rfl (lv_at hl 0 rfl) ?_
              refine lv_aload_n hx hb dX9_haunts_111 rfl (lv_at hl 2 rfl) ?_
              refine va_get (D := D) (ci := 9) (v := .ref (a 17)) (C := RX9) (T := TX9) (N := 11) hx hb hT in_X9 hown hK hP 0 cw_0 rfl 2 (by decide) (hT _ t453) (fun _ h9 => h9) rfl dX9_haunts_112 ?_
              refine va_get (D := D) (ci := 8) (v := .ref (a 18)) (C := RX8) (T := TX8) (N := 6) hx hb hT in_X8 hown hK hP 17 cw_17 rfl 0 (by decide) (hT _ t312) (fun _ h9 => h9) rfl dX9_haunts_115 ?_
              refine va_get (D := D) (ci := 1) (v := .int (t59 18 1)) (C := RX1) (T := TX1) (N := 14) hx hb hT in_X1 hown hK hP 18 cw_18 rfl 1 (by decide) (hT _ t201) (fun _ h9 => h9) rfl dX9_haunts_118 ?_
              refine k_top (y := (st 18 1)) (congrFun (hFt59 18 (nm_1 (by decide) (nm_1 (by decide) (nm_1 (by decide) (nm_1 (by decide) (nm_1 (by decide) (nm_1 (by decide) nm_0))))))) 1) ?_
              have h341 : Iv 0 6 (st 18 1) := (rb_18_1 hB)
              refine lv_icmp_ge (tgt := 147) hx hb dX9_haunts_121 (by decide) (fun c342 => ?_) (fun c342 => ?_)
              · skip
                have n343 : (st 18 1).toInt ≤ v3_110.toInt := (i_le c342)
                refine lv_iload_n hx hb dX9_haunts_147 rfl (lv_at hl 1 rfl) ?_
                rw [hQ]
                exact W.iret (v := v2_110) hx hb hr (fun t ht hW => ⟨⟨v2_110, t59, rfl, ⟨hBt59, hFt59, ⟨(iv_mono (c := (-2)) (d := 5) iv2_110 (by decide) (by decide)), trivial⟩⟩, by rw [ht]; exact hP, va_K.moved hW.alike (hK.sub (tys' := []) [] rfl), by rw [hAe]; exact hD⟩, by rw [hAe]; exact hS.F ht⟩) hS.2.2 dX9_haunts_148
              · skip
                have n344 : v3_110.toInt < (st 18 1).toInt := (i_nle c342)
                have h345 : Iv 1 5 v3_110 := lt_l iv3_110 n344 h341 (by decide)
                have h346 : Iv 2 6 (st 18 1) := lt_r iv3_110 n344 h341 (by decide)
                refine lv_aload_n hx hb dX9_haunts_124 rfl (lv_at hl 2 rfl) ?_
                refine va_get (D := D) (ci := 9) (v := .ref (a 166)) (C := RX9) (T := TX9) (N := 11) hx hb hT in_X9 hown hK hP 0 cw_0 rfl 10 (by decide) (hT _ t461) (fun _ h9 => h9) rfl dX9_haunts_125 ?_
                refine lv_iload_n hx hb dX9_haunts_128 rfl (lv_at hl 0 rfl) ?_
                refine va_iald hx hb hK hP 166 0 cw_166 rfl (iv_in h345 (by decide) (by decide)) dX9_haunts_129 ?_
                refine lv_topi (fun z347 ez347 => ?_)
                refine lv_aload_n hx hb dX9_haunts_130 rfl (lv_at hl 2 rfl) ?_
                refine va_get (D := D) (ci := 9) (v := .ref (a 166)) (C := RX9) (T := TX9) (N := 11) hx hb hT in_X9 hown hK hP 0 cw_0 rfl 10 (by decide) (hT _ t461) (fun _ h9 => h9) rfl dX9_haunts_131 ?_
                refine lv_iload_n hx hb dX9_haunts_134 rfl (lv_at hl 1 rfl) ?_
                refine va_iald hx hb hK hP 166 0 cw_166 rfl (iv_in iv2_110 (by decide) (by decide)) dX9_haunts_135 ?_
                refine lv_topi (fun z348 ez348 => ?_)
                refine lv_icmp_le (tgt := 141) hx hb dX9_haunts_136 (by decide) (fun c349 => ?_) (fun c349 => ?_)
                · skip
                  have n350 : z347.toInt ≤ z348.toInt := (i_le c349)
                  obtain ⟨z351, ez351⟩ : ∃ z9 : Int32, z9 = v3_110 + Int32.ofInt 1 := ⟨_, rfl⟩
                  have h352 : Iv 2 6 z351 := iv_inc ez351 h345 (by decide) (by decide) (by decide) (by decide) (by decide) (by decide)
                  refine lv_iinc (v := z351) (lv' := [(3, .int z351), (2, .int v2_110), (0, .ref (a 0)), (1, .int p0)]) hx hb dX9_haunts_141 hl (k := 0) rfl ez351.symm (by decide) rfl (fun ls hl => ?_)
                  refine lv_goto (tgt := 110) hx hb dX9_haunts_144 (by decide) ?_
                  exact ih110 z351 v2_110 _ (iv_mono (c := 1) (d := 6) h352 (by decide) (by decide)) iv2_110 (lv_sub hl [0, 1, 2, 3] rfl) (fu_s (lo := 0) (ti_inc ez351 h345 (by decide) (by decide) (by decide) (by decide)) (by decide) hm110)
                · skip
                  have n353 : z348.toInt < z347.toInt := (i_nle c349)
                  have h354 : Iv (-2147483648) 2147483646 z348 := lt_l (iv_full z348) n353 (iv_full z347) (by decide)
                  have h355 : Iv (-2147483647) 2147483647 z347 := lt_r (iv_full z348) n353 (iv_full z347) (by decide)
                  refine lv_iload_n hx hb dX9_haunts_139 rfl (lv_at hl 0 rfl) ?_
                  refine lv_istore_n (lv' := [(2, .int v3_110), (3, .int v3_110), (0, .ref (a 0)), (1, .int p0)]) hx hb dX9_haunts_140 rfl hl (by decide) rfl (fun ls hl => ?_)
                  obtain ⟨z356, ez356⟩ : ∃ z9 : Int32, z9 = v3_110 + Int32.ofInt 1 := ⟨_, rfl⟩
                  have h357 : Iv 2 6 z356 := iv_inc ez356 h345 (by decide) (by decide) (by decide) (by decide) (by decide) (by decide)
                  refine lv_iinc (v := z356) (lv' := [(3, .int z356), (2, .int v3_110), (0, .ref (a 0)), (1, .int p0)]) hx hb dX9_haunts_141 hl (k := 1) rfl ez356.symm (by decide) rfl (fun ls hl => ?_)
                  refine lv_goto (tgt := 110) hx hb dX9_haunts_144 (by decide) ?_
                  exact ih110 z356 v3_110 _ (iv_mono (c := 1) (d := 6) h357 (by decide) (by decide)) (iv_mono (c := 0) (d := 5) h345 (by decide) (by decide)) (lv_sub hl [0, 1, 2, 3] rfl) (fu_s (lo := 0) (ti_inc ez356 h345 (by decide) (by decide) (by decide) (by decide)) (by decide) hm110)
          exact lp110 6 1 0 _ (iv_mono (c := 1) (d := 6) (iv_c (by decide) : Iv 1 1 1) (by decide) (by decide)) (iv_mono (c := 0) (d := 5) (iv_c (by decide) : Iv 0 0 0) (by decide) (by decide)) (lv_sub hl [0, 1, 2, 3] rfl) (fu_i (iv_mono (c := 1) (d := 6) (iv_c (by decide) : Iv 1 1 1) (by decide) (by decide)) (by decide))
        · skip
          have n358 : v2_59.toInt < (40 : Int32).toInt := (i_nle c236)
          have h359 : Iv 0 39 v2_59 := lt_l iv2_59 n358 (iv_c (by decide) : Iv 40 40 40) (by decide)
          refine lv_aload_n hx hb dX9_haunts_65 rfl (lv_at hl 1 rfl) ?_
          refine va_get (D := D) (ci := 9) (v := .ref (a 119)) (C := RX9) (T := TX9) (N := 11) hx hb hT in_X9 hown hK hP 0 cw_0 rfl 6 (by decide) (hT _ t457) (fun _ h9 => h9) rfl dX9_haunts_66 ?_
          refine lv_aload_n hx hb dX9_haunts_69 rfl (lv_at hl 1 rfl) ?_
          refine va_get (D := D) (ci := 9) (v := .ref (a 17)) (C := RX9) (T := TX9) (N := 11) hx hb hT in_X9 hown hK hP 0 cw_0 rfl 2 (by decide) (hT _ t453) (fun _ h9 => h9) rfl dX9_haunts_70 ?_
          refine va_get (D := D) (ci := 8) (v := .ref (a 18)) (C := RX8) (T := TX8) (N := 6) hx hb hT in_X8 hown hK hP 17 cw_17 rfl 0 (by decide) (hT _ t312) (fun _ h9 => h9) rfl dX9_haunts_73 ?_
          refine lv_iload_n hx hb dX9_haunts_76 rfl (lv_at hl 2 rfl) ?_
          refine lv_iconst (v := (-1)) hx hb dX9_haunts_77 (by decide) ?_
          refine ca_i hP hD hS hA (fun hDc => run_V (mc := 0) (ms := 0) (As := [.ref (a 18), .int p0, .int (-1)]) (rest := []) S (s_X5_go l D k a t59 sl 119 p0 (-1) _ (by decide) hBt59 h3 ) lkX9_317 ok_X5_go ⟨rfl, rfl, Nat.le_of_ble_eq_true rfl, Nat.le_of_ble_eq_true rfl⟩ (pw_V (ci := 5) (q0 := 119) hK hN rfl cw_119 hP hDc) rfl hl.1 rfl (Nat.le_of_ble_eq_true rfl) ⟨Nat.zero_le _, Nat.zero_le _⟩ dX9_haunts_78) (fun r361 s360 H9 locs9 hs360 hP9 hD9 hS9 => ?_)
          clear hP hD hS
          have hS := hS9
          have hP := hP9
          have hD := hD9
          clear hP9 hD9 hS9
          obtain ⟨hBs360, gs360, fs360⟩ := hs360
          have hFs360 : FR [166, 120, 121, 122, 123, 124] st s360 := fr_ca hFt59 gs360 (sub_1 (List.mem_of_getElem? (i := 1) rfl) (sub_1 (List.mem_of_getElem? (i := 2) rfl) (sub_1 (List.mem_of_getElem? (i := 4) rfl) (sub_1 (List.mem_of_getElem? (i := 5) rfl) sub_0))))
          have h362 : Iv (-1) 7 r361 := fs360.1
          refine lv_pop hx hb dX9_haunts_81 rfl ?_
          refine lv_aload_n hx hb dX9_haunts_82 rfl (lv_at hl 1 rfl) ?_
          refine va_get (D := D) (ci := 9) (v := .ref (a 166)) (C := RX9) (T := TX9) (N := 11) hx hb hT in_X9 hown hK hP 0 cw_0 rfl 10 (by decide) (hT _ t461) (fun _ h9 => h9) rfl dX9_haunts_83 ?_
          refine lv_aload_n hx hb dX9_haunts_86 rfl (lv_at hl 1 rfl) ?_
          refine va_get (D := D) (ci := 9) (v := .ref (a 119)) (C := RX9) (T := TX9) (N := 11) hx hb hT in_X9 hown hK hP 0 cw_0 rfl 6 (by decide) (hT _ t457) (fun _ h9 => h9) rfl dX9_haunts_87 ?_
          refine va_get (D := D) (ci := 5) (v := .ref (a 123)) (C := RX5) (T := TX5) (N := 5) hx hb hT in_X5 hown hK hP 119 cw_119 rfl 3 (by decide) (hT _ t180) (fun _ h9 => h9) rfl dX9_haunts_90 ?_
          refine lv_iload_n hx hb dX9_haunts_93 rfl (lv_at hl 2 rfl) ?_
          refine va_iald hx hb hK hP 123 0 cw_123 rfl (iv_in h3 (by decide) (by decide)) dX9_haunts_94 ?_
          refine lv_topi (fun z363 ez363 => ?_)
          have h364 : Iv 0 5 z363 := by rw [ez363]; exact (rb_123 hBs360 (vp_in_lt (iv_in h3 (by decide) (by decide))))
          refine lv_dup2_11 hx hb dX9_haunts_95 rfl rfl ?_
          refine va_iald hx hb hK hP 166 0 cw_166 rfl (iv_in h364 (by decide) (by decide)) dX9_haunts_96 ?_
          refine lv_topi (fun z365 ez365 => ?_)
          refine lv_iconst (v := 1) hx hb dX9_haunts_97 (by decide) ?_
          refine lv_iadd hx hb dX9_haunts_98 ?_
          refine lv_topi (fun z366 ez366 => ?_)
          refine c_ist hx hb hK hP hD hS cw_166 cs_166 (iv_in h364 (by decide) (by decide)) dX9_haunts_99 (fun s367 H9 locs9 es367 hP9 hD9 hS9 => ?_)
          clear hP hD hS
          have hS := hS9
          have hP := hP9
          have hD := hD9
          clear hP9 hD9 hS9
          have hBs367 : CB s367 := by rw [es367]; exact cb_sw hBs360 trivial
          have hFs367 : FR [166, 120, 121, 122, 123, 124] st s367 := fr_sw hFs360 (List.mem_of_getElem? (i := 0) rfl) es367
          obtain ⟨z368, ez368⟩ : ∃ z9 : Int32, z9 = v2_59 + Int32.ofInt 1 := ⟨_, rfl⟩
          have h369 : Iv 1 40 z368 := iv_inc ez368 h359 (by decide) (by decide) (by decide) (by decide) (by decide) (by decide)
          refine lv_iinc (v := z368) (lv' := [(2, .int z368), (0, .ref (a 0)), (1, .int p0)]) hx hb dX9_haunts_100 hl (k := 0) rfl ez368.symm (by decide) rfl (fun ls hl => ?_)
          refine lv_goto (tgt := 59) hx hb dX9_haunts_103 (by decide) ?_
          exact ih59 z368 s367 _ _ _ (iv_mono (c := 0) (d := 40) h369 (by decide) (by decide)) hBs367 (fr_sw (fr_ca gt59 gs360 (sub_1 (List.mem_of_getElem? (i := 0) rfl) (sub_1 (List.mem_of_getElem? (i := 1) rfl) (sub_1 (List.mem_of_getElem? (i := 2) rfl) (sub_1 (List.mem_of_getElem? (i := 3) rfl) sub_0))))) (List.mem_of_getElem? (i := 4) rfl) es367) hP hD hS (lv_sub hl [0, 1, 2] rfl) (fu_s (lo := 0) (ti_inc ez368 h359 (by decide) (by decide) (by decide) (by decide)) (by decide) hm59)
    exact lp59 41 0 s12 _ _ _ (iv_mono (c := 0) (d := 40) (iv_c (by decide) : Iv 0 0 0) (by decide) (by decide)) hBs12 fr_rf hP hD hS (lv_sub hl [0, 1, 2] rfl) (fu_i (iv_mono (c := 0) (d := 40) (iv_c (by decide) : Iv 0 0 0) (by decide) (by decide)) (by decide))
  · skip
    have g370 := g9
    refine lv_if_ne (tgt := 17) hx hb dX9_haunts_11 (by decide) (fun c371 => ?_) (fun c371 => ?_)
    · first | exact absurd c371 (by decide) | exact absurd (by decide) c371
    refine lv_bipush (v := (-2)) hx hb dX9_haunts_14 (by decide) ?_
    rw [hQ]
    exact W.iret (v := (-2)) hx hb hr (fun t ht hW => ⟨⟨(-2), st, rfl, ⟨hB, fr_rf, ⟨(iv_mono (c := (-2)) (d := 5) (iv_c (by decide) : Iv (-2) (-2) (-2)) (by decide) (by decide)), trivial⟩⟩, by rw [ht]; exact hP, va_K.moved hW.alike (hK.sub (tys' := []) [] rfl), by rw [hAe]; exact hD⟩, by rw [hAe]; exact hS.F ht⟩) hS.2.2 dX9_haunts_16
set_option maxHeartbeats 4000000 in
set_option maxRecDepth 100000 in
theorem s_X9_meetIn (l : Launch) (D : va_G) (k : Nat → ClassId) (a : Nat → Nat) (st : CT) (sl : CL) (p0 : Int32) (p1 : Int32) (sz : Nat) (hB : CB st) (hp0 : Iv 0 2 p0) : Met l yX9_meetIn (.code yX9_meetIn cX9_meetIn 5 (some .int) :: TB) (rmw 5 0 0) (va_Pc [.ref (a 0), .int p0, .int p1] (PW D k sz (CWS k a st sl))) (QI D (S := CT) (fun r u => CB u ∧ FR [120, 121, 122, 123, 124] st u ∧ (Iv (-1) 40 r ∧ (True))) (fun u => CWS k a u sl) (fun _ => []) (CWS k a st sl) sz) 0 0 (va_A (CWS k a st sl) sz) := by
  refine Met.ofW (cc := cX9_meetIn) (maxL := 5) (ret := (some .int)) (by decide) rfl ?_
  intro p e s m args below meth c s₁ B hml hv
  obtain ⟨rfl, hsz, hP, hK, hD0, hN⟩ := hv
  have hx := B.exec
  have hb := B.bytes
  have hr := B.returns
  have hT : ∀ w9 ∈ TB, w9.before ([.ref (a 0), .int p0, .int p1] : List Value).toArray s = true := fun w9 h => atoms_spec (ws := .code yX9_meetIn cX9_meetIn 5 (some .int) :: TB) B.pre w9 (List.mem_cons_of_mem _ h)
  have hown : s.vm.findClass RX9 = some m.cls := findClass_of_methodNamed B.named
  have S : CallFix p m c cX9_meetIn 5 s _ TB RX9 := ⟨hx, hb, hml, hown, hT⟩
  subst hsz
  have hD := hD0.self (sz := s.heap.size)
  generalize hAe : va_A (CWS k a st sl) s.heap.size = A at hD ⊢
  have hA : ∀ q : Nat, s.heap.size ≤ q → A q := fun q h => by rw [← hAe]; exact Or.inr h
  have hS : va_S A s.heap s.heap [] := va_S.rf
  have hl := lv_entry ([.ref (a 0), .int p0, .int p1]) (n := 5) (Nat.le_of_ble_eq_true rfl)
  rw [lg_entry_eq]
  generalize (lg_sl ([.ref (a 0), .int p0, .int p1]) ++ List.replicate (5 - (lg_sl ([.ref (a 0), .int p0, .int p1])).length) Slot.unset).toArray = ls at hl ⊢
  have hl : lv_has ls 5 [(0, .ref (a 0)), (1, .int p0), (2, .int p1)] := hl
  refine nameQ (fun Q hQ => ?_)
  refine lv_aload_n hx hb dX9_meetIn_0 rfl (lv_at hl 0 rfl) ?_
  refine va_get (D := D) (ci := 9) (v := .ref (a 119)) (C := RX9) (T := TX9) (N := 11) hx hb hT in_X9 hown hK hP 0 cw_0 rfl 6 (by decide) (hT _ t457) (fun _ h9 => h9) rfl dX9_meetIn_1 ?_
  refine lv_aload_n hx hb dX9_meetIn_4 rfl (lv_at hl 0 rfl) ?_
  refine va_get (D := D) (ci := 9) (v := .ref (a 17)) (C := RX9) (T := TX9) (N := 11) hx hb hT in_X9 hown hK hP 0 cw_0 rfl 2 (by decide) (hT _ t453) (fun _ h9 => h9) rfl dX9_meetIn_5 ?_
  refine va_get (D := D) (ci := 8) (v := .ref (a 31)) (C := RX8) (T := TX8) (N := 6) hx hb hT in_X8 hown hK hP 17 cw_17 rfl 1 (by decide) (hT _ t314) (fun _ h9 => h9) rfl dX9_meetIn_8 ?_
  refine ca_v hP hD hS hA (fun hDc => run_V (mc := 0) (ms := 0) (As := [.ref (a 31)]) (rest := []) S (s_X5_copy l D k a st sl 119 31  _ (by decide) (by decide) hB  ) lkX9_253 ok_X5_copy ⟨rfl, rfl, Nat.le_of_ble_eq_true rfl, Nat.le_of_ble_eq_true rfl⟩ (pw_V (ci := 5) (q0 := 119) hK hN rfl cw_119 hP hDc) rfl hl.1 rfl (Nat.le_of_ble_eq_true rfl) ⟨Nat.zero_le _, Nat.zero_le _⟩ dX9_meetIn_11) (fun s1 H9 locs9 hs1 hP9 hD9 hS9 => ?_)
  clear hP hD hS
  have hS := hS9
  have hP := hP9
  have hD := hD9
  clear hP9 hD9 hS9
  obtain ⟨hBs1, gs1, fs1⟩ := hs1
  have hFs1 : FR [120, 121, 122, 123, 124] st s1 := fr_ca fr_rf gs1 (sub_1 (List.mem_of_getElem? (i := 0) rfl) (sub_1 (List.mem_of_getElem? (i := 1) rfl) (sub_1 (List.mem_of_getElem? (i := 2) rfl) (sub_1 (List.mem_of_getElem? (i := 3) rfl) (sub_1 (List.mem_of_getElem? (i := 4) rfl) sub_0)))))
  refine lv_iconst (v := 1) hx hb dX9_meetIn_14 (by decide) ?_
  refine lv_iload_n hx hb dX9_meetIn_15 rfl (lv_at hl 2 rfl) ?_
  refine lv_ishl hx hb dX9_meetIn_16 ?_
  refine lv_topi (fun z3 ez3 => ?_)
  refine lv_istore_n (lv' := [(3, .int z3), (0, .ref (a 0)), (1, .int p0), (2, .int p1)]) hx hb dX9_meetIn_17 rfl hl (by decide) rfl (fun ls hl => ?_)
  refine lv_iconst (v := 0) hx hb dX9_meetIn_18 (by decide) ?_
  refine lv_istore (lv' := [(4, .int 0), (3, .int z3), (0, .ref (a 0)), (1, .int p0), (2, .int p1)]) hx hb dX9_meetIn_19 hl (by decide) rfl (fun ls hl => ?_)
  have lp21 : ∀ (n9_21 : Nat) (v4_21 : Int32) (v3_21 : Int32) (t21 : CT) (H9 : Heap) (locs9 : List Loc) (ls : Array Slot), Iv 0 41 v4_21 → CB t21 → FR [120, 121, 123, 124] s1 t21 → va_P D vwCl (CWS k a t21 sl) H9 → va_D A (CWS k a t21 sl) → va_S A s.heap H9 locs9 → lv_has ls 5 [(4, .int v4_21), (3, .int v3_21), (0, .ref (a 0)), (1, .int p0), (2, .int p1)] → (41 : Int) - v4_21.toInt < (n9_21 : Int) → W p l e (rmw 5 0 0) s m ([.ref (a 0), .int p0, .int p1] : List Value).toArray below meth c H9 locs9 0 0 Q (F0 m 21 ls []) := by
    clear hl hP hD hS
    intro n9_21
    induction n9_21 with
    | zero =>
      intro v4_21 v3_21 t21 H9 locs9 ls iv4_21 hBt21 gt21 hP hD hS hl hm21
      exact (fu_0 iv4_21 hm21).elim
    | succ n9_21 ih21 =>
      intro v4_21 v3_21 t21 H9 locs9 ls iv4_21 hBt21 gt21 hP hD hS hl hm21
      have hFt21 : FR [120, 121, 122, 123, 124] st t21 := fr_ca hFs1 gt21 (sub_1 (List.mem_of_getElem? (i := 0) rfl) (sub_1 (List.mem_of_getElem? (i := 1) rfl) (sub_1 (List.mem_of_getElem? (i := 3) rfl) (sub_1 (List.mem_of_getElem? (i := 4) rfl) sub_0))))
      refine lv_iload hx hb dX9_meetIn_21 (lv_at hl 0 rfl) ?_
      refine lv_bipush (v := 40) hx hb dX9_meetIn_23 (by decide) ?_
      refine lv_icmp_gt (tgt := 82) hx hb dX9_meetIn_25 (by decide) (fun c312 => ?_) (fun c312 => ?_)
      · skip
        have n313 : (40 : Int32).toInt < v4_21.toInt := (i_lt c312)
        have h314 : Iv 41 41 v4_21 := lt_r (iv_c (by decide) : Iv 40 40 40) n313 iv4_21 (by decide)
        refine lv_iconst (v := (-1)) hx hb dX9_meetIn_82 (by decide) ?_
        rw [hQ]
        exact W.iret (v := (-1)) hx hb hr (fun t ht hW => ⟨⟨(-1), t21, rfl, ⟨hBt21, hFt21, ⟨(iv_mono (c := (-1)) (d := 40) (iv_c (by decide) : Iv (-1) (-1) (-1)) (by decide) (by decide)), trivial⟩⟩, by rw [ht]; exact hP, va_K.moved hW.alike (hK.sub (tys' := []) [] rfl), by rw [hAe]; exact hD⟩, by rw [hAe]; exact hS.F ht⟩) hS.2.2 dX9_meetIn_83
      · skip
        have n315 : v4_21.toInt ≤ (40 : Int32).toInt := (i_nlt c312)
        have h316 : Iv 0 40 v4_21 := le_l iv4_21 n315 (iv_c (by decide) : Iv 40 40 40) (by decide)
        refine lv_iload_n hx hb dX9_meetIn_28 rfl (lv_at hl 1 rfl) ?_
        refine lv_aload_n hx hb dX9_meetIn_29 rfl (lv_at hl 2 rfl) ?_
        refine va_get (D := D) (ci := 9) (v := .ref (a 119)) (C := RX9) (T := TX9) (N := 11) hx hb hT in_X9 hown hK hP 0 cw_0 rfl 6 (by decide) (hT _ t457) (fun _ h9 => h9) rfl dX9_meetIn_30 ?_
        refine va_get (D := D) (ci := 5) (v := .ref (a 123)) (C := RX5) (T := TX5) (N := 5) hx hb hT in_X5 hown hK hP 119 cw_119 rfl 3 (by decide) (hT _ t180) (fun _ h9 => h9) rfl dX9_meetIn_33 ?_
        refine lv_iload_n hx hb dX9_meetIn_36 rfl (lv_at hl 3 rfl) ?_
        refine va_iald hx hb hK hP 123 0 cw_123 rfl (iv_in hp0 (by decide) (by decide)) dX9_meetIn_37 ?_
        refine lv_topi (fun z317 ez317 => ?_)
        have h318 : Iv 0 5 z317 := by rw [ez317]; exact (rb_123 hBt21 (vp_in_lt (iv_in hp0 (by decide) (by decide))))
        refine lv_ishr hx hb dX9_meetIn_38 ?_
        refine lv_topi (fun z319 ez319 => ?_)
        refine lv_iconst (v := 1) hx hb dX9_meetIn_39 (by decide) ?_
        refine lv_iand hx hb dX9_meetIn_40 ?_
        refine lv_topi (fun z320 ez320 => ?_)
        have h321 : Iv 0 1 z320 := iv_andr ez320 (iv_mono (c := 0) (d := 1) (iv_c (by decide) : Iv 1 1 1) (by decide) (by decide))
        refine lv_if_eq (tgt := 47) hx hb dX9_meetIn_41 (by decide) (fun c322 => ?_) (fun c322 => ?_)
        · skip
          have h323 : Iv 0 0 z320 := eq_l c322 (iv_c (by decide) : Iv 0 0 0)
          refine lv_aload_n hx hb dX9_meetIn_47 rfl (lv_at hl 2 rfl) ?_
          refine va_get (D := D) (ci := 9) (v := .ref (a 17)) (C := RX9) (T := TX9) (N := 11) hx hb hT in_X9 hown hK hP 0 cw_0 rfl 2 (by decide) (hT _ t453) (fun _ h9 => h9) rfl dX9_meetIn_48 ?_
          refine va_get (D := D) (ci := 8) (v := .ref (a 18)) (C := RX8) (T := TX8) (N := 6) hx hb hT in_X8 hown hK hP 17 cw_17 rfl 0 (by decide) (hT _ t312) (fun _ h9 => h9) rfl dX9_meetIn_51 ?_
          refine lv_iload_n hx hb dX9_meetIn_54 rfl (lv_at hl 1 rfl) ?_
          refine ro_V (As := [.int v3_21]) (rest := []) S (s_X1_spreadOf l D k a t21 sl  v3_21 _  hBt21  ) lkX9_329 ok_X1_spreadOf ⟨rfl, rfl, Nat.le_of_ble_eq_true rfl, Nat.le_of_ble_eq_true rfl⟩ (pw_V (ci := 1) (q0 := 18) hK hN rfl cw_18 hP (hD.weaken (fun _ _ _ _ => trivial))) rfl hl.1 rfl (Nat.le_of_ble_eq_true rfl) ⟨Nat.zero_le _, Nat.zero_le _⟩ dX9_meetIn_55 (fun r324 er324 => ?_)
          refine lv_istore_n (lv' := [(3, .int r324), (4, .int v4_21), (0, .ref (a 0)), (1, .int p0), (2, .int p1)]) hx hb dX9_meetIn_58 rfl hl (by decide) rfl (fun ls hl => ?_)
          refine lv_aload_n hx hb dX9_meetIn_59 rfl (lv_at hl 2 rfl) ?_
          refine va_get (D := D) (ci := 9) (v := .ref (a 119)) (C := RX9) (T := TX9) (N := 11) hx hb hT in_X9 hown hK hP 0 cw_0 rfl 6 (by decide) (hT _ t457) (fun _ h9 => h9) rfl dX9_meetIn_60 ?_
          refine lv_aload_n hx hb dX9_meetIn_63 rfl (lv_at hl 2 rfl) ?_
          refine va_get (D := D) (ci := 9) (v := .ref (a 17)) (C := RX9) (T := TX9) (N := 11) hx hb hT in_X9 hown hK hP 0 cw_0 rfl 2 (by decide) (hT _ t453) (fun _ h9 => h9) rfl dX9_meetIn_64 ?_
          refine va_get (D := D) (ci := 8) (v := .ref (a 18)) (C := RX8) (T := TX8) (N := 6) hx hb hT in_X8 hown hK hP 17 cw_17 rfl 0 (by decide) (hT _ t312) (fun _ h9 => h9) rfl dX9_meetIn_67 ?_
          refine lv_iload_n hx hb dX9_meetIn_70 rfl (lv_at hl 3 rfl) ?_
          refine lv_iconst (v := (-1)) hx hb dX9_meetIn_71 (by decide) ?_
          refine ca_i hP hD hS hA (fun hDc => run_V (mc := 0) (ms := 0) (As := [.ref (a 18), .int p0, .int (-1)]) (rest := []) S (s_X5_go l D k a t21 sl 119 p0 (-1) _ (by decide) hBt21 hp0 ) lkX9_317 ok_X5_go ⟨rfl, rfl, Nat.le_of_ble_eq_true rfl, Nat.le_of_ble_eq_true rfl⟩ (pw_V (ci := 5) (q0 := 119) hK hN rfl cw_119 hP hDc) rfl hl.1 rfl (Nat.le_of_ble_eq_true rfl) ⟨Nat.zero_le _, Nat.zero_le _⟩ dX9_meetIn_72) (fun r326 s325 H9 locs9 hs325 hP9 hD9 hS9 => ?_)
          clear hP hD hS
          have hS := hS9
          have hP := hP9
          have hD := hD9
          clear hP9 hD9 hS9
          obtain ⟨hBs325, gs325, fs325⟩ := hs325
          have hFs325 : FR [120, 121, 122, 123, 124] st s325 := fr_ca hFt21 gs325 (sub_1 (List.mem_of_getElem? (i := 0) rfl) (sub_1 (List.mem_of_getElem? (i := 1) rfl) (sub_1 (List.mem_of_getElem? (i := 3) rfl) (sub_1 (List.mem_of_getElem? (i := 4) rfl) sub_0))))
          have h327 : Iv (-1) 7 r326 := fs325.1
          refine lv_pop hx hb dX9_meetIn_75 rfl ?_
          obtain ⟨z328, ez328⟩ : ∃ z9 : Int32, z9 = v4_21 + Int32.ofInt 1 := ⟨_, rfl⟩
          have h329 : Iv 1 41 z328 := iv_inc ez328 h316 (by decide) (by decide) (by decide) (by decide) (by decide) (by decide)
          refine lv_iinc (v := z328) (lv' := [(4, .int z328), (3, .int r324), (0, .ref (a 0)), (1, .int p0), (2, .int p1)]) hx hb dX9_meetIn_76 hl (k := 1) rfl ez328.symm (by decide) rfl (fun ls hl => ?_)
          refine lv_goto (tgt := 21) hx hb dX9_meetIn_79 (by decide) ?_
          exact ih21 z328 r324 s325 _ _ _ (iv_mono (c := 0) (d := 41) h329 (by decide) (by decide)) hBs325 (fr_ca gt21 gs325 (sub_1 (List.mem_of_getElem? (i := 0) rfl) (sub_1 (List.mem_of_getElem? (i := 1) rfl) (sub_1 (List.mem_of_getElem? (i := 2) rfl) (sub_1 (List.mem_of_getElem? (i := 3) rfl) sub_0))))) hP hD hS (lv_sub hl [0, 1, 2, 3, 4] rfl) (fu_s (lo := 0) (ti_inc ez328 h316 (by decide) (by decide) (by decide) (by decide)) (by decide) hm21)
        · skip
          have h330 : Iv 1 1 z320 := ne_lo h321 c322 (by decide) (by decide)
          refine lv_iload hx hb dX9_meetIn_44 (lv_at hl 0 rfl) ?_
          rw [hQ]
          exact W.iret (v := v4_21) hx hb hr (fun t ht hW => ⟨⟨v4_21, t21, rfl, ⟨hBt21, hFt21, ⟨(iv_mono (c := (-1)) (d := 40) h316 (by decide) (by decide)), trivial⟩⟩, by rw [ht]; exact hP, va_K.moved hW.alike (hK.sub (tys' := []) [] rfl), by rw [hAe]; exact hD⟩, by rw [hAe]; exact hS.F ht⟩) hS.2.2 dX9_meetIn_46
  exact lp21 42 0 z3 s1 _ _ _ (iv_mono (c := 0) (d := 41) (iv_c (by decide) : Iv 0 0 0) (by decide) (by decide)) hBs1 fr_rf hP hD hS (lv_sub hl [0, 1, 2, 3, 4] rfl) (fu_i (iv_mono (c := 0) (d := 41) (iv_c (by decide) : Iv 0 0 0) (by decide) (by decide)) (by decide))
set_option maxHeartbeats 4000000 in
set_option maxRecDepth 100000 in
theorem s_X9_meet (l : Launch) (D : va_G) (k : Nat → ClassId) (a : Nat → Nat) (st : CT) (sl : CL) (p0 : Int32) (p1 : Int32) (sz : Nat) (hB : CB st)  : Met l yX9_meet (.code yX9_meet cX9_meet 3 (some .int) :: TB) (rmw 6 0 0) (va_Pc [.ref (a 0), .int p0, .int p1] (PW D k sz (CWS k a st sl))) (QI D (S := CT) (fun r u => CB u ∧ FR [120, 121, 122, 123, 124] st u ∧ (Iv (-2) 40 r ∧ (True))) (fun u => CWS k a u sl) (fun _ => []) (CWS k a st sl) sz) 0 0 (va_A (CWS k a st sl) sz) := by
  refine Met.ofW (cc := cX9_meet) (maxL := 3) (ret := (some .int)) (by decide) rfl ?_
  intro p e s m args below meth c s₁ B hml hv
  obtain ⟨rfl, hsz, hP, hK, hD0, hN⟩ := hv
  have hx := B.exec
  have hb := B.bytes
  have hr := B.returns
  have hT : ∀ w9 ∈ TB, w9.before ([.ref (a 0), .int p0, .int p1] : List Value).toArray s = true := fun w9 h => atoms_spec (ws := .code yX9_meet cX9_meet 3 (some .int) :: TB) B.pre w9 (List.mem_cons_of_mem _ h)
  have hown : s.vm.findClass RX9 = some m.cls := findClass_of_methodNamed B.named
  have S : CallFix p m c cX9_meet 3 s _ TB RX9 := ⟨hx, hb, hml, hown, hT⟩
  subst hsz
  have hD := hD0.self (sz := s.heap.size)
  generalize hAe : va_A (CWS k a st sl) s.heap.size = A at hD ⊢
  have hA : ∀ q : Nat, s.heap.size ≤ q → A q := fun q h => by rw [← hAe]; exact Or.inr h
  have hS : va_S A s.heap s.heap [] := va_S.rf
  have hl := lv_entry ([.ref (a 0), .int p0, .int p1]) (n := 3) (Nat.le_of_ble_eq_true rfl)
  rw [lg_entry_eq]
  generalize (lg_sl ([.ref (a 0), .int p0, .int p1]) ++ List.replicate (3 - (lg_sl ([.ref (a 0), .int p0, .int p1])).length) Slot.unset).toArray = ls at hl ⊢
  have hl : lv_has ls 3 [(0, .ref (a 0)), (1, .int p0), (2, .int p1)] := hl
  refine nameQ (fun Q hQ => ?_)
  refine lv_aload_n hx hb dX9_meet_0 rfl (lv_at hl 0 rfl) ?_
  refine va_get (D := D) (ci := 9) (v := .ref (a 17)) (C := RX9) (T := TX9) (N := 11) hx hb hT in_X9 hown hK hP 0 cw_0 rfl 2 (by decide) (hT _ t453) (fun _ h9 => h9) rfl dX9_meet_1 ?_
  refine va_get (D := D) (ci := 8) (v := .ref (a 18)) (C := RX8) (T := TX8) (N := 6) hx hb hT in_X8 hown hK hP 17 cw_17 rfl 0 (by decide) (hT _ t312) (fun _ h9 => h9) rfl dX9_meet_4 ?_
  refine lv_iload_n hx hb dX9_meet_7 rfl (lv_at hl 1 rfl) ?_
  refine ro_V (As := [.int p0]) (rest := []) S (s_X1_isCart l D k a st sl  p0 _  hB  ) lkX9_147 ok_X1_isCart ⟨rfl, rfl, Nat.le_of_ble_eq_true rfl, Nat.le_of_ble_eq_true rfl⟩ (pw_V (ci := 1) (q0 := 18) hK hN rfl cw_18 hP (hD.weaken (fun _ _ _ _ => trivial))) rfl hl.1 rfl (Nat.le_of_ble_eq_true rfl) ⟨Nat.zero_le _, Nat.zero_le _⟩ dX9_meet_8 (fun r1 er1 => ?_)
  rcases er1 with ⟨rfl, g9⟩ | ⟨rfl, g9⟩
  · skip
    have g2 := g9
    have h3 : Iv 0 2 p0 := g2.1
    refine lv_if_eq (tgt := 28) hx hb dX9_meet_11 (by decide) (fun c4 => ?_) (fun c4 => ?_)
    · first | exact absurd c4 (by decide) | exact absurd (by decide) c4
    refine lv_aload_n hx hb dX9_meet_14 rfl (lv_at hl 0 rfl) ?_
    refine va_get (D := D) (ci := 9) (v := .ref (a 17)) (C := RX9) (T := TX9) (N := 11) hx hb hT in_X9 hown hK hP 0 cw_0 rfl 2 (by decide) (hT _ t453) (fun _ h9 => h9) rfl dX9_meet_15 ?_
    refine va_get (D := D) (ci := 8) (v := .ref (a 18)) (C := RX8) (T := TX8) (N := 6) hx hb hT in_X8 hown hK hP 17 cw_17 rfl 0 (by decide) (hT _ t312) (fun _ h9 => h9) rfl dX9_meet_18 ?_
    refine lv_iload_n hx hb dX9_meet_21 rfl (lv_at hl 2 rfl) ?_
    refine ro_V (As := [.int p1]) (rest := []) S (s_X1_isPlace l D k a st sl  p1 _  hB  ) lkX9_171 ok_X1_isPlace ⟨rfl, rfl, Nat.le_of_ble_eq_true rfl, Nat.le_of_ble_eq_true rfl⟩ (pw_V (ci := 1) (q0 := 18) hK hN rfl cw_18 hP (hD.weaken (fun _ _ _ _ => trivial))) rfl hl.1 rfl (Nat.le_of_ble_eq_true rfl) ⟨Nat.zero_le _, Nat.zero_le _⟩ dX9_meet_22 (fun r5 er5 => ?_)
    rcases er5 with ⟨rfl, g9⟩ | ⟨rfl, g9⟩
    · skip
      have g6 := g9
      have h7 : Iv 0 5 p1 := g6.1
      refine lv_if_ne (tgt := 31) hx hb dX9_meet_25 (by decide) (fun c8 => ?_) (fun c8 => ?_)
      rotate_left
      · first | exact absurd c8 (by decide) | exact absurd (by decide) c8
      refine lv_aload_n hx hb dX9_meet_31 rfl (lv_at hl 0 rfl) ?_
      refine lv_iload_n hx hb dX9_meet_32 rfl (lv_at hl 1 rfl) ?_
      refine lv_iload_n hx hb dX9_meet_33 rfl (lv_at hl 2 rfl) ?_
      refine ca_i hP hD hS hA (fun hDc => run_V (mc := 0) (ms := 0) (As := [.int p0, .int p1]) (rest := []) S (s_X9_meetIn l D k a st sl  p0 p1 _  hB h3 ) lkX9_326 ok_X9_meetIn ⟨rfl, rfl, Nat.le_of_ble_eq_true rfl, Nat.le_of_ble_eq_true rfl⟩ (pw_V (ci := 9) (q0 := 0) hK hN rfl cw_0 hP hDc) rfl hl.1 rfl (Nat.le_of_ble_eq_true rfl) ⟨Nat.zero_le _, Nat.zero_le _⟩ dX9_meet_34) (fun r10 s9 H9 locs9 hs9 hP9 hD9 hS9 => ?_)
      clear hP hD hS
      have hS := hS9
      have hP := hP9
      have hD := hD9
      clear hP9 hD9 hS9
      obtain ⟨hBs9, gs9, fs9⟩ := hs9
      have hFs9 : FR [120, 121, 122, 123, 124] st s9 := fr_ca fr_rf gs9 (sub_1 (List.mem_of_getElem? (i := 0) rfl) (sub_1 (List.mem_of_getElem? (i := 1) rfl) (sub_1 (List.mem_of_getElem? (i := 2) rfl) (sub_1 (List.mem_of_getElem? (i := 3) rfl) (sub_1 (List.mem_of_getElem? (i := 4) rfl) sub_0)))))
      have h11 : Iv (-1) 40 r10 := fs9.1
      rw [hQ]
      exact W.iret (v := r10) hx hb hr (fun t ht hW => ⟨⟨r10, s9, rfl, ⟨hBs9, hFs9, ⟨(iv_mono (c := (-2)) (d := 40) h11 (by decide) (by decide)), trivial⟩⟩, by rw [ht]; exact hP, va_K.moved hW.alike (hK.sub (tys' := []) [] rfl), by rw [hAe]; exact hD⟩, by rw [hAe]; exact hS.F ht⟩) hS.2.2 dX9_meet_37
    · skip
      have g12 := g9
      refine lv_if_ne (tgt := 31) hx hb dX9_meet_25 (by decide) (fun c13 => ?_) (fun c13 => ?_)
      · first | exact absurd c13 (by decide) | exact absurd (by decide) c13
      refine lv_bipush (v := (-2)) hx hb dX9_meet_28 (by decide) ?_
      rw [hQ]
      exact W.iret (v := (-2)) hx hb hr (fun t ht hW => ⟨⟨(-2), st, rfl, ⟨hB, fr_rf, ⟨(iv_mono (c := (-2)) (d := 40) (iv_c (by decide) : Iv (-2) (-2) (-2)) (by decide) (by decide)), trivial⟩⟩, by rw [ht]; exact hP, va_K.moved hW.alike (hK.sub (tys' := []) [] rfl), by rw [hAe]; exact hD⟩, by rw [hAe]; exact hS.F ht⟩) hS.2.2 dX9_meet_30
  · skip
    have g14 := g9
    refine lv_if_eq (tgt := 28) hx hb dX9_meet_11 (by decide) (fun c15 => ?_) (fun c15 => ?_)
    rotate_left
    · first | exact absurd c15 (by decide) | exact absurd (by decide) c15
    refine lv_bipush (v := (-2)) hx hb dX9_meet_28 (by decide) ?_
    rw [hQ]
    exact W.iret (v := (-2)) hx hb hr (fun t ht hW => ⟨⟨(-2), st, rfl, ⟨hB, fr_rf, ⟨(iv_mono (c := (-2)) (d := 40) (iv_c (by decide) : Iv (-2) (-2) (-2)) (by decide) (by decide)), trivial⟩⟩, by rw [ht]; exact hP, va_K.moved hW.alike (hK.sub (tys' := []) [] rfl), by rw [hAe]; exact hD⟩, by rw [hAe]; exact hS.F ht⟩) hS.2.2 dX9_meet_30
set_option maxHeartbeats 4000000 in
set_option maxRecDepth 100000 in
theorem s_X9_met (l : Launch) (D : va_G) (k : Nat → ClassId) (a : Nat → Nat) (st : CT) (sl : CL) (p0 : Int32) (p1 : Int32) (sz : Nat) (hB : CB st)  : Met l yX9_met (.code yX9_met cX9_met 3 (some .int) :: TB) (rmw 6 0 0) (va_Pc [.ref (a 0), .int p0, .int p1] (PW D k sz (CWS k a st sl))) (QI D (S := CT) (fun r u => CB u ∧ FR [120, 121, 122, 123, 124] st u ∧ (Iv (-2) 5 r ∧ (True))) (fun u => CWS k a u sl) (fun _ => []) (CWS k a st sl) sz) 0 0 (va_A (CWS k a st sl) sz) := by
  refine Met.ofW (cc := cX9_met) (maxL := 3) (ret := (some .int)) (by decide) rfl ?_
  intro p e s m args below meth c s₁ B hml hv
  obtain ⟨rfl, hsz, hP, hK, hD0, hN⟩ := hv
  have hx := B.exec
  have hb := B.bytes
  have hr := B.returns
  have hT : ∀ w9 ∈ TB, w9.before ([.ref (a 0), .int p0, .int p1] : List Value).toArray s = true := fun w9 h => atoms_spec (ws := .code yX9_met cX9_met 3 (some .int) :: TB) B.pre w9 (List.mem_cons_of_mem _ h)
  have hown : s.vm.findClass RX9 = some m.cls := findClass_of_methodNamed B.named
  have S : CallFix p m c cX9_met 3 s _ TB RX9 := ⟨hx, hb, hml, hown, hT⟩
  subst hsz
  have hD := hD0.self (sz := s.heap.size)
  generalize hAe : va_A (CWS k a st sl) s.heap.size = A at hD ⊢
  have hA : ∀ q : Nat, s.heap.size ≤ q → A q := fun q h => by rw [← hAe]; exact Or.inr h
  have hS : va_S A s.heap s.heap [] := va_S.rf
  have hl := lv_entry ([.ref (a 0), .int p0, .int p1]) (n := 3) (Nat.le_of_ble_eq_true rfl)
  rw [lg_entry_eq]
  generalize (lg_sl ([.ref (a 0), .int p0, .int p1]) ++ List.replicate (3 - (lg_sl ([.ref (a 0), .int p0, .int p1])).length) Slot.unset).toArray = ls at hl ⊢
  have hl : lv_has ls 3 [(0, .ref (a 0)), (1, .int p0), (2, .int p1)] := hl
  refine nameQ (fun Q hQ => ?_)
  refine lv_aload_n hx hb dX9_met_0 rfl (lv_at hl 0 rfl) ?_
  refine va_get (D := D) (ci := 9) (v := .ref (a 17)) (C := RX9) (T := TX9) (N := 11) hx hb hT in_X9 hown hK hP 0 cw_0 rfl 2 (by decide) (hT _ t453) (fun _ h9 => h9) rfl dX9_met_1 ?_
  refine va_get (D := D) (ci := 8) (v := .ref (a 18)) (C := RX8) (T := TX8) (N := 6) hx hb hT in_X8 hown hK hP 17 cw_17 rfl 0 (by decide) (hT _ t312) (fun _ h9 => h9) rfl dX9_met_4 ?_
  refine lv_iload_n hx hb dX9_met_7 rfl (lv_at hl 1 rfl) ?_
  refine ro_V (As := [.int p0]) (rest := []) S (s_X1_isCart l D k a st sl  p0 _  hB  ) lkX9_147 ok_X1_isCart ⟨rfl, rfl, Nat.le_of_ble_eq_true rfl, Nat.le_of_ble_eq_true rfl⟩ (pw_V (ci := 1) (q0 := 18) hK hN rfl cw_18 hP (hD.weaken (fun _ _ _ _ => trivial))) rfl hl.1 rfl (Nat.le_of_ble_eq_true rfl) ⟨Nat.zero_le _, Nat.zero_le _⟩ dX9_met_8 (fun r1 er1 => ?_)
  rcases er1 with ⟨rfl, g9⟩ | ⟨rfl, g9⟩
  · skip
    have g2 := g9
    have h3 : Iv 0 2 p0 := g2.1
    refine lv_if_eq (tgt := 28) hx hb dX9_met_11 (by decide) (fun c4 => ?_) (fun c4 => ?_)
    · first | exact absurd c4 (by decide) | exact absurd (by decide) c4
    refine lv_aload_n hx hb dX9_met_14 rfl (lv_at hl 0 rfl) ?_
    refine va_get (D := D) (ci := 9) (v := .ref (a 17)) (C := RX9) (T := TX9) (N := 11) hx hb hT in_X9 hown hK hP 0 cw_0 rfl 2 (by decide) (hT _ t453) (fun _ h9 => h9) rfl dX9_met_15 ?_
    refine va_get (D := D) (ci := 8) (v := .ref (a 18)) (C := RX8) (T := TX8) (N := 6) hx hb hT in_X8 hown hK hP 17 cw_17 rfl 0 (by decide) (hT _ t312) (fun _ h9 => h9) rfl dX9_met_18 ?_
    refine lv_iload_n hx hb dX9_met_21 rfl (lv_at hl 2 rfl) ?_
    refine ro_V (As := [.int p1]) (rest := []) S (s_X1_isPlace l D k a st sl  p1 _  hB  ) lkX9_171 ok_X1_isPlace ⟨rfl, rfl, Nat.le_of_ble_eq_true rfl, Nat.le_of_ble_eq_true rfl⟩ (pw_V (ci := 1) (q0 := 18) hK hN rfl cw_18 hP (hD.weaken (fun _ _ _ _ => trivial))) rfl hl.1 rfl (Nat.le_of_ble_eq_true rfl) ⟨Nat.zero_le _, Nat.zero_le _⟩ dX9_met_22 (fun r5 er5 => ?_)
    rcases er5 with ⟨rfl, g9⟩ | ⟨rfl, g9⟩
    · skip
      have g6 := g9
      have h7 : Iv 0 5 p1 := g6.1
      refine lv_if_ne (tgt := 31) hx hb dX9_met_25 (by decide) (fun c8 => ?_) (fun c8 => ?_)
      rotate_left
      · first | exact absurd c8 (by decide) | exact absurd (by decide) c8
      refine lv_aload_n hx hb dX9_met_31 rfl (lv_at hl 0 rfl) ?_
      refine lv_iload_n hx hb dX9_met_32 rfl (lv_at hl 1 rfl) ?_
      refine lv_iload_n hx hb dX9_met_33 rfl (lv_at hl 2 rfl) ?_
      refine ca_i hP hD hS hA (fun hDc => run_V (mc := 0) (ms := 0) (As := [.int p0, .int p1]) (rest := []) S (s_X9_meetIn l D k a st sl  p0 p1 _  hB h3 ) lkX9_326 ok_X9_meetIn ⟨rfl, rfl, Nat.le_of_ble_eq_true rfl, Nat.le_of_ble_eq_true rfl⟩ (pw_V (ci := 9) (q0 := 0) hK hN rfl cw_0 hP hDc) rfl hl.1 rfl (Nat.le_of_ble_eq_true rfl) ⟨Nat.zero_le _, Nat.zero_le _⟩ dX9_met_34) (fun r10 s9 H9 locs9 hs9 hP9 hD9 hS9 => ?_)
      clear hP hD hS
      have hS := hS9
      have hP := hP9
      have hD := hD9
      clear hP9 hD9 hS9
      obtain ⟨hBs9, gs9, fs9⟩ := hs9
      have hFs9 : FR [120, 121, 122, 123, 124] st s9 := fr_ca fr_rf gs9 (sub_1 (List.mem_of_getElem? (i := 0) rfl) (sub_1 (List.mem_of_getElem? (i := 1) rfl) (sub_1 (List.mem_of_getElem? (i := 2) rfl) (sub_1 (List.mem_of_getElem? (i := 3) rfl) (sub_1 (List.mem_of_getElem? (i := 4) rfl) sub_0)))))
      have h11 : Iv (-1) 40 r10 := fs9.1
      refine lv_iconst (v := (-1)) hx hb dX9_met_37 (by decide) ?_
      refine lv_icmp_ne (tgt := 45) hx hb dX9_met_38 (by decide) (fun c12 => ?_) (fun c12 => ?_)
      · skip
        have h13 : Iv 0 40 r10 := ne_lo h11 (show ¬ r10 = (-1) from c12) (by decide) (by decide)
        refine lv_aload_n hx hb dX9_met_45 rfl (lv_at hl 0 rfl) ?_
        refine va_get (D := D) (ci := 9) (v := .ref (a 119)) (C := RX9) (T := TX9) (N := 11) hx hb hT in_X9 hown hK hP 0 cw_0 rfl 6 (by decide) (hT _ t457) (fun _ h9 => h9) rfl dX9_met_46 ?_
        refine va_get (D := D) (ci := 5) (v := .ref (a 123)) (C := RX5) (T := TX5) (N := 5) hx hb hT in_X5 hown hK hP 119 cw_119 rfl 3 (by decide) (hT _ t180) (fun _ h9 => h9) rfl dX9_met_49 ?_
        refine lv_iload_n hx hb dX9_met_52 rfl (lv_at hl 1 rfl) ?_
        refine va_iald hx hb hK hP 123 0 cw_123 rfl (iv_in h3 (by decide) (by decide)) dX9_met_53 ?_
        refine lv_topi (fun z14 ez14 => ?_)
        have h15 : Iv 0 5 z14 := by rw [ez14]; exact (rb_123 hBs9 (vp_in_lt (iv_in h3 (by decide) (by decide))))
        rw [hQ]
        exact W.iret (v := z14) hx hb hr (fun t ht hW => ⟨⟨z14, s9, rfl, ⟨hBs9, hFs9, ⟨(iv_mono (c := (-2)) (d := 5) h15 (by decide) (by decide)), trivial⟩⟩, by rw [ht]; exact hP, va_K.moved hW.alike (hK.sub (tys' := []) [] rfl), by rw [hAe]; exact hD⟩, by rw [hAe]; exact hS.F ht⟩) hS.2.2 dX9_met_54
      · skip
        have h16 : Iv (-1) (-1) r10 := eq_l c12 (iv_c (by decide) : Iv (-1) (-1) (-1))
        refine lv_iconst (v := (-1)) hx hb dX9_met_41 (by decide) ?_
        refine lv_goto (tgt := 54) hx hb dX9_met_42 (by decide) ?_
        rw [hQ]
        exact W.iret (v := (-1)) hx hb hr (fun t ht hW => ⟨⟨(-1), s9, rfl, ⟨hBs9, hFs9, ⟨(iv_mono (c := (-2)) (d := 5) (iv_c (by decide) : Iv (-1) (-1) (-1)) (by decide) (by decide)), trivial⟩⟩, by rw [ht]; exact hP, va_K.moved hW.alike (hK.sub (tys' := []) [] rfl), by rw [hAe]; exact hD⟩, by rw [hAe]; exact hS.F ht⟩) hS.2.2 dX9_met_54
    · skip
      have g17 := g9
      refine lv_if_ne (tgt := 31) hx hb dX9_met_25 (by decide) (fun c18 => ?_) (fun c18 => ?_)
      · first | exact absurd c18 (by decide) | exact absurd (by decide) c18
      refine lv_bipush (v := (-2)) hx hb dX9_met_28 (by decide) ?_
      rw [hQ]
      exact W.iret (v := (-2)) hx hb hr (fun t ht hW => ⟨⟨(-2), st, rfl, ⟨hB, fr_rf, ⟨(iv_mono (c := (-2)) (d := 5) (iv_c (by decide) : Iv (-2) (-2) (-2)) (by decide) (by decide)), trivial⟩⟩, by rw [ht]; exact hP, va_K.moved hW.alike (hK.sub (tys' := []) [] rfl), by rw [hAe]; exact hD⟩, by rw [hAe]; exact hS.F ht⟩) hS.2.2 dX9_met_30
  · skip
    have g19 := g9
    refine lv_if_eq (tgt := 28) hx hb dX9_met_11 (by decide) (fun c20 => ?_) (fun c20 => ?_)
    rotate_left
    · first | exact absurd c20 (by decide) | exact absurd (by decide) c20
    refine lv_bipush (v := (-2)) hx hb dX9_met_28 (by decide) ?_
    rw [hQ]
    exact W.iret (v := (-2)) hx hb hr (fun t ht hW => ⟨⟨(-2), st, rfl, ⟨hB, fr_rf, ⟨(iv_mono (c := (-2)) (d := 5) (iv_c (by decide) : Iv (-2) (-2) (-2)) (by decide) (by decide)), trivial⟩⟩, by rw [ht]; exact hP, va_K.moved hW.alike (hK.sub (tys' := []) [] rfl), by rw [hAe]; exact hD⟩, by rw [hAe]; exact hS.F ht⟩) hS.2.2 dX9_met_30
