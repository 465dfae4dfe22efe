set_option maxHeartbeats 4000000 in
set_option maxRecDepth 100000 in
theorem s_X9_follow (l : Launch) (D : va_G) (k : Nat → ClassId) (a : Nat → Nat) (st : CT) (sl : CL) (p0 : Int32) (p1 : Int32) (sz : Nat) (hB : CB st)  : Met l yX9_follow (.code yX9_follow cX9_follow 7 (some .int) :: TB) (rmw 6 0 0) (va_Pc [.ref (a 0), .int p0, .int p1] (PW D k sz (CWS k a st sl))) (QI D (S := CT) (fun r u => CB u ∧ FR [120, 121, 122, 123, 124, 125] st u ∧ (Iv (-6) 0 r ∧ (True))) (fun u => CWS k a u sl) (fun _ => []) (CWS k a st sl) sz) 0 0 (va_A (CWS k a st sl) sz) := by
  refine Met.ofW (cc := cX9_follow) (maxL := 7) (ret := (some .int)) (by decide) rfl ?_
  intro p e s m args below meth c s₁ B hml hv
  obtain ⟨rfl, hsz, hP, hK, hD0, hN⟩ := hv
  have hx := B.exec
  have hb := B.bytes
  have hr := B.returns
  have hT : ∀ w9 ∈ TB, w9.before ([.ref (a 0), .int p0, .int p1] : List Value).toArray s = true := fun w9 h => atoms_spec (ws := .code yX9_follow cX9_follow 7 (some .int) :: TB) B.pre w9 (List.mem_cons_of_mem _ h)
  have hown : s.vm.findClass RX9 = some m.cls := findClass_of_methodNamed B.named
  have S : CallFix p m c cX9_follow 7 s _ TB RX9 := ⟨hx, hb, hml, hown, hT⟩
  subst hsz
  have hD := hD0.self (sz := s.heap.size)
  generalize hAe : va_A (CWS k a st sl) s.heap.size = A at hD ⊢
  have hA : ∀ q : Nat, s.heap.size ≤ q → A q := fun q h => by rw [← hAe]; exact Or.inr h
  have hS : va_S A s.heap s.heap [] := va_S.rf
  have hl := lv_entry ([.ref (a 0), .int p0, .int p1]) (n := 7) (Nat.le_of_ble_eq_true rfl)
  rw [lg_entry_eq]
  generalize (lg_sl ([.ref (a 0), .int p0, .int p1]) ++ List.replicate (7 - (lg_sl ([.ref (a 0), .int p0, .int p1])).length) Slot.unset).toArray = ls at hl ⊢
  have hl : lv_has ls 7 [(0, .ref (a 0)), (1, .int p0), (2, .int p1)] := hl
  refine nameQ (fun Q hQ => ?_)
  refine lv_aload_n hx hb dX9_follow_0 rfl (lv_at hl 0 rfl) ?_
  refine va_get (D := D) (ci := 9) (v := .ref (a 111)) (C := RX9) (T := TX9) (N := 11) hx hb hT in_X9 hown hK hP 0 cw_0 rfl 5 (by decide) (hT _ t456) (fun _ h9 => h9) rfl dX9_follow_1 ?_
  refine lv_iload_n hx hb dX9_follow_4 rfl (lv_at hl 1 rfl) ?_
  refine ro_V (As := [.int p0]) (rest := []) S (s_X4_isSlot l D k a st sl  p0 _  hB  ) lkX9_238 ok_X4_isSlot ⟨rfl, rfl, Nat.le_of_ble_eq_true rfl, Nat.le_of_ble_eq_true rfl⟩ (pw_V (ci := 4) (q0 := 111) hK hN rfl cw_111 hP (hD.weaken (fun _ _ _ _ => trivial))) rfl hl.1 rfl (Nat.le_of_ble_eq_true rfl) ⟨Nat.zero_le _, Nat.zero_le _⟩ dX9_follow_5 (fun r1 er1 => ?_)
  rcases er1 with ⟨rfl, g9⟩ | ⟨rfl, g9⟩
  · skip
    have g2 := g9
    have h3 : Iv 0 3 p0 := g2.1
    refine lv_if_eq (tgt := 25) hx hb dX9_follow_8 (by decide) (fun c4 => ?_) (fun c4 => ?_)
    · first | exact absurd c4 (by decide) | exact absurd (by decide) c4
    refine lv_aload_n hx hb dX9_follow_11 rfl (lv_at hl 0 rfl) ?_
    refine va_get (D := D) (ci := 9) (v := .ref (a 17)) (C := RX9) (T := TX9) (N := 11) hx hb hT in_X9 hown hK hP 0 cw_0 rfl 2 (by decide) (hT _ t453) (fun _ h9 => h9) rfl dX9_follow_12 ?_
    refine va_get (D := D) (ci := 8) (v := .ref (a 18)) (C := RX8) (T := TX8) (N := 6) hx hb hT in_X8 hown hK hP 17 cw_17 rfl 0 (by decide) (hT _ t312) (fun _ h9 => h9) rfl dX9_follow_15 ?_
    refine lv_iload_n hx hb dX9_follow_18 rfl (lv_at hl 2 rfl) ?_
    refine ro_V (As := [.int p1]) (rest := []) S (s_X1_isCart l D k a st sl  p1 _  hB  ) lkX9_147 ok_X1_isCart ⟨rfl, rfl, Nat.le_of_ble_eq_true rfl, Nat.le_of_ble_eq_true rfl⟩ (pw_V (ci := 1) (q0 := 18) hK hN rfl cw_18 hP (hD.weaken (fun _ _ _ _ => trivial))) rfl hl.1 rfl (Nat.le_of_ble_eq_true rfl) ⟨Nat.zero_le _, Nat.zero_le _⟩ dX9_follow_19 (fun r5 er5 => ?_)
    rcases er5 with ⟨rfl, g9⟩ | ⟨rfl, g9⟩
    · skip
      have g6 := g9
      have h7 : Iv 0 2 p1 := g6.1
      refine lv_if_ne (tgt := 28) hx hb dX9_follow_22 (by decide) (fun c8 => ?_) (fun c8 => ?_)
      rotate_left
      · first | exact absurd c8 (by decide) | exact absurd (by decide) c8
      refine lv_aload_n hx hb dX9_follow_28 rfl (lv_at hl 0 rfl) ?_
      refine va_get (D := D) (ci := 9) (v := .ref (a 111)) (C := RX9) (T := TX9) (N := 11) hx hb hT in_X9 hown hK hP 0 cw_0 rfl 5 (by decide) (hT _ t456) (fun _ h9 => h9) rfl dX9_follow_29 ?_
      refine lv_iload_n hx hb dX9_follow_32 rfl (lv_at hl 1 rfl) ?_
      refine ro_V (As := [.int p0]) (rest := []) S (s_X4_hasRow l D k a st sl  p0 _  hB h3 ) lkX9_241 ok_X4_hasRow ⟨rfl, rfl, Nat.le_of_ble_eq_true rfl, Nat.le_of_ble_eq_true rfl⟩ (pw_V (ci := 4) (q0 := 111) hK hN rfl cw_111 hP (hD.weaken (fun _ _ _ _ => trivial))) rfl hl.1 rfl (Nat.le_of_ble_eq_true rfl) ⟨Nat.zero_le _, Nat.zero_le _⟩ dX9_follow_33 (fun r9 er9 => ?_)
      rcases er9 with ⟨rfl, g9⟩ | ⟨rfl, g9⟩
      · skip
        have g10 := g9
        have k11 := g10
        refine lv_if_ne (tgt := 42) hx hb dX9_follow_36 (by decide) (fun c12 => ?_) (fun c12 => ?_)
        rotate_left
        · first | exact absurd c12 (by decide) | exact absurd (by decide) c12
        refine lv_aload_n hx hb dX9_follow_42 rfl (lv_at hl 0 rfl) ?_
        refine va_get (D := D) (ci := 9) (v := .ref (a 111)) (C := RX9) (T := TX9) (N := 11) hx hb hT in_X9 hown hK hP 0 cw_0 rfl 5 (by decide) (hT _ t456) (fun _ h9 => h9) rfl dX9_follow_43 ?_
        refine va_get (D := D) (ci := 4) (v := .ref (a 113)) (C := RX4) (T := TX4) (N := 3) hx hb hT in_X4 hown hK hP 111 cw_111 rfl 1 (by decide) (hT _ t346) (fun _ h9 => h9) rfl dX9_follow_46 ?_
        refine lv_iload_n hx hb dX9_follow_49 rfl (lv_at hl 1 rfl) ?_
        refine va_iald hx hb hK hP 113 0 cw_113 rfl (iv_in h3 (by decide) (by decide)) dX9_follow_50 ?_
        refine lv_topi (fun z13 ez13 => ?_)
        have h14 : Iv 0 60 z13 := by rw [ez13]; exact (rb_113 hB (vp_in_lt (iv_in h3 (by decide) (by decide))))
        refine lv_istore_n (lv' := [(3, .int z13), (0, .ref (a 0)), (1, .int p0), (2, .int p1)]) hx hb dX9_follow_51 rfl hl (by decide) rfl (fun ls hl => ?_)
        refine lv_iconst (v := 0) hx hb dX9_follow_52 (by decide) ?_
        refine lv_istore (lv' := [(4, .int 0), (3, .int z13), (0, .ref (a 0)), (1, .int p0), (2, .int p1)]) hx hb dX9_follow_53 hl (by decide) rfl (fun ls hl => ?_)
        have lp55 : ∀ (n9_55 : Nat) (v4_55 : Int32) (ls : Array Slot), Iv 0 60 v4_55 → lv_has ls 7 [(4, .int v4_55), (3, .int z13), (0, .ref (a 0)), (1, .int p0), (2, .int p1)] → (60 : Int) - v4_55.toInt < (n9_55 : Int) → W p l e (rmw 6 0 0) s m ([.ref (a 0), .int p0, .int p1] : List Value).toArray below meth c s.heap [] 0 0 Q (F0 m 55 ls []) := by
          clear hl
          intro n9_55
          induction n9_55 with
          | zero =>
            intro v4_55 ls iv4_55 hl hm55
            exact (fu_0 iv4_55 hm55).elim
          | succ n9_55 ih55 =>
            intro v4_55 ls iv4_55 hl hm55
            refine lv_iload hx hb dX9_follow_55 (lv_at hl 0 rfl) ?_
            refine lv_iload_n hx hb dX9_follow_57 rfl (lv_at hl 1 rfl) ?_
            refine lv_icmp_ge (tgt := 110) hx hb dX9_follow_58 (by decide) (fun c1235 => ?_) (fun c1235 => ?_)
            · skip
              have n1236 : z13.toInt ≤ v4_55.toInt := (i_le c1235)
              refine lv_aload_n hx hb dX9_follow_110 rfl (lv_at hl 2 rfl) ?_
              refine va_get (D := D) (ci := 9) (v := .ref (a 119)) (C := RX9) (T := TX9) (N := 11) hx hb hT in_X9 hown hK hP 0 cw_0 rfl 6 (by decide) (hT _ t457) (fun _ h9 => h9) rfl dX9_follow_111 ?_
              refine lv_aload_n hx hb dX9_follow_114 rfl (lv_at hl 2 rfl) ?_
              refine va_get (D := D) (ci := 9) (v := .ref (a 17)) (C := RX9) (T := TX9) (N := 11) hx hb hT in_X9 hown hK hP 0 cw_0 rfl 2 (by decide) (hT _ t453) (fun _ h9 => h9) rfl dX9_follow_115 ?_
              refine va_get (D := D) (ci := 8) (v := .ref (a 31)) (C := RX8) (T := TX8) (N := 6) hx hb hT in_X8 hown hK hP 17 cw_17 rfl 1 (by decide) (hT _ t314) (fun _ h9 => h9) rfl dX9_follow_118 ?_
              refine ca_v hP hD hS hA (fun hDc => run_V (mc := 0) (ms := 0) (As := [.ref (a 31)]) (rest := []) S (s_X5_copy l D k a st sl 119 31  _ (by decide) (by decide) hB  ) lkX9_253 ok_X5_copy ⟨rfl, rfl, Nat.le_of_ble_eq_true rfl, Nat.le_of_ble_eq_true rfl⟩ (pw_V (ci := 5) (q0 := 119) hK hN rfl cw_119 hP hDc) rfl hl.1 rfl (Nat.le_of_ble_eq_true rfl) ⟨Nat.zero_le _, Nat.zero_le _⟩ dX9_follow_121) (fun s1237 H9 locs9 hs1237 hP9 hD9 hS9 => ?_)
              clear hP hD hS
              have hS := hS9
              have hP := hP9
              have hD := hD9
              clear hP9 hD9 hS9
              obtain ⟨hBs1237, gs1237, fs1237⟩ := hs1237
              have hFs1237 : FR [120, 121, 122, 123, 124, 125] st s1237 := fr_ca fr_rf gs1237 (sub_1 (List.mem_of_getElem? (i := 0) rfl) (sub_1 (List.mem_of_getElem? (i := 1) rfl) (sub_1 (List.mem_of_getElem? (i := 2) rfl) (sub_1 (List.mem_of_getElem? (i := 3) rfl) (sub_1 (List.mem_of_getElem? (i := 4) rfl) sub_0)))))
              refine lv_aload_n hx hb dX9_follow_124 rfl (lv_at hl 2 rfl) ?_
              refine va_get (D := D) (ci := 9) (v := .ref (a 125)) (C := RX9) (T := TX9) (N := 11) hx hb hT in_X9 hown hK hP 0 cw_0 rfl 7 (by decide) (hT _ t458) (fun _ h9 => h9) rfl dX9_follow_125 ?_
              refine lv_aload_n hx hb dX9_follow_128 rfl (lv_at hl 2 rfl) ?_
              refine va_get (D := D) (ci := 9) (v := .ref (a 119)) (C := RX9) (T := TX9) (N := 11) hx hb hT in_X9 hown hK hP 0 cw_0 rfl 6 (by decide) (hT _ t457) (fun _ h9 => h9) rfl dX9_follow_129 ?_
              refine lv_iload_n hx hb dX9_follow_132 rfl (lv_at hl 4 rfl) ?_
              refine ca_v hP hD hS hA (fun hDc => run_V (mc := 0) (ms := 0) (As := [.ref (a 119), .int p1]) (rest := []) S (s_X7_begin l D k a s1237 sl  p1 _  hBs1237 h7 ) lkX9_257 ok_X7_begin ⟨rfl, rfl, Nat.le_of_ble_eq_true rfl, Nat.le_of_ble_eq_true rfl⟩ (pw_V (ci := 7) (q0 := 125) hK hN rfl cw_125 hP hDc) rfl hl.1 rfl (Nat.le_of_ble_eq_true rfl) ⟨Nat.zero_le _, Nat.zero_le _⟩ dX9_follow_133) (fun s1239 H9 locs9 hs1239 hP9 hD9 hS9 => ?_)
              clear hP hD hS
              have hS := hS9
              have hP := hP9
              have hD := hD9
              clear hP9 hD9 hS9
              obtain ⟨hBs1239, gs1239, fs1239⟩ := hs1239
              have hFs1239 : FR [120, 121, 122, 123, 124, 125] st s1239 := fr_ca hFs1237 gs1239 (sub_1 (List.mem_of_getElem? (i := 5) rfl) sub_0)
              refine lv_iconst (v := 1) hx hb dX9_follow_136 (by decide) ?_
              refine lv_istore (lv' := [(4, .int 1), (3, .int z13), (0, .ref (a 0)), (1, .int p0), (2, .int p1)]) hx hb dX9_follow_137 hl (by decide) rfl (fun ls hl => ?_)
              refine lv_iconst (v := 0) hx hb dX9_follow_139 (by decide) ?_
              refine lv_istore (lv' := [(5, .int 0), (4, .int 1), (3, .int z13), (0, .ref (a 0)), (1, .int p0), (2, .int p1)]) hx hb dX9_follow_140 hl (by decide) rfl (fun ls hl => ?_)
              have lp142 : ∀ (n9_142 : Nat) (v5_142 : Int32) (v4_142 : Int32) (t142 : CT) (H9 : Heap) (locs9 : List Loc) (ls : Array Slot), Iv 0 60 v5_142 → Iv 0 1 v4_142 → CB t142 → FR [120, 121, 123, 124, 125] s1239 t142 → va_P D vwCl (CWS k a t142 sl) H9 → va_D A (CWS k a t142 sl) → va_S A s.heap H9 locs9 → lv_has ls 7 [(5, .int v5_142), (4, .int v4_142), (3, .int z13), (0, .ref (a 0)), (1, .int p0), (2, .int p1)] → (60 : Int) - v5_142.toInt < (n9_142 : Int) → W p l e (rmw 6 0 0) s m ([.ref (a 0), .int p0, .int p1] : List Value).toArray below meth c H9 locs9 0 0 Q (F0 m 142 ls []) := by
                clear hl hP hD hS
                intro n9_142
                induction n9_142 with
                | zero =>
                  intro v5_142 v4_142 t142 H9 locs9 ls iv5_142 iv4_142 hBt142 gt142 hP hD hS hl hm142
                  exact (fu_0 iv5_142 hm142).elim
                | succ n9_142 ih142 =>
                  intro v5_142 v4_142 t142 H9 locs9 ls iv5_142 iv4_142 hBt142 gt142 hP hD hS hl hm142
                  have hFt142 : FR [120, 121, 122, 123, 124, 125] st t142 := fr_ca hFs1239 gt142 (sub_1 (List.mem_of_getElem? (i := 0) rfl) (sub_1 (List.mem_of_getElem? (i := 1) rfl) (sub_1 (List.mem_of_getElem? (i := 3) rfl) (sub_1 (List.mem_of_getElem? (i := 4) rfl) (sub_1 (List.mem_of_getElem? (i := 5) rfl) sub_0)))))
                  refine lv_iload hx hb dX9_follow_142 (lv_at hl 0 rfl) ?_
                  refine lv_iload_n hx hb dX9_follow_144 rfl (lv_at hl 2 rfl) ?_
                  refine lv_icmp_ge (tgt := 193) hx hb dX9_follow_145 (by decide) (fun c2359 => ?_) (fun c2359 => ?_)
                  · skip
                    have n2360 : z13.toInt ≤ v5_142.toInt := (i_le c2359)
                    refine lv_iconst (v := 0) hx hb dX9_follow_193 (by decide) ?_
                    rw [hQ]
                    exact W.iret (v := 0) hx hb hr (fun t ht hW => ⟨⟨0, t142, rfl, ⟨hBt142, hFt142, ⟨(iv_mono (c := (-6)) (d := 0) (iv_c (by decide) : Iv 0 0 0) (by decide) (by decide)), trivial⟩⟩, by rw [ht]; exact hP, va_K.moved hW.alike (hK.sub (tys' := []) [] rfl), by rw [hAe]; exact hD⟩, by rw [hAe]; exact hS.F ht⟩) hS.2.2 dX9_follow_194
                  · skip
                    have n2361 : v5_142.toInt < z13.toInt := (i_nle c2359)
                    have h2362 : Iv 0 59 v5_142 := lt_l iv5_142 n2361 h14 (by decide)
                    have h2363 : Iv 1 60 z13 := lt_r iv5_142 n2361 h14 (by decide)
                    refine lv_iload hx hb dX9_follow_148 (lv_at hl 1 rfl) ?_
                    refine lv_if_eq (tgt := 193) hx hb dX9_follow_150 (by decide) (fun c2364 => ?_) (fun c2364 => ?_)
                    · skip
                      have h2365 : Iv 0 0 v4_142 := eq_l c2364 (iv_c (by decide) : Iv 0 0 0)
                      refine lv_iconst (v := 0) hx hb dX9_follow_193 (by decide) ?_
                      rw [hQ]
                      exact W.iret (v := 0) hx hb hr (fun t ht hW => ⟨⟨0, t142, rfl, ⟨hBt142, hFt142, ⟨(iv_mono (c := (-6)) (d := 0) (iv_c (by decide) : Iv 0 0 0) (by decide) (by decide)), trivial⟩⟩, by rw [ht]; exact hP, va_K.moved hW.alike (hK.sub (tys' := []) [] rfl), by rw [hAe]; exact hD⟩, by rw [hAe]; exact hS.F ht⟩) hS.2.2 dX9_follow_194
                    · skip
                      have h2366 : Iv 1 1 v4_142 := ne_lo iv4_142 c2364 (by decide) (by decide)
                      refine lv_aload_n hx hb dX9_follow_153 rfl (lv_at hl 3 rfl) ?_
                      refine va_get (D := D) (ci := 9) (v := .ref (a 125)) (C := RX9) (T := TX9) (N := 11) hx hb hT in_X9 hown hK hP 0 cw_0 rfl 7 (by decide) (hT _ t458) (fun _ h9 => h9) rfl dX9_follow_154 ?_
                      refine lv_aload_n hx hb dX9_follow_157 rfl (lv_at hl 3 rfl) ?_
                      refine va_get (D := D) (ci := 9) (v := .ref (a 17)) (C := RX9) (T := TX9) (N := 11) hx hb hT in_X9 hown hK hP 0 cw_0 rfl 2 (by decide) (hT _ t453) (fun _ h9 => h9) rfl dX9_follow_158 ?_
                      refine va_get (D := D) (ci := 8) (v := .ref (a 18)) (C := RX8) (T := TX8) (N := 6) hx hb hT in_X8 hown hK hP 17 cw_17 rfl 0 (by decide) (hT _ t312) (fun _ h9 => h9) rfl dX9_follow_161 ?_
                      refine lv_aload_n hx hb dX9_follow_164 rfl (lv_at hl 3 rfl) ?_
                      refine va_get (D := D) (ci := 9) (v := .ref (a 119)) (C := RX9) (T := TX9) (N := 11) hx hb hT in_X9 hown hK hP 0 cw_0 rfl 6 (by decide) (hT _ t457) (fun _ h9 => h9) rfl dX9_follow_165 ?_
                      refine lv_iload_n hx hb dX9_follow_168 rfl (lv_at hl 5 rfl) ?_
                      refine lv_aload_n hx hb dX9_follow_169 rfl (lv_at hl 3 rfl) ?_
                      refine va_get (D := D) (ci := 9) (v := .ref (a 111)) (C := RX9) (T := TX9) (N := 11) hx hb hT in_X9 hown hK hP 0 cw_0 rfl 5 (by decide) (hT _ t456) (fun _ h9 => h9) rfl dX9_follow_170 ?_
                      refine va_get (D := D) (ci := 4) (v := .ref (a 114)) (C := RX4) (T := TX4) (N := 3) hx hb hT in_X4 hown hK hP 111 cw_111 rfl 2 (by decide) (hT _ t348) (fun _ h9 => h9) rfl dX9_follow_173 ?_
                      refine lv_iload_n hx hb dX9_follow_176 rfl (lv_at hl 4 rfl) ?_
                      rcases iv_ca4 h3 0 1 2 3 (by decide) (by decide) (by decide) (by decide) (by decide) with q9 | q9 | q9 | q9
                      · refine k_top (y := 0) q9 ?_
                        have h2367 : Iv 0 0 p0 := (by rw [q9]; exact iv_c (by decide))
                        have q2368 := q9
                        refine a_aldl hx hb hK hP 114 6 cw_114 rfl (by unfold vp_in; decide) dX9_follow_177 ?_
                        refine W.eq (g2 := F0 m 178 ls [.ref (a 115), .int p1, .ref (a 119), .ref (a 18), .ref (a 125)]) rfl ?_
                        refine lv_iload hx hb dX9_follow_178 (lv_at hl 0 rfl) ?_
                        refine va_lald hx hb hK hP 115 2 cw_115 rfl (iv_in h2362 (by decide) (by decide)) dX9_follow_180 ?_
                        refine lv_topl (fun z2369 ez2369 => ?_)
                        refine lv_l2i hx hb dX9_follow_181 rfl ?_
                        refine lv_topi (fun z2370 ez2370 => ?_)
                        refine ca_i hP hD hS hA (fun hDc => run_V (mc := 0) (ms := 0) (As := [.ref (a 18), .ref (a 119), .int p1, .int z2370]) (rest := []) S (s_X7_goOn l D k a t142 sl  p1 z2370 _  hBt142 h7 ) lkX9_260 ok_X7_goOn ⟨rfl, rfl, Nat.le_of_ble_eq_true rfl, Nat.le_of_ble_eq_true rfl⟩ (pw_V (ci := 7) (q0 := 125) hK hN rfl cw_125 hP hDc) rfl hl.1 rfl (Nat.le_of_ble_eq_true rfl) ⟨Nat.zero_le _, Nat.zero_le _⟩ dX9_follow_182) (fun r2372 s2371 H9 locs9 hs2371 hP9 hD9 hS9 => ?_)
                        clear hP hD hS
                        have hS := hS9
                        have hP := hP9
                        have hD := hD9
                        clear hP9 hD9 hS9
                        obtain ⟨hBs2371, gs2371, fs2371⟩ := hs2371
                        have hFs2371 : FR [120, 121, 122, 123, 124, 125] st s2371 := fr_ca hFt142 gs2371 (sub_1 (List.mem_of_getElem? (i := 0) rfl) (sub_1 (List.mem_of_getElem? (i := 1) rfl) (sub_1 (List.mem_of_getElem? (i := 3) rfl) (sub_1 (List.mem_of_getElem? (i := 4) rfl) (sub_1 (List.mem_of_getElem? (i := 5) rfl) sub_0)))))
                        rcases fs2371 with ⟨rfl, g9⟩ | ⟨rfl, g9⟩
                        · skip
                          have g2373 := g9
                          refine lv_istore (lv' := [(4, .int 1), (5, .int v5_142), (3, .int z13), (0, .ref (a 0)), (1, .int p0), (2, .int p1)]) hx hb dX9_follow_185 hl (by decide) rfl (fun ls hl => ?_)
                          obtain ⟨z2374, ez2374⟩ : ∃ z9 : Int32, z9 = v5_142 + Int32.ofInt 1 := ⟨_, rfl⟩
                          have h2375 : Iv 1 60 z2374 := iv_inc ez2374 h2362 (by decide) (by decide) (by decide) (by decide) (by decide) (by decide)
                          refine lv_iinc (v := z2374) (lv' := [(5, .int z2374), (4, .int 1), (3, .int z13), (0, .ref (a 0)), (1, .int p0), (2, .int p1)]) hx hb dX9_follow_187 hl (k := 1) rfl ez2374.symm (by decide) rfl (fun ls hl => ?_)
                          refine lv_goto (tgt := 142) hx hb dX9_follow_190 (by decide) ?_
                          exact ih142 z2374 1 s2371 _ _ _ (iv_mono (c := 0) (d := 60) h2375 (by decide) (by decide)) (iv_mono (c := 0) (d := 1) (iv_c (by decide) : Iv 1 1 1) (by decide) (by decide)) hBs2371 (fr_ca gt142 gs2371 (sub_1 (List.mem_of_getElem? (i := 0) rfl) (sub_1 (List.mem_of_getElem? (i := 1) rfl) (sub_1 (List.mem_of_getElem? (i := 2) rfl) (sub_1 (List.mem_of_getElem? (i := 3) rfl) (sub_1 (List.mem_of_getElem? (i := 4) rfl) sub_0)))))) hP hD hS (lv_sub hl [0, 1, 2, 3, 4, 5] rfl) (fu_s (lo := 0) (ti_inc ez2374 h2362 (by decide) (by decide) (by decide) (by decide)) (by decide) hm142)
                        · skip
                          have g2376 := g9
                          refine lv_istore (lv' := [(4, .int 0), (5, .int v5_142), (3, .int z13), (0, .ref (a 0)), (1, .int p0), (2, .int p1)]) hx hb dX9_follow_185 hl (by decide) rfl (fun ls hl => ?_)
                          obtain ⟨z2377, ez2377⟩ : ∃ z9 : Int32, z9 = v5_142 + Int32.ofInt 1 := ⟨_, rfl⟩
                          have h2378 : Iv 1 60 z2377 := iv_inc ez2377 h2362 (by decide) (by decide) (by decide) (by decide) (by decide) (by decide)
                          refine lv_iinc (v := z2377) (lv' := [(5, .int z2377), (4, .int 0), (3, .int z13), (0, .ref (a 0)), (1, .int p0), (2, .int p1)]) hx hb dX9_follow_187 hl (k := 1) rfl ez2377.symm (by decide) rfl (fun ls hl => ?_)
                          refine lv_goto (tgt := 142) hx hb dX9_follow_190 (by decide) ?_
                          exact ih142 z2377 0 s2371 _ _ _ (iv_mono (c := 0) (d := 60) h2378 (by decide) (by decide)) (iv_mono (c := 0) (d := 1) (iv_c (by decide) : Iv 0 0 0) (by decide) (by decide)) hBs2371 (fr_ca gt142 gs2371 (sub_1 (List.mem_of_getElem? (i := 0) rfl) (sub_1 (List.mem_of_getElem? (i := 1) rfl) (sub_1 (List.mem_of_getElem? (i := 2) rfl) (sub_1 (List.mem_of_getElem? (i := 3) rfl) (sub_1 (List.mem_of_getElem? (i := 4) rfl) sub_0)))))) hP hD hS (lv_sub hl [0, 1, 2, 3, 4, 5] rfl) (fu_s (lo := 0) (ti_inc ez2377 h2362 (by decide) (by decide) (by decide) (by decide)) (by decide) hm142)
                      · refine k_top (y := 1) q9 ?_
                        have h2379 : Iv 1 1 p0 := (by rw [q9]; exact iv_c (by decide))
                        have q2380 := q9
                        refine a_aldl hx hb hK hP 114 6 cw_114 rfl (by unfold vp_in; decide) dX9_follow_177 ?_
                        refine W.eq (g2 := F0 m 178 ls [.ref (a 116), .int p1, .ref (a 119), .ref (a 18), .ref (a 125)]) rfl ?_
                        refine lv_iload hx hb dX9_follow_178 (lv_at hl 0 rfl) ?_
                        refine va_lald hx hb hK hP 116 2 cw_116 rfl (iv_in h2362 (by decide) (by decide)) dX9_follow_180 ?_
                        refine lv_topl (fun z2381 ez2381 => ?_)
                        refine lv_l2i hx hb dX9_follow_181 rfl ?_
                        refine lv_topi (fun z2382 ez2382 => ?_)
                        refine ca_i hP hD hS hA (fun hDc => run_V (mc := 0) (ms := 0) (As := [.ref (a 18), .ref (a 119), .int p1, .int z2382]) (rest := []) S (s_X7_goOn l D k a t142 sl  p1 z2382 _  hBt142 h7 ) lkX9_260 ok_X7_goOn ⟨rfl, rfl, Nat.le_of_ble_eq_true rfl, Nat.le_of_ble_eq_true rfl⟩ (pw_V (ci := 7) (q0 := 125) hK hN rfl cw_125 hP hDc) rfl hl.1 rfl (Nat.le_of_ble_eq_true rfl) ⟨Nat.zero_le _, Nat.zero_le _⟩ dX9_follow_182) (fun r2384 s2383 H9 locs9 hs2383 hP9 hD9 hS9 => ?_)
                        clear hP hD hS
                        have hS := hS9
                        have hP := hP9
                        have hD := hD9
                        clear hP9 hD9 hS9
                        obtain ⟨hBs2383, gs2383, fs2383⟩ := hs2383
                        have hFs2383 : FR [120, 121, 122, 123, 124, 125] st s2383 := fr_ca hFt142 gs2383 (sub_1 (List.mem_of_getElem? (i := 0) rfl) (sub_1 (List.mem_of_getElem? (i := 1) rfl) (sub_1 (List.mem_of_getElem? (i := 3) rfl) (sub_1 (List.mem_of_getElem? (i := 4) rfl) (sub_1 (List.mem_of_getElem? (i := 5) rfl) sub_0)))))
                        rcases fs2383 with ⟨rfl, g9⟩ | ⟨rfl, g9⟩
                        · skip
                          have g2385 := g9
                          refine lv_istore (lv' := [(4, .int 1), (5, .int v5_142), (3, .int z13), (0, .ref (a 0)), (1, .int p0), (2, .int p1)]) hx hb dX9_follow_185 hl (by decide) rfl (fun ls hl => ?_)
                          obtain ⟨z2386, ez2386⟩ : ∃ z9 : Int32, z9 = v5_142 + Int32.ofInt 1 := ⟨_, rfl⟩
                          have h2387 : Iv 1 60 z2386 := iv_inc ez2386 h2362 (by decide) (by decide) (by decide) (by decide) (by decide) (by decide)
                          refine lv_iinc (v := z2386) (lv' := [(5, .int z2386), (4, .int 1), (3, .int z13), (0, .ref (a 0)), (1, .int p0), (2, .int p1)]) hx hb dX9_follow_187 hl (k := 1) rfl ez2386.symm (by decide) rfl (fun ls hl => ?_)
                          refine lv_goto (tgt := 142) hx hb dX9_follow_190 (by decide) ?_
                          exact ih142 z2386 1 s2383 _ _ _ (iv_mono (c := 0) (d := 60) h2387 (by decide) (by decide)) (iv_mono (c := 0) (d := 1) (iv_c (by decide) : Iv 1 1 1) (by decide) (by decide)) hBs2383 (fr_ca gt142 gs2383 (sub_1 (List.mem_of_getElem? (i := 0) rfl) (sub_1 (List.mem_of_getElem? (i := 1) rfl) (sub_1 (List.mem_of_getElem? (i := 2) rfl) (sub_1 (List.mem_of_getElem? (i := 3) rfl) (sub_1 (List.mem_of_getElem? (i := 4) rfl) sub_0)))))) hP hD hS (lv_sub hl [0, 1, 2, 3, 4, 5] rfl) (fu_s (lo := 0) (ti_inc ez2386 h2362 (by decide) (by decide) (by decide) (by decide)) (by decide) hm142)
                        · skip
                          have g2388 := g9
                          refine lv_istore (lv' := [(4, .int 0), (5, .int v5_142), (3, .int z13), (0, .ref (a 0)), (1, .int p0), (2, .int p1)]) hx hb dX9_follow_185 hl (by decide) rfl (fun ls hl => ?_)
                          obtain ⟨z2389, ez2389⟩ : ∃ z9 : Int32, z9 = v5_142 + Int32.ofInt 1 := ⟨_, rfl⟩
                          have h2390 : Iv 1 60 z2389 := iv_inc ez2389 h2362 (by decide) (by decide) (by decide) (by decide) (by decide) (by decide)
                          refine lv_iinc (v := z2389) (lv' := [(5, .int z2389), (4, .int 0), (3, .int z13), (0, .ref (a 0)), (1, .int p0), (2, .int p1)]) hx hb dX9_follow_187 hl (k := 1) rfl ez2389.symm (by decide) rfl (fun ls hl => ?_)
                          refine lv_goto (tgt := 142) hx hb dX9_follow_190 (by decide) ?_
                          exact ih142 z2389 0 s2383 _ _ _ (iv_mono (c := 0) (d := 60) h2390 (by decide) (by decide)) (iv_mono (c := 0) (d := 1) (iv_c (by decide) : Iv 0 0 0) (by decide) (by decide)) hBs2383 (fr_ca gt142 gs2383 (sub_1 (List.mem_of_getElem? (i := 0) rfl) (sub_1 (List.mem_of_getElem? (i := 1) rfl) (sub_1 (List.mem_of_getElem? (i := 2) rfl) (sub_1 (List.mem_of_getElem? (i := 3) rfl) (sub_1 (List.mem_of_getElem? (i := 4) rfl) sub_0)))))) hP hD hS (lv_sub hl [0, 1, 2, 3, 4, 5] rfl) (fu_s (lo := 0) (ti_inc ez2389 h2362 (by decide) (by decide) (by decide) (by decide)) (by decide) hm142)
                      · refine k_top (y := 2) q9 ?_
                        have h2391 : Iv 2 2 p0 := (by rw [q9]; exact iv_c (by decide))
                        have q2392 := q9
                        refine a_aldl hx hb hK hP 114 6 cw_114 rfl (by unfold vp_in; decide) dX9_follow_177 ?_
                        refine W.eq (g2 := F0 m 178 ls [.ref (a 117), .int p1, .ref (a 119), .ref (a 18), .ref (a 125)]) rfl ?_
                        refine lv_iload hx hb dX9_follow_178 (lv_at hl 0 rfl) ?_
                        refine va_lald hx hb hK hP 117 2 cw_117 rfl (iv_in h2362 (by decide) (by decide)) dX9_follow_180 ?_
                        refine lv_topl (fun z2393 ez2393 => ?_)
                        refine lv_l2i hx hb dX9_follow_181 rfl ?_
                        refine lv_topi (fun z2394 ez2394 => ?_)
                        refine ca_i hP hD hS hA (fun hDc => run_V (mc := 0) (ms := 0) (As := [.ref (a 18), .ref (a 119), .int p1, .int z2394]) (rest := []) S (s_X7_goOn l D k a t142 sl  p1 z2394 _  hBt142 h7 ) lkX9_260 ok_X7_goOn ⟨rfl, rfl, Nat.le_of_ble_eq_true rfl, Nat.le_of_ble_eq_true rfl⟩ (pw_V (ci := 7) (q0 := 125) hK hN rfl cw_125 hP hDc) rfl hl.1 rfl (Nat.le_of_ble_eq_true rfl) ⟨Nat.zero_le _, Nat.zero_le _⟩ dX9_follow_182) (fun r2396 s2395 H9 locs9 hs2395 hP9 hD9 hS9 => ?_)
                        clear hP hD hS
                        have hS := hS9
                        have hP := hP9
                        have hD := hD9
                        clear hP9 hD9 hS9
                        obtain ⟨hBs2395, gs2395, fs2395⟩ := hs2395
                        have hFs2395 : FR [120, 121, 122, 123, 124, 125] st s2395 := fr_ca hFt142 gs2395 (sub_1 (List.mem_of_getElem? (i := 0) rfl) (sub_1 (List.mem_of_getElem? (i := 1) rfl) (sub_1 (List.mem_of_getElem? (i := 3) rfl) (sub_1 (List.mem_of_getElem? (i := 4) rfl) (sub_1 (List.mem_of_getElem? (i := 5) rfl) sub_0)))))
                        rcases fs2395 with ⟨rfl, g9⟩ | ⟨rfl, g9⟩
                        · skip
                          have g2397 := g9
                          refine lv_istore (lv' := [(4, .int 1), (5, .int v5_142), (3, .int z13), (0, .ref (a 0)), (1, .int p0), (2, .int p1)]) hx hb dX9_follow_185 hl (by decide) rfl (fun ls hl => ?_)
                          obtain ⟨z2398, ez2398⟩ : ∃ z9 : Int32, z9 = v5_142 + Int32.ofInt 1 := ⟨_, rfl⟩
                          have h2399 : Iv 1 60 z2398 := iv_inc ez2398 h2362 (by decide) (by decide) (by decide) (by decide) (by decide) (by decide)
                          refine lv_iinc (v := z2398) (lv' := [(5, .int z2398), (4, .int 1), (3, .int z13), (0, .ref (a 0)), (1, .int p0), (2, .int p1)]) hx hb dX9_follow_187 hl (k := 1) rfl ez2398.symm (by decide) rfl (fun ls hl => ?_)
                          refine lv_goto (tgt := 142) hx hb dX9_follow_190 (by decide) ?_
                          exact ih142 z2398 1 s2395 _ _ _ (iv_mono (c := 0) (d := 60) h2399 (by decide) (by decide)) (iv_mono (c := 0) (d := 1) (iv_c (by decide) : Iv 1 1 1) (by decide) (by decide)) hBs2395 (fr_ca gt142 gs2395 (sub_1 (List.mem_of_getElem? (i := 0) rfl) (sub_1 (List.mem_of_getElem? (i := 1) rfl) (sub_1 (List.mem_of_getElem? (i := 2) rfl) (sub_1 (List.mem_of_getElem? (i := 3) rfl) (sub_1 (List.mem_of_getElem? (i := 4) rfl) sub_0)))))) hP hD hS (lv_sub hl [0, 1, 2, 3, 4, 5] rfl) (fu_s (lo := 0) (ti_inc ez2398 h2362 (by decide) (by decide) (by decide) (by decide)) (by decide) hm142)
                        · skip
                          have g2400 := g9
                          refine lv_istore (lv' := [(4, .int 0), (5, .int v5_142), (3, .int z13), (0, .ref (a 0)), (1, .int p0), (2, .int p1)]) hx hb dX9_follow_185 hl (by decide) rfl (fun ls hl => ?_)
                          obtain ⟨z2401, ez2401⟩ : ∃ z9 : Int32, z9 = v5_142 + Int32.ofInt 1 := ⟨_, rfl⟩
                          have h2402 : Iv 1 60 z2401 := iv_inc ez2401 h2362 (by decide) (by decide) (by decide) (by decide) (by decide) (by decide)
                          refine lv_iinc (v := z2401) (lv' := [(5, .int z2401), (4, .int 0), (3, .int z13), (0, .ref (a 0)), (1, .int p0), (2, .int p1)]) hx hb dX9_follow_187 hl (k := 1) rfl ez2401.symm (by decide) rfl (fun ls hl => ?_)
                          refine lv_goto (tgt := 142) hx hb dX9_follow_190 (by decide) ?_
                          exact ih142 z2401 0 s2395 _ _ _ (iv_mono (c := 0) (d := 60) h2402 (by decide) (by decide)) (iv_mono (c := 0) (d := 1) (iv_c (by decide) : Iv 0 0 0) (by decide) (by decide)) hBs2395 (fr_ca gt142 gs2395 (sub_1 (List.mem_of_getElem? (i := 0) rfl) (sub_1 (List.mem_of_getElem? (i := 1) rfl) (sub_1 (List.mem_of_getElem? (i := 2) rfl) (sub_1 (List.mem_of_getElem? (i := 3) rfl) (sub_1 (List.mem_of_getElem? (i := 4) rfl) sub_0)))))) hP hD hS (lv_sub hl [0, 1, 2, 3, 4, 5] rfl) (fu_s (lo := 0) (ti_inc ez2401 h2362 (by decide) (by decide) (by decide) (by decide)) (by decide) hm142)
                      · refine k_top (y := 3) q9 ?_
                        have h2403 : Iv 3 3 p0 := (by rw [q9]; exact iv_c (by decide))
                        have q2404 := q9
                        refine a_aldl hx hb hK hP 114 6 cw_114 rfl (by unfold vp_in; decide) dX9_follow_177 ?_
                        refine W.eq (g2 := F0 m 178 ls [.ref (a 118), .int p1, .ref (a 119), .ref (a 18), .ref (a 125)]) rfl ?_
                        refine lv_iload hx hb dX9_follow_178 (lv_at hl 0 rfl) ?_
                        refine va_lald hx hb hK hP 118 2 cw_118 rfl (iv_in h2362 (by decide) (by decide)) dX9_follow_180 ?_
                        refine lv_topl (fun z2405 ez2405 => ?_)
                        refine lv_l2i hx hb dX9_follow_181 rfl ?_
                        refine lv_topi (fun z2406 ez2406 => ?_)
                        refine ca_i hP hD hS hA (fun hDc => run_V (mc := 0) (ms := 0) (As := [.ref (a 18), .ref (a 119), .int p1, .int z2406]) (rest := []) S (s_X7_goOn l D k a t142 sl  p1 z2406 _  hBt142 h7 ) lkX9_260 ok_X7_goOn ⟨rfl, rfl, Nat.le_of_ble_eq_true rfl, Nat.le_of_ble_eq_true rfl⟩ (pw_V (ci := 7) (q0 := 125) hK hN rfl cw_125 hP hDc) rfl hl.1 rfl (Nat.le_of_ble_eq_true rfl) ⟨Nat.zero_le _, Nat.zero_le _⟩ dX9_follow_182) (fun r2408 s2407 H9 locs9 hs2407 hP9 hD9 hS9 => ?_)
                        clear hP hD hS
                        have hS := hS9
                        have hP := hP9
                        have hD := hD9
                        clear hP9 hD9 hS9
                        obtain ⟨hBs2407, gs2407, fs2407⟩ := hs2407
                        have hFs2407 : FR [120, 121, 122, 123, 124, 125] st s2407 := fr_ca hFt142 gs2407 (sub_1 (List.mem_of_getElem? (i := 0) rfl) (sub_1 (List.mem_of_getElem? (i := 1) rfl) (sub_1 (List.mem_of_getElem? (i := 3) rfl) (sub_1 (List.mem_of_getElem? (i := 4) rfl) (sub_1 (List.mem_of_getElem? (i := 5) rfl) sub_0)))))
                        rcases fs2407 with ⟨rfl, g9⟩ | ⟨rfl, g9⟩
                        · skip
                          have g2409 := g9
                          refine lv_istore (lv' := [(4, .int 1), (5, .int v5_142), (3, .int z13), (0, .ref (a 0)), (1, .int p0), (2, .int p1)]) hx hb dX9_follow_185 hl (by decide) rfl (fun ls hl => ?_)
                          obtain ⟨z2410, ez2410⟩ : ∃ z9 : Int32, z9 = v5_142 + Int32.ofInt 1 := ⟨_, rfl⟩
                          have h2411 : Iv 1 60 z2410 := iv_inc ez2410 h2362 (by decide) (by decide) (by decide) (by decide) (by decide) (by decide)
                          refine lv_iinc (v := z2410) (lv' := [(5, .int z2410), (4, .int 1), (3, .int z13), (0, .ref (a 0)), (1, .int p0), (2, .int p1)]) hx hb dX9_follow_187 hl (k := 1) rfl ez2410.symm (by decide) rfl (fun ls hl => ?_)
                          refine lv_goto (tgt := 142) hx hb dX9_follow_190 (by decide) ?_
                          exact ih142 z2410 1 s2407 _ _ _ (iv_mono (c := 0) (d := 60) h2411 (by decide) (by decide)) (iv_mono (c := 0) (d := 1) (iv_c (by decide) : Iv 1 1 1) (by decide) (by decide)) hBs2407 (fr_ca gt142 gs2407 (sub_1 (List.mem_of_getElem? (i := 0) rfl) (sub_1 (List.mem_of_getElem? (i := 1) rfl) (sub_1 (List.mem_of_getElem? (i := 2) rfl) (sub_1 (List.mem_of_getElem? (i := 3) rfl) (sub_1 (List.mem_of_getElem? (i := 4) rfl) sub_0)))))) hP hD hS (lv_sub hl [0, 1, 2, 3, 4, 5] rfl) (fu_s (lo := 0) (ti_inc ez2410 h2362 (by decide) (by decide) (by decide) (by decide)) (by decide) hm142)
                        · skip
                          have g2412 := g9
                          refine lv_istore (lv' := [(4, .int 0), (5, .int v5_142), (3, .int z13), (0, .ref (a 0)), (1, .int p0), (2, .int p1)]) hx hb dX9_follow_185 hl (by decide) rfl (fun ls hl => ?_)
                          obtain ⟨z2413, ez2413⟩ : ∃ z9 : Int32, z9 = v5_142 + Int32.ofInt 1 := ⟨_, rfl⟩
                          have h2414 : Iv 1 60 z2413 := iv_inc ez2413 h2362 (by decide) (by decide) (by decide) (by decide) (by decide) (by decide)
                          refine lv_iinc (v := z2413) (lv' := [(5, .int z2413), (4, .int 0), (3, .int z13), (0, .ref (a 0)), (1, .int p0), (2, .int p1)]) hx hb dX9_follow_187 hl (k := 1) rfl ez2413.symm (by decide) rfl (fun ls hl => ?_)
                          refine lv_goto (tgt := 142) hx hb dX9_follow_190 (by decide) ?_
                          exact ih142 z2413 0 s2407 _ _ _ (iv_mono (c := 0) (d := 60) h2414 (by decide) (by decide)) (iv_mono (c := 0) (d := 1) (iv_c (by decide) : Iv 0 0 0) (by decide) (by decide)) hBs2407 (fr_ca gt142 gs2407 (sub_1 (List.mem_of_getElem? (i := 0) rfl) (sub_1 (List.mem_of_getElem? (i := 1) rfl) (sub_1 (List.mem_of_getElem? (i := 2) rfl) (sub_1 (List.mem_of_getElem? (i := 3) rfl) (sub_1 (List.mem_of_getElem? (i := 4) rfl) sub_0)))))) hP hD hS (lv_sub hl [0, 1, 2, 3, 4, 5] rfl) (fu_s (lo := 0) (ti_inc ez2413 h2362 (by decide) (by decide) (by decide) (by decide)) (by decide) hm142)
              exact lp142 61 0 1 s1239 _ _ _ (iv_mono (c := 0) (d := 60) (iv_c (by decide) : Iv 0 0 0) (by decide) (by decide)) (iv_mono (c := 0) (d := 1) (iv_c (by decide) : Iv 1 1 1) (by decide) (by decide)) hBs1239 fr_rf hP hD hS (lv_sub hl [0, 1, 2, 3, 4, 5] rfl) (fu_i (iv_mono (c := 0) (d := 60) (iv_c (by decide) : Iv 0 0 0) (by decide) (by decide)) (by decide))
            · skip
              have n2415 : v4_55.toInt < z13.toInt := (i_nle c1235)
              have h2416 : Iv 0 59 v4_55 := lt_l iv4_55 n2415 h14 (by decide)
              have h2417 : Iv 1 60 z13 := lt_r iv4_55 n2415 h14 (by decide)
              refine lv_aload_n hx hb dX9_follow_61 rfl (lv_at hl 2 rfl) ?_
              refine va_get (D := D) (ci := 9) (v := .ref (a 111)) (C := RX9) (T := TX9) (N := 11) hx hb hT in_X9 hown hK hP 0 cw_0 rfl 5 (by decide) (hT _ t456) (fun _ h9 => h9) rfl dX9_follow_62 ?_
              refine va_get (D := D) (ci := 4) (v := .ref (a 114)) (C := RX4) (T := TX4) (N := 3) hx hb hT in_X4 hown hK hP 111 cw_111 rfl 2 (by decide) (hT _ t348) (fun _ h9 => h9) rfl dX9_follow_65 ?_
              refine lv_iload_n hx hb dX9_follow_68 rfl (lv_at hl 3 rfl) ?_
              rcases iv_ca4 h3 0 1 2 3 (by decide) (by decide) (by decide) (by decide) (by decide) with q9 | q9 | q9 | q9
              · refine k_top (y := 0) q9 ?_
                have h2418 : Iv 0 0 p0 := (by rw [q9]; exact iv_c (by decide))
                have q2419 := q9
                refine a_aldl hx hb hK hP 114 6 cw_114 rfl (by unfold vp_in; decide) dX9_follow_69 ?_
                refine W.eq (g2 := F0 m 70 ls [.ref (a 115)]) rfl ?_
                refine lv_iload hx hb dX9_follow_70 (lv_at hl 0 rfl) ?_
                refine va_lald hx hb hK hP 115 2 cw_115 rfl (iv_in h2416 (by decide) (by decide)) dX9_follow_72 ?_
                refine lv_topl (fun z2420 ez2420 => ?_)
                refine lv_lstore (lv' := [(5, .long z2420), (4, .int v4_55), (3, .int z13), (0, .ref (a 0)), (1, .int p0), (2, .int p1)]) hx hb dX9_follow_73 hl (by decide) rfl (fun ls hl => ?_)
                refine lv_lload hx hb dX9_follow_75 (lv_at hl 0 rfl) ?_
                refine lv_ldc2 (v := (-1)) hx hb hown (hT _ t886) dX9_follow_77 ?_
                refine W.lcmp hx hb dX9_follow_80 ?_
                refine lv_topi (fun z2421 ez2421 => ?_)
                refine lv_if_lt (tgt := 101) hx hb dX9_follow_81 (by decide) (fun c2422 => ?_) (fun c2422 => ?_)
                · skip
                  have n2423 := lc_lt ez2421 c2422
                  refine lv_bipush (v := (-2)) hx hb dX9_follow_101 (by decide) ?_
                  rw [hQ]
                  exact W.iret (v := (-2)) hx hb hr (fun t ht hW => ⟨⟨(-2), st, rfl, ⟨hB, fr_rf, ⟨(iv_mono (c := (-6)) (d := 0) (iv_c (by decide) : Iv (-2) (-2) (-2)) (by decide) (by decide)), trivial⟩⟩, by rw [ht]; exact hP, va_K.moved hW.alike (hK.sub (tys' := []) [] rfl), by rw [hAe]; exact hD⟩, by rw [hAe]; exact hS.F ht⟩) hS.2.2 dX9_follow_103
                · skip
                  have n2424 := lc_nlt ez2421 c2422
                  refine lv_lload hx hb dX9_follow_84 (lv_at hl 0 rfl) ?_
                  refine lv_aload_n hx hb dX9_follow_86 rfl (lv_at hl 3 rfl) ?_
                  refine va_get (D := D) (ci := 9) (v := .ref (a 17)) (C := RX9) (T := TX9) (N := 11) hx hb hT in_X9 hown hK hP 0 cw_0 rfl 2 (by decide) (hT _ t453) (fun _ h9 => h9) rfl dX9_follow_87 ?_
                  refine va_get (D := D) (ci := 8) (v := .ref (a 18)) (C := RX8) (T := TX8) (N := 6) hx hb hT in_X8 hown hK hP 17 cw_17 rfl 0 (by decide) (hT _ t312) (fun _ h9 => h9) rfl dX9_follow_90 ?_
                  refine va_get (D := D) (ci := 1) (v := .int (st 18 3)) (C := RX1) (T := TX1) (N := 14) hx hb hT in_X1 hown hK hP 18 cw_18 rfl 3 (by decide) (hT _ t211) (fun _ h9 => h9) rfl dX9_follow_93 ?_
                  have h2425 : Iv 0 8 (st 18 3) := (rb_18_3 hB)
                  refine lv_i2l hx hb dX9_follow_96 rfl ?_
                  refine W.lcmp hx hb dX9_follow_97 ?_
                  refine lv_topi (fun z2426 ez2426 => ?_)
                  refine lv_if_lt (tgt := 104) hx hb dX9_follow_98 (by decide) (fun c2427 => ?_) (fun c2427 => ?_)
                  · skip
                    have n2428 := lc_lt ez2426 c2427
                    obtain ⟨z2429, ez2429⟩ : ∃ z9 : Int32, z9 = v4_55 + Int32.ofInt 1 := ⟨_, rfl⟩
                    have h2430 : Iv 1 60 z2429 := iv_inc ez2429 h2416 (by decide) (by decide) (by decide) (by decide) (by decide) (by decide)
                    refine lv_iinc (v := z2429) (lv' := [(4, .int z2429), (5, .long z2420), (3, .int z13), (0, .ref (a 0)), (1, .int p0), (2, .int p1)]) hx hb dX9_follow_104 hl (k := 1) rfl ez2429.symm (by decide) rfl (fun ls hl => ?_)
                    refine lv_goto (tgt := 55) hx hb dX9_follow_107 (by decide) ?_
                    exact ih55 z2429 _ (iv_mono (c := 0) (d := 60) h2430 (by decide) (by decide)) (lv_sub hl [0, 2, 3, 4, 5] rfl) (fu_s (lo := 0) (ti_inc ez2429 h2416 (by decide) (by decide) (by decide) (by decide)) (by decide) hm55)
                  · skip
                    have n2431 := lc_nlt ez2426 c2427
                    refine lv_bipush (v := (-2)) hx hb dX9_follow_101 (by decide) ?_
                    rw [hQ]
                    exact W.iret (v := (-2)) hx hb hr (fun t ht hW => ⟨⟨(-2), st, rfl, ⟨hB, fr_rf, ⟨(iv_mono (c := (-6)) (d := 0) (iv_c (by decide) : Iv (-2) (-2) (-2)) (by decide) (by decide)), trivial⟩⟩, by rw [ht]; exact hP, va_K.moved hW.alike (hK.sub (tys' := []) [] rfl), by rw [hAe]; exact hD⟩, by rw [hAe]; exact hS.F ht⟩) hS.2.2 dX9_follow_103
              · refine k_top (y := 1) q9 ?_
                have h2432 : Iv 1 1 p0 := (by rw [q9]; exact iv_c (by decide))
                have q2433 := q9
                refine a_aldl hx hb hK hP 114 6 cw_114 rfl (by unfold vp_in; decide) dX9_follow_69 ?_
                refine W.eq (g2 := F0 m 70 ls [.ref (a 116)]) rfl ?_
                refine lv_iload hx hb dX9_follow_70 (lv_at hl 0 rfl) ?_
                refine va_lald hx hb hK hP 116 2 cw_116 rfl (iv_in h2416 (by decide) (by decide)) dX9_follow_72 ?_
                refine lv_topl (fun z2434 ez2434 => ?_)
                refine lv_lstore (lv' := [(5, .long z2434), (4, .int v4_55), (3, .int z13), (0, .ref (a 0)), (1, .int p0), (2, .int p1)]) hx hb dX9_follow_73 hl (by decide) rfl (fun ls hl => ?_)
                refine lv_lload hx hb dX9_follow_75 (lv_at hl 0 rfl) ?_
                refine lv_ldc2 (v := (-1)) hx hb hown (hT _ t886) dX9_follow_77 ?_
                refine W.lcmp hx hb dX9_follow_80 ?_
                refine lv_topi (fun z2435 ez2435 => ?_)
                refine lv_if_lt (tgt := 101) hx hb dX9_follow_81 (by decide) (fun c2436 => ?_) (fun c2436 => ?_)
                · skip
                  have n2437 := lc_lt ez2435 c2436
                  refine lv_bipush (v := (-2)) hx hb dX9_follow_101 (by decide) ?_
                  rw [hQ]
                  exact W.iret (v := (-2)) hx hb hr (fun t ht hW => ⟨⟨(-2), st, rfl, ⟨hB, fr_rf, ⟨(iv_mono (c := (-6)) (d := 0) (iv_c (by decide) : Iv (-2) (-2) (-2)) (by decide) (by decide)), trivial⟩⟩, by rw [ht]; exact hP, va_K.moved hW.alike (hK.sub (tys' := []) [] rfl), by rw [hAe]; exact hD⟩, by rw [hAe]; exact hS.F ht⟩) hS.2.2 dX9_follow_103
                · skip
                  have n2438 := lc_nlt ez2435 c2436
                  refine lv_lload hx hb dX9_follow_84 (lv_at hl 0 rfl) ?_
                  refine lv_aload_n hx hb dX9_follow_86 rfl (lv_at hl 3 rfl) ?_
                  refine va_get (D := D) (ci := 9) (v := .ref (a 17)) (C := RX9) (T := TX9) (N := 11) hx hb hT in_X9 hown hK hP 0 cw_0 rfl 2 (by decide) (hT _ t453) (fun _ h9 => h9) rfl dX9_follow_87 ?_
                  refine va_get (D := D) (ci := 8) (v := .ref (a 18)) (C := RX8) (T := TX8) (N := 6) hx hb hT in_X8 hown hK hP 17 cw_17 rfl 0 (by decide) (hT _ t312) (fun _ h9 => h9) rfl dX9_follow_90 ?_
                  refine va_get (D := D) (ci := 1) (v := .int (st 18 3)) (C := RX1) (T := TX1) (N := 14) hx hb hT in_X1 hown hK hP 18 cw_18 rfl 3 (by decide) (hT _ t211) (fun _ h9 => h9) rfl dX9_follow_93 ?_
                  have h2439 : Iv 0 8 (st 18 3) := (rb_18_3 hB)
                  refine lv_i2l hx hb dX9_follow_96 rfl ?_
                  refine W.lcmp hx hb dX9_follow_97 ?_
                  refine lv_topi (fun z2440 ez2440 => ?_)
                  refine lv_if_lt (tgt := 104) hx hb dX9_follow_98 (by decide) (fun c2441 => ?_) (fun c2441 => ?_)
                  · skip
                    have n2442 := lc_lt ez2440 c2441
                    obtain ⟨z2443, ez2443⟩ : ∃ z9 : Int32, z9 = v4_55 + Int32.ofInt 1 := ⟨_, rfl⟩
                    have h2444 : Iv 1 60 z2443 := iv_inc ez2443 h2416 (by decide) (by decide) (by decide) (by decide) (by decide) (by decide)
                    refine lv_iinc (v := z2443) (lv' := [(4, .int z2443), (5, .long z2434), (3, .int z13), (0, .ref (a 0)), (1, .int p0), (2, .int p1)]) hx hb dX9_follow_104 hl (k := 1) rfl ez2443.symm (by decide) rfl (fun ls hl => ?_)
                    refine lv_goto (tgt := 55) hx hb dX9_follow_107 (by decide) ?_
                    exact ih55 z2443 _ (iv_mono (c := 0) (d := 60) h2444 (by decide) (by decide)) (lv_sub hl [0, 2, 3, 4, 5] rfl) (fu_s (lo := 0) (ti_inc ez2443 h2416 (by decide) (by decide) (by decide) (by decide)) (by decide) hm55)
                  · skip
                    have n2445 := lc_nlt ez2440 c2441
                    refine lv_bipush (v := (-2)) hx hb dX9_follow_101 (by decide) ?_
                    rw [hQ]
                    exact W.iret (v := (-2)) hx hb hr (fun t ht hW => ⟨⟨(-2), st, rfl, ⟨hB, fr_rf, ⟨(iv_mono (c := (-6)) (d := 0) (iv_c (by decide) : Iv (-2) (-2) (-2)) (by decide) (by decide)), trivial⟩⟩, by rw [ht]; exact hP, va_K.moved hW.alike (hK.sub (tys' := []) [] rfl), by rw [hAe]; exact hD⟩, by rw [hAe]; exact hS.F ht⟩) hS.2.2 dX9_follow_103
              · refine k_top (y := 2) q9 ?_
                have h2446 : Iv 2 2 p0 := (by rw [q9]; exact iv_c (by decide))
                have q2447 := q9
                refine a_aldl hx hb hK hP 114 6 cw_114 rfl (by unfold vp_in; decide) dX9_follow_69 ?_
                refine W.eq (g2 := F0 m 70 ls [.ref (a 117)]) rfl ?_
                refine lv_iload hx hb dX9_follow_70 (lv_at hl 0 rfl) ?_
                refine va_lald hx hb hK hP 117 2 cw_117 rfl (iv_in h2416 (by decide) (by decide)) dX9_follow_72 ?_
                refine lv_topl (fun z2448 ez2448 => ?_)
                refine lv_lstore (lv' := [(5, .long z2448), (4, .int v4_55), (3, .int z13), (0, .ref (a 0)), (1, .int p0), (2, .int p1)]) hx hb dX9_follow_73 hl (by decide) rfl (fun ls hl => ?_)
                refine lv_lload hx hb dX9_follow_75 (lv_at hl 0 rfl) ?_
                refine lv_ldc2 (v := (-1)) hx hb hown (hT _ t886) dX9_follow_77 ?_
                refine W.lcmp hx hb dX9_follow_80 ?_
                refine lv_topi (fun z2449 ez2449 => ?_)
                refine lv_if_lt (tgt := 101) hx hb dX9_follow_81 (by decide) (fun c2450 => ?_) (fun c2450 => ?_)
                · skip
                  have n2451 := lc_lt ez2449 c2450
                  refine lv_bipush (v := (-2)) hx hb dX9_follow_101 (by decide) ?_
                  rw [hQ]
                  exact W.iret (v := (-2)) hx hb hr (fun t ht hW => ⟨⟨(-2), st, rfl, ⟨hB, fr_rf, ⟨(iv_mono (c := (-6)) (d := 0) (iv_c (by decide) : Iv (-2) (-2) (-2)) (by decide) (by decide)), trivial⟩⟩, by rw [ht]; exact hP, va_K.moved hW.alike (hK.sub (tys' := []) [] rfl), by rw [hAe]; exact hD⟩, by rw [hAe]; exact hS.F ht⟩) hS.2.2 dX9_follow_103
                · skip
                  have n2452 := lc_nlt ez2449 c2450
                  refine lv_lload hx hb dX9_follow_84 (lv_at hl 0 rfl) ?_
                  refine lv_aload_n hx hb dX9_follow_86 rfl (lv_at hl 3 rfl) ?_
                  refine va_get (D := D) (ci := 9) (v := .ref (a 17)) (C := RX9) (T := TX9) (N := 11) hx hb hT in_X9 hown hK hP 0 cw_0 rfl 2 (by decide) (hT _ t453) (fun _ h9 => h9) rfl dX9_follow_87 ?_
                  refine va_get (D := D) (ci := 8) (v := .ref (a 18)) (C := RX8) (T := TX8) (N := 6) hx hb hT in_X8 hown hK hP 17 cw_17 rfl 0 (by decide) (hT _ t312) (fun _ h9 => h9) rfl dX9_follow_90 ?_
                  refine va_get (D := D) (ci := 1) (v := .int (st 18 3)) (C := RX1) (T := TX1) (N := 14) hx hb hT in_X1 hown hK hP 18 cw_18 rfl 3 (by decide) (hT _ t211) (fun _ h9 => h9) rfl dX9_follow_93 ?_
                  have h2453 : Iv 0 8 (st 18 3) := (rb_18_3 hB)
                  refine lv_i2l hx hb dX9_follow_96 rfl ?_
                  refine W.lcmp hx hb dX9_follow_97 ?_
                  refine lv_topi (fun z2454 ez2454 => ?_)
                  refine lv_if_lt (tgt := 104) hx hb dX9_follow_98 (by decide) (fun c2455 => ?_) (fun c2455 => ?_)
                  · skip
                    have n2456 := lc_lt ez2454 c2455
                    obtain ⟨z2457, ez2457⟩ : ∃ z9 : Int32, z9 = v4_55 + Int32.ofInt 1 := ⟨_, rfl⟩
                    have h2458 : Iv 1 60 z2457 := iv_inc ez2457 h2416 (by decide) (by decide) (by decide) (by decide) (by decide) (by decide)
                    refine lv_iinc (v := z2457) (lv' := [(4, .int z2457), (5, .long z2448), (3, .int z13), (0, .ref (a 0)), (1, .int p0), (2, .int p1)]) hx hb dX9_follow_104 hl (k := 1) rfl ez2457.symm (by decide) rfl (fun ls hl => ?_)
                    refine lv_goto (tgt := 55) hx hb dX9_follow_107 (by decide) ?_
                    exact ih55 z2457 _ (iv_mono (c := 0) (d := 60) h2458 (by decide) (by decide)) (lv_sub hl [0, 2, 3, 4, 5] rfl) (fu_s (lo := 0) (ti_inc ez2457 h2416 (by decide) (by decide) (by decide) (by decide)) (by decide) hm55)
                  · skip
                    have n2459 := lc_nlt ez2454 c2455
                    refine lv_bipush (v := (-2)) hx hb dX9_follow_101 (by decide) ?_
                    rw [hQ]
                    exact W.iret (v := (-2)) hx hb hr (fun t ht hW => ⟨⟨(-2), st, rfl, ⟨hB, fr_rf, ⟨(iv_mono (c := (-6)) (d := 0) (iv_c (by decide) : Iv (-2) (-2) (-2)) (by decide) (by decide)), trivial⟩⟩, by rw [ht]; exact hP, va_K.moved hW.alike (hK.sub (tys' := []) [] rfl), by rw [hAe]; exact hD⟩, by rw [hAe]; exact hS.F ht⟩) hS.2.2 dX9_follow_103
              · refine k_top (y := 3) q9 ?_
                have h2460 : Iv 3 3 p0 := (by rw [q9]; exact iv_c (by decide))
                have q2461 := q9
                refine a_aldl hx hb hK hP 114 6 cw_114 rfl (by unfold vp_in; decide) dX9_follow_69 ?_
                refine W.eq (g2 := F0 m 70 ls [.ref (a 118)]) rfl ?_
                refine lv_iload hx hb dX9_follow_70 (lv_at hl 0 rfl) ?_
                refine va_lald hx hb hK hP 118 2 cw_118 rfl (iv_in h2416 (by decide) (by decide)) dX9_follow_72 ?_
                refine lv_topl (fun z2462 ez2462 => ?_)
                refine lv_lstore (lv' := [(5, .long z2462), (4, .int v4_55), (3, .int z13), (0, .ref (a 0)), (1, .int p0), (2, .int p1)]) hx hb dX9_follow_73 hl (by decide) rfl (fun ls hl => ?_)
                refine lv_lload hx hb dX9_follow_75 (lv_at hl 0 rfl) ?_
                refine lv_ldc2 (v := (-1)) hx hb hown (hT _ t886) dX9_follow_77 ?_
                refine W.lcmp hx hb dX9_follow_80 ?_
                refine lv_topi (fun z2463 ez2463 => ?_)
                refine lv_if_lt (tgt := 101) hx hb dX9_follow_81 (by decide) (fun c2464 => ?_) (fun c2464 => ?_)
                · skip
                  have n2465 := lc_lt ez2463 c2464
                  refine lv_bipush (v := (-2)) hx hb dX9_follow_101 (by decide) ?_
                  rw [hQ]
                  exact W.iret (v := (-2)) hx hb hr (fun t ht hW => ⟨⟨(-2), st, rfl, ⟨hB, fr_rf, ⟨(iv_mono (c := (-6)) (d := 0) (iv_c (by decide) : Iv (-2) (-2) (-2)) (by decide) (by decide)), trivial⟩⟩, by rw [ht]; exact hP, va_K.moved hW.alike (hK.sub (tys' := []) [] rfl), by rw [hAe]; exact hD⟩, by rw [hAe]; exact hS.F ht⟩) hS.2.2 dX9_follow_103
                · skip
                  have n2466 := lc_nlt ez2463 c2464
                  refine lv_lload hx hb dX9_follow_84 (lv_at hl 0 rfl) ?_
                  refine lv_aload_n hx hb dX9_follow_86 rfl (lv_at hl 3 rfl) ?_
                  refine va_get (D := D) (ci := 9) (v := .ref (a 17)) (C := RX9) (T := TX9) (N := 11) hx hb hT in_X9 hown hK hP 0 cw_0 rfl 2 (by decide) (hT _ t453) (fun _ h9 => h9) rfl dX9_follow_87 ?_
                  refine va_get (D := D) (ci := 8) (v := .ref (a 18)) (C := RX8) (T := TX8) (N := 6) hx hb hT in_X8 hown hK hP 17 cw_17 rfl 0 (by decide) (hT _ t312) (fun _ h9 => h9) rfl dX9_follow_90 ?_
                  refine va_get (D := D) (ci := 1) (v := .int (st 18 3)) (C := RX1) (T := TX1) (N := 14) hx hb hT in_X1 hown hK hP 18 cw_18 rfl 3 (by decide) (hT _ t211) (fun _ h9 => h9) rfl dX9_follow_93 ?_
                  have h2467 : Iv 0 8 (st 18 3) := (rb_18_3 hB)
                  refine lv_i2l hx hb dX9_follow_96 rfl ?_
                  refine W.lcmp hx hb dX9_follow_97 ?_
                  refine lv_topi (fun z2468 ez2468 => ?_)
                  refine lv_if_lt (tgt := 104) hx hb dX9_follow_98 (by decide) (fun c2469 => ?_) (fun c2469 => ?_)
                  · skip
                    have n2470 := lc_lt ez2468 c2469
                    obtain ⟨z2471, ez2471⟩ : ∃ z9 : Int32, z9 = v4_55 + Int32.ofInt 1 := ⟨_, rfl⟩
                    have h2472 : Iv 1 60 z2471 := iv_inc ez2471 h2416 (by decide) (by decide) (by decide) (by decide) (by decide) (by decide)
                    refine lv_iinc (v := z2471) (lv' := [(4, .int z2471), (5, .long z2462), (3, .int z13), (0, .ref (a 0)), (1, .int p0), (2, .int p1)]) hx hb dX9_follow_104 hl (k := 1) rfl ez2471.symm (by decide) rfl (fun ls hl => ?_)
                    refine lv_goto (tgt := 55) hx hb dX9_follow_107 (by decide) ?_
                    exact ih55 z2471 _ (iv_mono (c := 0) (d := 60) h2472 (by decide) (by decide)) (lv_sub hl [0, 2, 3, 4, 5] rfl) (fu_s (lo := 0) (ti_inc ez2471 h2416 (by decide) (by decide) (by decide) (by decide)) (by decide) hm55)
                  · skip
                    have n2473 := lc_nlt ez2468 c2469
                    refine lv_bipush (v := (-2)) hx hb dX9_follow_101 (by decide) ?_
                    rw [hQ]
                    exact W.iret (v := (-2)) hx hb hr (fun t ht hW => ⟨⟨(-2), st, rfl, ⟨hB, fr_rf, ⟨(iv_mono (c := (-6)) (d := 0) (iv_c (by decide) : Iv (-2) (-2) (-2)) (by decide) (by decide)), trivial⟩⟩, by rw [ht]; exact hP, va_K.moved hW.alike (hK.sub (tys' := []) [] rfl), by rw [hAe]; exact hD⟩, by rw [hAe]; exact hS.F ht⟩) hS.2.2 dX9_follow_103
        exact lp55 61 0 _ (iv_mono (c := 0) (d := 60) (iv_c (by decide) : Iv 0 0 0) (by decide) (by decide)) (lv_sub hl [0, 1, 2, 3, 4] rfl) (fu_i (iv_mono (c := 0) (d := 60) (iv_c (by decide) : Iv 0 0 0) (by decide) (by decide)) (by decide))
      · skip
        have g2474 := g9
        have k2475 := g2474
        refine lv_if_ne (tgt := 42) hx hb dX9_follow_36 (by decide) (fun c2476 => ?_) (fun c2476 => ?_)
        · first | exact absurd c2476 (by decide) | exact absurd (by decide) c2476
        refine lv_bipush (v := (-6)) hx hb dX9_follow_39 (by decide) ?_
        rw [hQ]
        exact W.iret (v := (-6)) hx hb hr (fun t ht hW => ⟨⟨(-6), st, rfl, ⟨hB, fr_rf, ⟨(iv_mono (c := (-6)) (d := 0) (iv_c (by decide) : Iv (-6) (-6) (-6)) (by decide) (by decide)), trivial⟩⟩, by rw [ht]; exact hP, va_K.moved hW.alike (hK.sub (tys' := []) [] rfl), by rw [hAe]; exact hD⟩, by rw [hAe]; exact hS.F ht⟩) hS.2.2 dX9_follow_41
    · skip
      have g2477 := g9
      refine lv_if_ne (tgt := 28) hx hb dX9_follow_22 (by decide) (fun c2478 => ?_) (fun c2478 => ?_)
      · first | exact absurd c2478 (by decide) | exact absurd (by decide) c2478
      refine lv_bipush (v := (-2)) hx hb dX9_follow_25 (by decide) ?_
      rw [hQ]
      exact W.iret (v := (-2)) hx hb hr (fun t ht hW => ⟨⟨(-2), st, rfl, ⟨hB, fr_rf, ⟨(iv_mono (c := (-6)) (d := 0) (iv_c (by decide) : Iv (-2) (-2) (-2)) (by decide) (by decide)), trivial⟩⟩, by rw [ht]; exact hP, va_K.moved hW.alike (hK.sub (tys' := []) [] rfl), by rw [hAe]; exact hD⟩, by rw [hAe]; exact hS.F ht⟩) hS.2.2 dX9_follow_27
  · skip
    have g2479 := g9
    have k2480 := g2479
    refine lv_if_eq (tgt := 25) hx hb dX9_follow_8 (by decide) (fun c2481 => ?_) (fun c2481 => ?_)
    rotate_left
    · first | exact absurd c2481 (by decide) | exact absurd (by decide) c2481
    refine lv_bipush (v := (-2)) hx hb dX9_follow_25 (by decide) ?_
    rw [hQ]
    exact W.iret (v := (-2)) hx hb hr (fun t ht hW => ⟨⟨(-2), st, rfl, ⟨hB, fr_rf, ⟨(iv_mono (c := (-6)) (d := 0) (iv_c (by decide) : Iv (-2) (-2) (-2)) (by decide) (by decide)), trivial⟩⟩, by rw [ht]; exact hP, va_K.moved hW.alike (hK.sub (tys' := []) [] rfl), by rw [hAe]; exact hD⟩, by rw [hAe]; exact hS.F ht⟩) hS.2.2 dX9_follow_27
set_option maxHeartbeats 4000000 in
set_option maxRecDepth 100000 in
theorem s_X9_goes (l : Launch) (D : va_G) (k : Nat → ClassId) (a : Nat → Nat) (st : CT) (sl : CL) (p0 : Int32) (p1 : Int32) (sz : Nat) (hB : CB st)  : Met l yX9_goes (.code yX9_goes cX9_goes 4 (some .int) :: TB) (rmw 7 0 0) (va_Pc [.ref (a 0), .int p0, .int p1] (PW D k sz (CWS k a st sl))) (QI D (S := CT) (fun r u => CB u ∧ FR [120, 121, 122, 123, 124, 125] st u ∧ ((True))) (fun u => CWS k a u sl) (fun _ => []) (CWS k a st sl) sz) 0 0 (va_A (CWS k a st sl) sz) := by
  refine Met.ofW (cc := cX9_goes) (maxL := 4) (ret := (some .int)) (by decide) rfl ?_
  intro p e s m args below meth c s₁ B hml hv
  obtain ⟨rfl, hsz, hP, hK, hD0, hN⟩ := hv
  have hx := B.exec
  have hb := B.bytes
  have hr := B.returns
  have hT : ∀ w9 ∈ TB, w9.before ([.ref (a 0), .int p0, .int p1] : List Value).toArray s = true := fun w9 h => atoms_spec (ws := .code yX9_goes cX9_goes 4 (some .int) :: TB) B.pre w9 (List.mem_cons_of_mem _ h)
  have hown : s.vm.findClass RX9 = some m.cls := findClass_of_methodNamed B.named
  have S : CallFix p m c cX9_goes 4 s _ TB RX9 := ⟨hx, hb, hml, hown, hT⟩
  subst hsz
  have hD := hD0.self (sz := s.heap.size)
  generalize hAe : va_A (CWS k a st sl) s.heap.size = A at hD ⊢
  have hA : ∀ q : Nat, s.heap.size ≤ q → A q := fun q h => by rw [← hAe]; exact Or.inr h
  have hS : va_S A s.heap s.heap [] := va_S.rf
  have hl := lv_entry ([.ref (a 0), .int p0, .int p1]) (n := 4) (Nat.le_of_ble_eq_true rfl)
  rw [lg_entry_eq]
  generalize (lg_sl ([.ref (a 0), .int p0, .int p1]) ++ List.replicate (4 - (lg_sl ([.ref (a 0), .int p0, .int p1])).length) Slot.unset).toArray = ls at hl ⊢
  have hl : lv_has ls 4 [(0, .ref (a 0)), (1, .int p0), (2, .int p1)] := hl
  refine nameQ (fun Q hQ => ?_)
  refine lv_aload_n hx hb dX9_goes_0 rfl (lv_at hl 0 rfl) ?_
  refine lv_iload_n hx hb dX9_goes_1 rfl (lv_at hl 1 rfl) ?_
  refine lv_iload_n hx hb dX9_goes_2 rfl (lv_at hl 2 rfl) ?_
  refine ca_i hP hD hS hA (fun hDc => run_V (mc := 0) (ms := 0) (As := [.int p0, .int p1]) (rest := []) S (s_X9_follow l D k a st sl  p0 p1 _  hB  ) lkX9_220 ok_X9_follow ⟨rfl, rfl, Nat.le_of_ble_eq_true rfl, Nat.le_of_ble_eq_true rfl⟩ (pw_V (ci := 9) (q0 := 0) hK hN rfl cw_0 hP hDc) rfl hl.1 rfl (Nat.le_of_ble_eq_true rfl) ⟨Nat.zero_le _, Nat.zero_le _⟩ dX9_goes_3) (fun r2 s1 H9 locs9 hs1 hP9 hD9 hS9 => ?_)
  clear hP hD hS
  have hS := hS9
  have hP := hP9
  have hD := hD9
  clear hP9 hD9 hS9
  obtain ⟨hBs1, gs1, fs1⟩ := hs1
  have hFs1 : FR [120, 121, 122, 123, 124, 125] st s1 := fr_ca fr_rf gs1 (sub_1 (List.mem_of_getElem? (i := 0) rfl) (sub_1 (List.mem_of_getElem? (i := 1) rfl) (sub_1 (List.mem_of_getElem? (i := 2) rfl) (sub_1 (List.mem_of_getElem? (i := 3) rfl) (sub_1 (List.mem_of_getElem? (i := 4) rfl) (sub_1 (List.mem_of_getElem? (i := 5) rfl) sub_0))))))
  have h3 : Iv (-6) 0 r2 := fs1.1
  refine lv_istore_n (lv' := [(3, .int r2), (0, .ref (a 0)), (1, .int p0), (2, .int p1)]) hx hb dX9_goes_6 rfl hl (by decide) rfl (fun ls hl => ?_)
  refine lv_iload_n hx hb dX9_goes_7 rfl (lv_at hl 0 rfl) ?_
  refine lv_if_eq (tgt := 15) hx hb dX9_goes_8 (by decide) (fun c4 => ?_) (fun c4 => ?_)
  · skip
    have h5 : Iv 0 0 r2 := eq_l c4 (iv_c (by decide) : Iv 0 0 0)
    refine lv_aload_n hx hb dX9_goes_15 rfl (lv_at hl 1 rfl) ?_
    refine va_get (D := D) (ci := 9) (v := .ref (a 125)) (C := RX9) (T := TX9) (N := 11) hx hb hT in_X9 hown hK hP 0 cw_0 rfl 7 (by decide) (hT _ t458) (fun _ h9 => h9) rfl dX9_goes_16 ?_
    refine va_get (D := D) (ci := 7) (v := .int (s1 125 0)) (C := RX7) (T := TX7) (N := 6) hx hb hT in_X7 hown hK hP 125 cw_125 rfl 0 (by decide) (hT _ t367) (fun _ h9 => h9) rfl dX9_goes_19 ?_
    rw [hQ]
    exact W.iret (v := (s1 125 0)) hx hb hr (fun t ht hW => ⟨⟨(s1 125 0), s1, rfl, ⟨hBs1, hFs1, trivial⟩, by rw [ht]; exact hP, va_K.moved hW.alike (hK.sub (tys' := []) [] rfl), by rw [hAe]; exact hD⟩, by rw [hAe]; exact hS.F ht⟩) hS.2.2 dX9_goes_22
  · skip
    have h6 : Iv (-6) (-1) r2 := ne_hi h3 c4 (by decide) (by decide)
    refine lv_iload_n hx hb dX9_goes_11 rfl (lv_at hl 0 rfl) ?_
    refine lv_goto (tgt := 22) hx hb dX9_goes_12 (by decide) ?_
    rw [hQ]
    exact W.iret (v := r2) hx hb hr (fun t ht hW => ⟨⟨r2, s1, rfl, ⟨hBs1, hFs1, trivial⟩, by rw [ht]; exact hP, va_K.moved hW.alike (hK.sub (tys' := []) [] rfl), by rw [hAe]; exact hD⟩, by rw [hAe]; exact hS.F ht⟩) hS.2.2 dX9_goes_22
set_option maxHeartbeats 4000000 in
set_option maxRecDepth 100000 in
theorem s_X9_ends (l : Launch) (D : va_G) (k : Nat → ClassId) (a : Nat → Nat) (st : CT) (sl : CL) (p0 : Int32) (p1 : Int32) (sz : Nat) (hB : CB st)  : Met l yX9_ends (.code yX9_ends cX9_ends 4 (some .int) :: TB) (rmw 7 0 0) (va_Pc [.ref (a 0), .int p0, .int p1] (PW D k sz (CWS k a st sl))) (QI D (S := CT) (fun r u => CB u ∧ FR [120, 121, 122, 123, 124, 125] st u ∧ ((True))) (fun u => CWS k a u sl) (fun _ => []) (CWS k a st sl) sz) 0 0 (va_A (CWS k a st sl) sz) := by
  refine Met.ofW (cc := cX9_ends) (maxL := 4) (ret := (some .int)) (by decide) rfl ?_
  intro p e s m args below meth c s₁ B hml hv
  obtain ⟨rfl, hsz, hP, hK, hD0, hN⟩ := hv
  have hx := B.exec
  have hb := B.bytes
  have hr := B.returns
  have hT : ∀ w9 ∈ TB, w9.before ([.ref (a 0), .int p0, .int p1] : List Value).toArray s = true := fun w9 h => atoms_spec (ws := .code yX9_ends cX9_ends 4 (some .int) :: TB) B.pre w9 (List.mem_cons_of_mem _ h)
  have hown : s.vm.findClass RX9 = some m.cls := findClass_of_methodNamed B.named
  have S : CallFix p m c cX9_ends 4 s _ TB RX9 := ⟨hx, hb, hml, hown, hT⟩
  subst hsz
  have hD := hD0.self (sz := s.heap.size)
  generalize hAe : va_A (CWS k a st sl) s.heap.size = A at hD ⊢
  have hA : ∀ q : Nat, s.heap.size ≤ q → A q := fun q h => by rw [← hAe]; exact Or.inr h
  have hS : va_S A s.heap s.heap [] := va_S.rf
  have hl := lv_entry ([.ref (a 0), .int p0, .int p1]) (n := 4) (Nat.le_of_ble_eq_true rfl)
  rw [lg_entry_eq]
  generalize (lg_sl ([.ref (a 0), .int p0, .int p1]) ++ List.replicate (4 - (lg_sl ([.ref (a 0), .int p0, .int p1])).length) Slot.unset).toArray = ls at hl ⊢
  have hl : lv_has ls 4 [(0, .ref (a 0)), (1, .int p0), (2, .int p1)] := hl
  refine nameQ (fun Q hQ => ?_)
  refine lv_aload_n hx hb dX9_ends_0 rfl (lv_at hl 0 rfl) ?_
  refine lv_iload_n hx hb dX9_ends_1 rfl (lv_at hl 1 rfl) ?_
  refine lv_iload_n hx hb dX9_ends_2 rfl (lv_at hl 2 rfl) ?_
  refine ca_i hP hD hS hA (fun hDc => run_V (mc := 0) (ms := 0) (As := [.int p0, .int p1]) (rest := []) S (s_X9_follow l D k a st sl  p0 p1 _  hB  ) lkX9_220 ok_X9_follow ⟨rfl, rfl, Nat.le_of_ble_eq_true rfl, Nat.le_of_ble_eq_true rfl⟩ (pw_V (ci := 9) (q0 := 0) hK hN rfl cw_0 hP hDc) rfl hl.1 rfl (Nat.le_of_ble_eq_true rfl) ⟨Nat.zero_le _, Nat.zero_le _⟩ dX9_ends_3) (fun r2 s1 H9 locs9 hs1 hP9 hD9 hS9 => ?_)
  clear hP hD hS
  have hS := hS9
  have hP := hP9
  have hD := hD9
  clear hP9 hD9 hS9
  obtain ⟨hBs1, gs1, fs1⟩ := hs1
  have hFs1 : FR [120, 121, 122, 123, 124, 125] st s1 := fr_ca fr_rf gs1 (sub_1 (List.mem_of_getElem? (i := 0) rfl) (sub_1 (List.mem_of_getElem? (i := 1) rfl) (sub_1 (List.mem_of_getElem? (i := 2) rfl) (sub_1 (List.mem_of_getElem? (i := 3) rfl) (sub_1 (List.mem_of_getElem? (i := 4) rfl) (sub_1 (List.mem_of_getElem? (i := 5) rfl) sub_0))))))
  have h3 : Iv (-6) 0 r2 := fs1.1
  refine lv_istore_n (lv' := [(3, .int r2), (0, .ref (a 0)), (1, .int p0), (2, .int p1)]) hx hb dX9_ends_6 rfl hl (by decide) rfl (fun ls hl => ?_)
  refine lv_iload_n hx hb dX9_ends_7 rfl (lv_at hl 0 rfl) ?_
  refine lv_if_eq (tgt := 15) hx hb dX9_ends_8 (by decide) (fun c4 => ?_) (fun c4 => ?_)
  · skip
    have h5 : Iv 0 0 r2 := eq_l c4 (iv_c (by decide) : Iv 0 0 0)
    refine lv_aload_n hx hb dX9_ends_15 rfl (lv_at hl 1 rfl) ?_
    refine va_get (D := D) (ci := 9) (v := .ref (a 125)) (C := RX9) (T := TX9) (N := 11) hx hb hT in_X9 hown hK hP 0 cw_0 rfl 7 (by decide) (hT _ t458) (fun _ h9 => h9) rfl dX9_ends_16 ?_
    refine va_get (D := D) (ci := 7) (v := .int (s1 125 1)) (C := RX7) (T := TX7) (N := 6) hx hb hT in_X7 hown hK hP 125 cw_125 rfl 1 (by decide) (hT _ t369) (fun _ h9 => h9) rfl dX9_ends_19 ?_
    rw [hQ]
    exact W.iret (v := (s1 125 1)) hx hb hr (fun t ht hW => ⟨⟨(s1 125 1), s1, rfl, ⟨hBs1, hFs1, trivial⟩, by rw [ht]; exact hP, va_K.moved hW.alike (hK.sub (tys' := []) [] rfl), by rw [hAe]; exact hD⟩, by rw [hAe]; exact hS.F ht⟩) hS.2.2 dX9_ends_22
  · skip
    have h6 : Iv (-6) (-1) r2 := ne_hi h3 c4 (by decide) (by decide)
    refine lv_iload_n hx hb dX9_ends_11 rfl (lv_at hl 0 rfl) ?_
    refine lv_goto (tgt := 22) hx hb dX9_ends_12 (by decide) ?_
    rw [hQ]
    exact W.iret (v := r2) hx hb hr (fun t ht hW => ⟨⟨r2, s1, rfl, ⟨hBs1, hFs1, trivial⟩, by rw [ht]; exact hP, va_K.moved hW.alike (hK.sub (tys' := []) [] rfl), by rw [hAe]; exact hD⟩, by rw [hAe]; exact hS.F ht⟩) hS.2.2 dX9_ends_22
set_option maxHeartbeats 4000000 in
set_option maxRecDepth 100000 in
theorem s_X9_ran (l : Launch) (D : va_G) (k : Nat → ClassId) (a : Nat → Nat) (st : CT) (sl : CL) (p0 : Int32) (p1 : Int32) (sz : Nat) (hB : CB st)  : Met l yX9_ran (.code yX9_ran cX9_ran 4 (some .int) :: TB) (rmw 7 0 0) (va_Pc [.ref (a 0), .int p0, .int p1] (PW D k sz (CWS k a st sl))) (QI D (S := CT) (fun r u => CB u ∧ FR [120, 121, 122, 123, 124, 125] st u ∧ ((True))) (fun u => CWS k a u sl) (fun _ => []) (CWS k a st sl) sz) 0 0 (va_A (CWS k a st sl) sz) := by
  refine Met.ofW (cc := cX9_ran) (maxL := 4) (ret := (some .int)) (by decide) rfl ?_
  intro p e s m args below meth c s₁ B hml hv
  obtain ⟨rfl, hsz, hP, hK, hD0, hN⟩ := hv
  have hx := B.exec
  have hb := B.bytes
  have hr := B.returns
  have hT : ∀ w9 ∈ TB, w9.before ([.ref (a 0), .int p0, .int p1] : List Value).toArray s = true := fun w9 h => atoms_spec (ws := .code yX9_ran cX9_ran 4 (some .int) :: TB) B.pre w9 (List.mem_cons_of_mem _ h)
  have hown : s.vm.findClass RX9 = some m.cls := findClass_of_methodNamed B.named
  have S : CallFix p m c cX9_ran 4 s _ TB RX9 := ⟨hx, hb, hml, hown, hT⟩
  subst hsz
  have hD := hD0.self (sz := s.heap.size)
  generalize hAe : va_A (CWS k a st sl) s.heap.size = A at hD ⊢
  have hA : ∀ q : Nat, s.heap.size ≤ q → A q := fun q h => by rw [← hAe]; exact Or.inr h
  have hS : va_S A s.heap s.heap [] := va_S.rf
  have hl := lv_entry ([.ref (a 0), .int p0, .int p1]) (n := 4) (Nat.le_of_ble_eq_true rfl)
  rw [lg_entry_eq]
  generalize (lg_sl ([.ref (a 0), .int p0, .int p1]) ++ List.replicate (4 - (lg_sl ([.ref (a 0), .int p0, .int p1])).length) Slot.unset).toArray = ls at hl ⊢
  have hl : lv_has ls 4 [(0, .ref (a 0)), (1, .int p0), (2, .int p1)] := hl
  refine nameQ (fun Q hQ => ?_)
  refine lv_aload_n hx hb dX9_ran_0 rfl (lv_at hl 0 rfl) ?_
  refine lv_iload_n hx hb dX9_ran_1 rfl (lv_at hl 1 rfl) ?_
  refine lv_iload_n hx hb dX9_ran_2 rfl (lv_at hl 2 rfl) ?_
  refine ca_i hP hD hS hA (fun hDc => run_V (mc := 0) (ms := 0) (As := [.int p0, .int p1]) (rest := []) S (s_X9_follow l D k a st sl  p0 p1 _  hB  ) lkX9_220 ok_X9_follow ⟨rfl, rfl, Nat.le_of_ble_eq_true rfl, Nat.le_of_ble_eq_true rfl⟩ (pw_V (ci := 9) (q0 := 0) hK hN rfl cw_0 hP hDc) rfl hl.1 rfl (Nat.le_of_ble_eq_true rfl) ⟨Nat.zero_le _, Nat.zero_le _⟩ dX9_ran_3) (fun r2 s1 H9 locs9 hs1 hP9 hD9 hS9 => ?_)
  clear hP hD hS
  have hS := hS9
  have hP := hP9
  have hD := hD9
  clear hP9 hD9 hS9
  obtain ⟨hBs1, gs1, fs1⟩ := hs1
  have hFs1 : FR [120, 121, 122, 123, 124, 125] st s1 := fr_ca fr_rf gs1 (sub_1 (List.mem_of_getElem? (i := 0) rfl) (sub_1 (List.mem_of_getElem? (i := 1) rfl) (sub_1 (List.mem_of_getElem? (i := 2) rfl) (sub_1 (List.mem_of_getElem? (i := 3) rfl) (sub_1 (List.mem_of_getElem? (i := 4) rfl) (sub_1 (List.mem_of_getElem? (i := 5) rfl) sub_0))))))
  have h3 : Iv (-6) 0 r2 := fs1.1
  refine lv_istore_n (lv' := [(3, .int r2), (0, .ref (a 0)), (1, .int p0), (2, .int p1)]) hx hb dX9_ran_6 rfl hl (by decide) rfl (fun ls hl => ?_)
  refine lv_iload_n hx hb dX9_ran_7 rfl (lv_at hl 0 rfl) ?_
  refine lv_if_eq (tgt := 15) hx hb dX9_ran_8 (by decide) (fun c4 => ?_) (fun c4 => ?_)
  · skip
    have h5 : Iv 0 0 r2 := eq_l c4 (iv_c (by decide) : Iv 0 0 0)
    refine lv_aload_n hx hb dX9_ran_15 rfl (lv_at hl 1 rfl) ?_
    refine va_get (D := D) (ci := 9) (v := .ref (a 125)) (C := RX9) (T := TX9) (N := 11) hx hb hT in_X9 hown hK hP 0 cw_0 rfl 7 (by decide) (hT _ t458) (fun _ h9 => h9) rfl dX9_ran_16 ?_
    refine va_get (D := D) (ci := 7) (v := .int (s1 125 2)) (C := RX7) (T := TX7) (N := 6) hx hb hT in_X7 hown hK hP 125 cw_125 rfl 2 (by decide) (hT _ t371) (fun _ h9 => h9) rfl dX9_ran_19 ?_
    rw [hQ]
    exact W.iret (v := (s1 125 2)) hx hb hr (fun t ht hW => ⟨⟨(s1 125 2), s1, rfl, ⟨hBs1, hFs1, trivial⟩, by rw [ht]; exact hP, va_K.moved hW.alike (hK.sub (tys' := []) [] rfl), by rw [hAe]; exact hD⟩, by rw [hAe]; exact hS.F ht⟩) hS.2.2 dX9_ran_22
  · skip
    have h6 : Iv (-6) (-1) r2 := ne_hi h3 c4 (by decide) (by decide)
    refine lv_iload_n hx hb dX9_ran_11 rfl (lv_at hl 0 rfl) ?_
    refine lv_goto (tgt := 22) hx hb dX9_ran_12 (by decide) ?_
    rw [hQ]
    exact W.iret (v := r2) hx hb hr (fun t ht hW => ⟨⟨r2, s1, rfl, ⟨hBs1, hFs1, trivial⟩, by rw [ht]; exact hP, va_K.moved hW.alike (hK.sub (tys' := []) [] rfl), by rw [hAe]; exact hD⟩, by rw [hAe]; exact hS.F ht⟩) hS.2.2 dX9_ran_22
set_option maxHeartbeats 4000000 in
set_option maxRecDepth 100000 in
theorem s_X9_astray (l : Launch) (D : va_G) (k : Nat → ClassId) (a : Nat → Nat) (st : CT) (sl : CL) (p0 : Int32) (p1 : Int32) (sz : Nat) (hB : CB st)  : Met l yX9_astray (.code yX9_astray cX9_astray 4 (some .int) :: TB) (rmw 7 0 0) (va_Pc [.ref (a 0), .int p0, .int p1] (PW D k sz (CWS k a st sl))) (QI D (S := CT) (fun r u => CB u ∧ FR [120, 121, 122, 123, 124, 125] st u ∧ ((True))) (fun u => CWS k a u sl) (fun _ => []) (CWS k a st sl) sz) 0 0 (va_A (CWS k a st sl) sz) := by
  refine Met.ofW (cc := cX9_astray) (maxL := 4) (ret := (some .int)) (by decide) rfl ?_
  intro p e s m args below meth c s₁ B hml hv
  obtain ⟨rfl, hsz, hP, hK, hD0, hN⟩ := hv
  have hx := B.exec
  have hb := B.bytes
  have hr := B.returns
  have hT : ∀ w9 ∈ TB, w9.before ([.ref (a 0), .int p0, .int p1] : List Value).toArray s = true := fun w9 h => atoms_spec (ws := .code yX9_astray cX9_astray 4 (some .int) :: TB) B.pre w9 (List.mem_cons_of_mem _ h)
  have hown : s.vm.findClass RX9 = some m.cls := findClass_of_methodNamed B.named
  have S : CallFix p m c cX9_astray 4 s _ TB RX9 := ⟨hx, hb, hml, hown, hT⟩
  subst hsz
  have hD := hD0.self (sz := s.heap.size)
  generalize hAe : va_A (CWS k a st sl) s.heap.size = A at hD ⊢
  have hA : ∀ q : Nat, s.heap.size ≤ q → A q := fun q h => by rw [← hAe]; exact Or.inr h
  have hS : va_S A s.heap s.heap [] := va_S.rf
  have hl := lv_entry ([.ref (a 0), .int p0, .int p1]) (n := 4) (Nat.le_of_ble_eq_true rfl)
  rw [lg_entry_eq]
  generalize (lg_sl ([.ref (a 0), .int p0, .int p1]) ++ List.replicate (4 - (lg_sl ([.ref (a 0), .int p0, .int p1])).length) Slot.unset).toArray = ls at hl ⊢
  have hl : lv_has ls 4 [(0, .ref (a 0)), (1, .int p0), (2, .int p1)] := hl
  refine nameQ (fun Q hQ => ?_)
  refine lv_aload_n hx hb dX9_astray_0 rfl (lv_at hl 0 rfl) ?_
  refine lv_iload_n hx hb dX9_astray_1 rfl (lv_at hl 1 rfl) ?_
  refine lv_iload_n hx hb dX9_astray_2 rfl (lv_at hl 2 rfl) ?_
  refine ca_i hP hD hS hA (fun hDc => run_V (mc := 0) (ms := 0) (As := [.int p0, .int p1]) (rest := []) S (s_X9_follow l D k a st sl  p0 p1 _  hB  ) lkX9_220 ok_X9_follow ⟨rfl, rfl, Nat.le_of_ble_eq_true rfl, Nat.le_of_ble_eq_true rfl⟩ (pw_V (ci := 9) (q0 := 0) hK hN rfl cw_0 hP hDc) rfl hl.1 rfl (Nat.le_of_ble_eq_true rfl) ⟨Nat.zero_le _, Nat.zero_le _⟩ dX9_astray_3) (fun r2 s1 H9 locs9 hs1 hP9 hD9 hS9 => ?_)
  clear hP hD hS
  have hS := hS9
  have hP := hP9
  have hD := hD9
  clear hP9 hD9 hS9
  obtain ⟨hBs1, gs1, fs1⟩ := hs1
  have hFs1 : FR [120, 121, 122, 123, 124, 125] st s1 := fr_ca fr_rf gs1 (sub_1 (List.mem_of_getElem? (i := 0) rfl) (sub_1 (List.mem_of_getElem? (i := 1) rfl) (sub_1 (List.mem_of_getElem? (i := 2) rfl) (sub_1 (List.mem_of_getElem? (i := 3) rfl) (sub_1 (List.mem_of_getElem? (i := 4) rfl) (sub_1 (List.mem_of_getElem? (i := 5) rfl) sub_0))))))
  have h3 : Iv (-6) 0 r2 := fs1.1
  refine lv_istore_n (lv' := [(3, .int r2), (0, .ref (a 0)), (1, .int p0), (2, .int p1)]) hx hb dX9_astray_6 rfl hl (by decide) rfl (fun ls hl => ?_)
  refine lv_iload_n hx hb dX9_astray_7 rfl (lv_at hl 0 rfl) ?_
  refine lv_if_eq (tgt := 15) hx hb dX9_astray_8 (by decide) (fun c4 => ?_) (fun c4 => ?_)
  · skip
    have h5 : Iv 0 0 r2 := eq_l c4 (iv_c (by decide) : Iv 0 0 0)
    refine lv_aload_n hx hb dX9_astray_15 rfl (lv_at hl 1 rfl) ?_
    refine va_get (D := D) (ci := 9) (v := .ref (a 125)) (C := RX9) (T := TX9) (N := 11) hx hb hT in_X9 hown hK hP 0 cw_0 rfl 7 (by decide) (hT _ t458) (fun _ h9 => h9) rfl dX9_astray_16 ?_
    refine va_get (D := D) (ci := 7) (v := .int (s1 125 4)) (C := RX7) (T := TX7) (N := 6) hx hb hT in_X7 hown hK hP 125 cw_125 rfl 4 (by decide) (hT _ t375) (fun _ h9 => h9) rfl dX9_astray_19 ?_
    rw [hQ]
    exact W.iret (v := (s1 125 4)) hx hb hr (fun t ht hW => ⟨⟨(s1 125 4), s1, rfl, ⟨hBs1, hFs1, trivial⟩, by rw [ht]; exact hP, va_K.moved hW.alike (hK.sub (tys' := []) [] rfl), by rw [hAe]; exact hD⟩, by rw [hAe]; exact hS.F ht⟩) hS.2.2 dX9_astray_22
  · skip
    have h6 : Iv (-6) (-1) r2 := ne_hi h3 c4 (by decide) (by decide)
    refine lv_iload_n hx hb dX9_astray_11 rfl (lv_at hl 0 rfl) ?_
    refine lv_goto (tgt := 22) hx hb dX9_astray_12 (by decide) ?_
    rw [hQ]
    exact W.iret (v := r2) hx hb hr (fun t ht hW => ⟨⟨r2, s1, rfl, ⟨hBs1, hFs1, trivial⟩, by rw [ht]; exact hP, va_K.moved hW.alike (hK.sub (tys' := []) [] rfl), by rw [hAe]; exact hD⟩, by rw [hAe]; exact hS.F ht⟩) hS.2.2 dX9_astray_22
set_option maxHeartbeats 4000000 in
set_option maxRecDepth 100000 in
theorem s_X9_worn (l : Launch) (D : va_G) (k : Nat → ClassId) (a : Nat → Nat) (st : CT) (sl : CL) (p0 : Int32) (p1 : Int32) (sz : Nat) (hB : CB st)  : Met l yX9_worn (.code yX9_worn cX9_worn 4 (some .int) :: TB) (rmw 7 0 0) (va_Pc [.ref (a 0), .int p0, .int p1] (PW D k sz (CWS k a st sl))) (QI D (S := CT) (fun r u => CB u ∧ FR [120, 121, 122, 123, 124, 125] st u ∧ ((True))) (fun u => CWS k a u sl) (fun _ => []) (CWS k a st sl) sz) 0 0 (va_A (CWS k a st sl) sz) := by
  refine Met.ofW (cc := cX9_worn) (maxL := 4) (ret := (some .int)) (by decide) rfl ?_
  intro p e s m args below meth c s₁ B hml hv
  obtain ⟨rfl, hsz, hP, hK, hD0, hN⟩ := hv
  have hx := B.exec
  have hb := B.bytes
  have hr := B.returns
  have hT : ∀ w9 ∈ TB, w9.before ([.ref (a 0), .int p0, .int p1] : List Value).toArray s = true := fun w9 h => atoms_spec (ws := .code yX9_worn cX9_worn 4 (some .int) :: TB) B.pre w9 (List.mem_cons_of_mem _ h)
  have hown : s.vm.findClass RX9 = some m.cls := findClass_of_methodNamed B.named
  have S : CallFix p m c cX9_worn 4 s _ TB RX9 := ⟨hx, hb, hml, hown, hT⟩
  subst hsz
  have hD := hD0.self (sz := s.heap.size)
  generalize hAe : va_A (CWS k a st sl) s.heap.size = A at hD ⊢
  have hA : ∀ q : Nat, s.heap.size ≤ q → A q := fun q h => by rw [← hAe]; exact Or.inr h
  have hS : va_S A s.heap s.heap [] := va_S.rf
  have hl := lv_entry ([.ref (a 0), .int p0, .int p1]) (n := 4) (Nat.le_of_ble_eq_true rfl)
  rw [lg_entry_eq]
  generalize (lg_sl ([.ref (a 0), .int p0, .int p1]) ++ List.replicate (4 - (lg_sl ([.ref (a 0), .int p0, .int p1])).length) Slot.unset).toArray = ls at hl ⊢
  have hl : lv_has ls 4 [(0, .ref (a 0)), (1, .int p0), (2, .int p1)] := hl
  refine nameQ (fun Q hQ => ?_)
  refine lv_aload_n hx hb dX9_worn_0 rfl (lv_at hl 0 rfl) ?_
  refine lv_iload_n hx hb dX9_worn_1 rfl (lv_at hl 1 rfl) ?_
  refine lv_iload_n hx hb dX9_worn_2 rfl (lv_at hl 2 rfl) ?_
  refine ca_i hP hD hS hA (fun hDc => run_V (mc := 0) (ms := 0) (As := [.int p0, .int p1]) (rest := []) S (s_X9_follow l D k a st sl  p0 p1 _  hB  ) lkX9_220 ok_X9_follow ⟨rfl, rfl, Nat.le_of_ble_eq_true rfl, Nat.le_of_ble_eq_true rfl⟩ (pw_V (ci := 9) (q0 := 0) hK hN rfl cw_0 hP hDc) rfl hl.1 rfl (Nat.le_of_ble_eq_true rfl) ⟨Nat.zero_le _, Nat.zero_le _⟩ dX9_worn_3) (fun r2 s1 H9 locs9 hs1 hP9 hD9 hS9 => ?_)
  clear hP hD hS
  have hS := hS9
  have hP := hP9
  have hD := hD9
  clear hP9 hD9 hS9
  obtain ⟨hBs1, gs1, fs1⟩ := hs1
  have hFs1 : FR [120, 121, 122, 123, 124, 125] st s1 := fr_ca fr_rf gs1 (sub_1 (List.mem_of_getElem? (i := 0) rfl) (sub_1 (List.mem_of_getElem? (i := 1) rfl) (sub_1 (List.mem_of_getElem? (i := 2) rfl) (sub_1 (List.mem_of_getElem? (i := 3) rfl) (sub_1 (List.mem_of_getElem? (i := 4) rfl) (sub_1 (List.mem_of_getElem? (i := 5) rfl) sub_0))))))
  have h3 : Iv (-6) 0 r2 := fs1.1
  refine lv_istore_n (lv' := [(3, .int r2), (0, .ref (a 0)), (1, .int p0), (2, .int p1)]) hx hb dX9_worn_6 rfl hl (by decide) rfl (fun ls hl => ?_)
  refine lv_iload_n hx hb dX9_worn_7 rfl (lv_at hl 0 rfl) ?_
  refine lv_if_eq (tgt := 15) hx hb dX9_worn_8 (by decide) (fun c4 => ?_) (fun c4 => ?_)
  · skip
    have h5 : Iv 0 0 r2 := eq_l c4 (iv_c (by decide) : Iv 0 0 0)
    refine lv_aload_n hx hb dX9_worn_15 rfl (lv_at hl 1 rfl) ?_
    refine va_get (D := D) (ci := 9) (v := .ref (a 125)) (C := RX9) (T := TX9) (N := 11) hx hb hT in_X9 hown hK hP 0 cw_0 rfl 7 (by decide) (hT _ t458) (fun _ h9 => h9) rfl dX9_worn_16 ?_
    refine va_get (D := D) (ci := 7) (v := .int (s1 125 5)) (C := RX7) (T := TX7) (N := 6) hx hb hT in_X7 hown hK hP 125 cw_125 rfl 5 (by decide) (hT _ t377) (fun _ h9 => h9) rfl dX9_worn_19 ?_
    rw [hQ]
    exact W.iret (v := (s1 125 5)) hx hb hr (fun t ht hW => ⟨⟨(s1 125 5), s1, rfl, ⟨hBs1, hFs1, trivial⟩, by rw [ht]; exact hP, va_K.moved hW.alike (hK.sub (tys' := []) [] rfl), by rw [hAe]; exact hD⟩, by rw [hAe]; exact hS.F ht⟩) hS.2.2 dX9_worn_22
  · skip
    have h6 : Iv (-6) (-1) r2 := ne_hi h3 c4 (by decide) (by decide)
    refine lv_iload_n hx hb dX9_worn_11 rfl (lv_at hl 0 rfl) ?_
    refine lv_goto (tgt := 22) hx hb dX9_worn_12 (by decide) ?_
    rw [hQ]
    exact W.iret (v := r2) hx hb hr (fun t ht hW => ⟨⟨r2, s1, rfl, ⟨hBs1, hFs1, trivial⟩, by rw [ht]; exact hP, va_K.moved hW.alike (hK.sub (tys' := []) [] rfl), by rw [hAe]; exact hD⟩, by rw [hAe]; exact hS.F ht⟩) hS.2.2 dX9_worn_22
