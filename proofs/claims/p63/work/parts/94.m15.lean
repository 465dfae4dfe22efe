set_option maxHeartbeats 4000000 in
set_option maxRecDepth 100000 in
theorem m_X10_shareOf (l : Launch) (D : va_G) (k : Nat → ClassId) (a : Nat → Nat) (st : CT) (sl : CL) (p0 : Int32) (p1 : Int32) (sz : Nat) (hB : MB st) (hp0 : Iv 0 7 p0) : Met l yX10_shareOf (.code yX10_shareOf cX10_shareOf 3 (some .int) :: TB) (rmk 2) (va_Pc [.ref (a 0), .int p0, .int p1] (PW D k sz (MWS k a st sl))) (vp_Si (fun r => (True))) 0 0 (fun _ => False) := by
  refine Met.ofW (cc := cX10_shareOf) (maxL := 3) (ret := (some .int)) (by decide) rfl ?_
  intro p e s m args below meth c s₁ B hml hv
  obtain ⟨rfl, hsz, hP, hK, hD0, hN⟩ := hv
  have hx := B.exec
  have hb := B.bytes
  have hr := B.returns
  have hT : ∀ w9 ∈ TB, w9.before ([.ref (a 0), .int p0, .int p1] : List Value).toArray s = true := fun w9 h => atoms_spec (ws := .code yX10_shareOf cX10_shareOf 3 (some .int) :: TB) B.pre w9 (List.mem_cons_of_mem _ h)
  have hown : s.vm.findClass RX10 = some m.cls := findClass_of_methodNamed B.named
  have S : CallFix p m c cX10_shareOf 3 s _ TB RX10 := ⟨hx, hb, hml, hown, hT⟩
  subst hsz
  have hl := lv_entry ([.ref (a 0), .int p0, .int p1]) (n := 3) (Nat.le_of_ble_eq_true rfl)
  rw [lg_entry_eq]
  generalize (lg_sl ([.ref (a 0), .int p0, .int p1]) ++ List.replicate (3 - (lg_sl ([.ref (a 0), .int p0, .int p1])).length) Slot.unset).toArray = ls at hl ⊢
  have hl : lv_has ls 3 [(0, .ref (a 0)), (1, .int p0), (2, .int p1)] := hl
  refine nameQ (fun Q hQ => ?_)
  refine lv_iload_n hx hb dX10_shareOf_0 rfl (lv_at hl 2 rfl) ?_
  refine lv_if_eq (tgt := 8) hx hb dX10_shareOf_1 (by decide) (fun c1 => ?_) (fun c1 => ?_)
  · skip
    have h2 : Iv 0 0 p1 := eq_l c1 (iv_c (by decide) : Iv 0 0 0)
    refine lv_aload_n hx hb dX10_shareOf_8 rfl (lv_at hl 0 rfl) ?_
    refine lv_iload_n hx hb dX10_shareOf_9 rfl (lv_at hl 1 rfl) ?_
    refine ro_V (As := [.int p0]) (rest := []) S (m_X10_likedOf l D k a st sl  p0 _  hB hp0 ) lkX10_276 ok_X10_likedOf ⟨rfl, rfl, Nat.le_of_ble_eq_true rfl, Nat.le_of_ble_eq_true rfl⟩ (pw_V (ci := 10) (q0 := 0) hK hN rfl mw_0 hP hD0) rfl hl.1 rfl (Nat.le_of_ble_eq_true rfl) ⟨Nat.zero_le _, Nat.zero_le _⟩ dX10_shareOf_10 (fun r3 er3 => ?_)
    rw [hQ]
    exact W.iret (v := r3) hx hb hr (fun t ht hW => ⟨r3, rfl, trivial, ht⟩) (fun _ h9 => by cases h9) dX10_shareOf_13
  · skip
    refine lv_iconst (v := 1) hx hb dX10_shareOf_4 (by decide) ?_
    refine lv_goto (tgt := 13) hx hb dX10_shareOf_5 (by decide) ?_
    rw [hQ]
    exact W.iret (v := 1) hx hb hr (fun t ht hW => ⟨1, rfl, trivial, ht⟩) (fun _ h9 => by cases h9) dX10_shareOf_13
set_option maxHeartbeats 4000000 in
set_option maxRecDepth 100000 in
theorem m_X10_share (l : Launch) (D : va_G) (k : Nat → ClassId) (a : Nat → Nat) (st : CT) (sl : CL) (p0 : Int32) (p1 : Int32) (p2 : Int32) (sz : Nat) (hB : MB st)  (hw : WOK (st 1)) : Met l yX10_share (.code yX10_share cX10_share 9 (some .int) :: TB) (rmw 8 0 0) (va_Pc [.ref (a 0), .int p0, .int p1, .int p2] (PW D k sz (MWS k a st sl))) (QI D (S := CT) (fun r u => MB u ∧ FR [7, 9, 8, 10, 11] st u ∧ ((True))) (fun u => MWS k a u sl) (fun _ => []) (MWS k a st sl) sz) 0 0 (va_A (MWS k a st sl) sz) := by
  refine Met.ofW (cc := cX10_share) (maxL := 9) (ret := (some .int)) (by decide) rfl ?_
  intro p e s m args below meth c s₁ B hml hv
  obtain ⟨rfl, hsz, hP, hK, hD0, hN⟩ := hv
  have hx := B.exec
  have hb := B.bytes
  have hr := B.returns
  have hT : ∀ w9 ∈ TB, w9.before ([.ref (a 0), .int p0, .int p1, .int p2] : List Value).toArray s = true := fun w9 h => atoms_spec (ws := .code yX10_share cX10_share 9 (some .int) :: TB) B.pre w9 (List.mem_cons_of_mem _ h)
  have hown : s.vm.findClass RX10 = some m.cls := findClass_of_methodNamed B.named
  have S : CallFix p m c cX10_share 9 s _ TB RX10 := ⟨hx, hb, hml, hown, hT⟩
  subst hsz
  have hD := hD0.self (sz := s.heap.size)
  generalize hAe : va_A (MWS k a st sl) s.heap.size = A at hD ⊢
  have hA : ∀ q : Nat, s.heap.size ≤ q → A q := fun q h => by rw [← hAe]; exact Or.inr h
  have hS : va_S A s.heap s.heap [] := va_S.rf
  have hl := lv_entry ([.ref (a 0), .int p0, .int p1, .int p2]) (n := 9) (Nat.le_of_ble_eq_true rfl)
  rw [lg_entry_eq]
  generalize (lg_sl ([.ref (a 0), .int p0, .int p1, .int p2]) ++ List.replicate (9 - (lg_sl ([.ref (a 0), .int p0, .int p1, .int p2])).length) Slot.unset).toArray = ls at hl ⊢
  have hl : lv_has ls 9 [(0, .ref (a 0)), (1, .int p0), (2, .int p1), (3, .int p2)] := hl
  refine nameQ (fun Q hQ => ?_)
  refine lv_aload_n hx hb dX10_share_0 rfl (lv_at hl 0 rfl) ?_
  refine lv_iload_n hx hb dX10_share_1 rfl (lv_at hl 1 rfl) ?_
  refine ro_V (As := [.int p0]) (rest := []) S (m_X10_isCart l D k a st sl  p0 _  hB  hw) lkX10_279 ok_X10_isCart ⟨rfl, rfl, Nat.le_of_ble_eq_true rfl, Nat.le_of_ble_eq_true rfl⟩ (pw_V (ci := 10) (q0 := 0) hK hN rfl mw_0 hP (hD.weaken (fun _ _ _ _ => trivial))) rfl hl.1 rfl (Nat.le_of_ble_eq_true rfl) ⟨Nat.zero_le _, Nat.zero_le _⟩ dX10_share_2 (fun r1 er1 => ?_)
  rcases er1 with ⟨rfl, g9⟩ | ⟨rfl, g9⟩
  · skip
    have g2 := g9
    have h3 : Iv 0 2 p0 := g2.1
    refine lv_if_eq (tgt := 28) hx hb dX10_share_5 (by decide) (fun c4 => ?_) (fun c4 => ?_)
    · first | exact absurd c4 (by decide) | exact absurd (by decide) c4
    refine lv_iload_n hx hb dX10_share_8 rfl (lv_at hl 2 rfl) ?_
    refine lv_i2l hx hb dX10_share_9 rfl ?_
    refine lv_lconst (v := 0) hx hb dX10_share_10 (by decide) ?_
    refine lv_ldc2 (v := 10000) hx hb hown (hT _ t1858) dX10_share_11 ?_
    refine ro_S (As := [.long (p1.toInt64), .long 0, .long 10000]) (rest := []) S (m_X10_in l D k a st sl  (p1.toInt64) 0 10000 _  hB  ) lkX10_85 ok_X10_in ⟨rfl, rfl, Nat.le_of_ble_eq_true rfl, Nat.le_of_ble_eq_true rfl⟩ (pw_S hK hN hP (hD.weaken (fun _ _ _ _ => trivial))) rfl hl.1 rfl (Nat.le_of_ble_eq_true rfl) ⟨Nat.zero_le _, Nat.zero_le _⟩ dX10_share_14 (fun r5 er5 => ?_)
    rcases er5 with ⟨rfl, g9⟩ | ⟨rfl, g9⟩
    · skip
      have g6 := g9
      have k7 := g6
      have h8 : (0 : Int) ≤ (p1.toInt64).toInt ∧ (p1.toInt64).toInt ≤ (10000 : Int) := ⟨((show (0 : Int) ≤ (p1.toInt64).toInt ∧ (p1.toInt64).toInt ≤ (10000 : Int) from ⟨Int.le_trans ((⟨by decide, by decide⟩ : (0 : Int) ≤ (0 : Int64).toInt ∧ (0 : Int64).toInt ≤ (0 : Int))).1 k7.1, Int.le_trans k7.2 ((⟨by decide, by decide⟩ : (10000 : Int) ≤ (10000 : Int64).toInt ∧ (10000 : Int64).toInt ≤ (10000 : Int))).2⟩)).1, ((show (0 : Int) ≤ (p1.toInt64).toInt ∧ (p1.toInt64).toInt ≤ (10000 : Int) from ⟨Int.le_trans ((⟨by decide, by decide⟩ : (0 : Int) ≤ (0 : Int64).toInt ∧ (0 : Int64).toInt ≤ (0 : Int))).1 k7.1, Int.le_trans k7.2 ((⟨by decide, by decide⟩ : (10000 : Int) ≤ (10000 : Int64).toInt ∧ (10000 : Int64).toInt ≤ (10000 : Int))).2⟩)).2⟩
      have h9 : Iv 0 10000 p1 := iv_lv h8
      refine lv_if_eq (tgt := 28) hx hb dX10_share_17 (by decide) (fun c10 => ?_) (fun c10 => ?_)
      · first | exact absurd c10 (by decide) | exact absurd (by decide) c10
      refine lv_aload_n hx hb dX10_share_20 rfl (lv_at hl 0 rfl) ?_
      refine lv_iload_n hx hb dX10_share_21 rfl (lv_at hl 3 rfl) ?_
      refine ro_V (As := [.int p2]) (rest := []) S (m_X10_isWheel l D k a st sl  p2 _  hB  hw) lkX10_269 ok_X10_isWheel ⟨rfl, rfl, Nat.le_of_ble_eq_true rfl, Nat.le_of_ble_eq_true rfl⟩ (pw_V (ci := 10) (q0 := 0) hK hN rfl mw_0 hP (hD.weaken (fun _ _ _ _ => trivial))) rfl hl.1 rfl (Nat.le_of_ble_eq_true rfl) ⟨Nat.zero_le _, Nat.zero_le _⟩ dX10_share_22 (fun r11 er11 => ?_)
      rcases er11 with ⟨rfl, g9⟩ | ⟨rfl, g9⟩
      · skip
        have g12 := g9
        have h13 : Iv 0 7 p2 := g12.1
        have k14 := g12.2
        refine lv_if_ne (tgt := 31) hx hb dX10_share_25 (by decide) (fun c15 => ?_) (fun c15 => ?_)
        rotate_left
        · first | exact absurd c15 (by decide) | exact absurd (by decide) c15
        refine lv_aload_n hx hb dX10_share_31 rfl (lv_at hl 0 rfl) ?_
        refine ca_v hP hD hS hA (fun hDc => run_V (mc := 0) (ms := 0) (As := []) (rest := []) S (m_X10_asItIs l D k a st sl   _  hB  hw) lkX10_273 ok_X10_asItIs ⟨rfl, rfl, Nat.le_of_ble_eq_true rfl, Nat.le_of_ble_eq_true rfl⟩ (pw_V (ci := 10) (q0 := 0) hK hN rfl mw_0 hP hDc) rfl hl.1 rfl (Nat.le_of_ble_eq_true rfl) ⟨Nat.zero_le _, Nat.zero_le _⟩ dX10_share_32) (fun s16 H9 locs9 hs16 hP9 hD9 hS9 => ?_)
        clear hP hD hS
        have hS := hS9
        have hP := hP9
        have hD := hD9
        clear hP9 hD9 hS9
        obtain ⟨hBs16, gs16, fs16⟩ := hs16
        have hFs16 : FR [7, 9, 8, 10, 11] st s16 := fr_ca fr_rf gs16 (sub_1 (List.mem_of_getElem? (i := 0) rfl) (sub_1 (List.mem_of_getElem? (i := 1) rfl) (sub_1 (List.mem_of_getElem? (i := 2) rfl) (sub_1 (List.mem_of_getElem? (i := 3) rfl) (sub_1 (List.mem_of_getElem? (i := 4) rfl) sub_0)))))
        refine lv_aload_n hx hb dX10_share_35 rfl (lv_at hl 0 rfl) ?_
        refine va_get (D := D) (ci := 10) (v := .ref (a 9)) (C := RX10) (T := TX10) (N := 38) hx hb hT in_X10 hown hK hP 0 mw_0 rfl 17 (by decide) (hT _ t1279) (fun _ h9 => h9) rfl dX10_share_36 ?_
        refine lv_iload_n hx hb dX10_share_39 rfl (lv_at hl 3 rfl) ?_
        refine va_iald hx hb hK hP 9 0 mw_9 rfl (iv_in h13 (by decide) (by decide)) dX10_share_40 ?_
        refine lv_topi (fun z18 ez18 => ?_)
        refine lv_iload_n hx hb dX10_share_41 rfl (lv_at hl 1 rfl) ?_
        refine lv_icmp_eq (tgt := 48) hx hb dX10_share_42 (by decide) (fun c19 => ?_) (fun c19 => ?_)
        · skip
          have h20 : Iv 0 2 z18 := eq_l c19 h3
          refine lv_aload_n hx hb dX10_share_48 rfl (lv_at hl 0 rfl) ?_
          refine lv_iload_n hx hb dX10_share_49 rfl (lv_at hl 1 rfl) ?_
          refine ro_V (As := [.int p0]) (rest := []) S (m_X10_wheelsOf l D k a s16 sl  p0 _  hBs16  (wok_of (hFs16 1 (nm_1 (by decide) (nm_1 (by decide) (nm_1 (by decide) (nm_1 (by decide) (nm_1 (by decide) nm_0)))))) hw)) lkX10_246 ok_X10_wheelsOf ⟨rfl, rfl, Nat.le_of_ble_eq_true rfl, Nat.le_of_ble_eq_true rfl⟩ (pw_V (ci := 10) (q0 := 0) hK hN rfl mw_0 hP (hD.weaken (fun _ _ _ _ => trivial))) rfl hl.1 rfl (Nat.le_of_ble_eq_true rfl) ⟨Nat.zero_le _, Nat.zero_le _⟩ dX10_share_50 (fun r21 er21 => ?_)
          have h22 : Iv 0 255 r21 := er21.1
          have k23 := er21.2
          have h24 : Iv 1 255 r21 := ⟨k23 p2 (h13).1 (by rw [(hFs16 1 (nm_1 (by decide) (nm_1 (by decide) (nm_1 (by decide) (nm_1 (by decide) (nm_1 (by decide) nm_0))))))]; exact k14) (by rw [← ez18]; exact c19), (h22).2⟩
          refine lv_istore (lv' := [(4, .int r21), (0, .ref (a 0)), (1, .int p0), (2, .int p1), (3, .int p2)]) hx hb dX10_share_53 hl (by decide) rfl (fun ls hl => ?_)
          refine lv_iconst (v := 0) hx hb dX10_share_55 (by decide) ?_
          refine lv_istore (lv' := [(5, .int 0), (4, .int r21), (0, .ref (a 0)), (1, .int p0), (2, .int p1), (3, .int p2)]) hx hb dX10_share_56 hl (by decide) rfl (fun ls hl => ?_)
          refine lv_iconst (v := 0) hx hb dX10_share_58 (by decide) ?_
          refine lv_istore (lv' := [(6, .int 0), (5, .int 0), (4, .int r21), (0, .ref (a 0)), (1, .int p0), (2, .int p1), (3, .int p2)]) hx hb dX10_share_59 hl (by decide) rfl (fun ls hl => ?_)
          have lp61 : ∀ (n9_61 : Nat) (v6_61 : Int32) (v5_61 : Int32) (ls : Array Slot), Iv 0 8 v6_61 → lv_has ls 9 [(6, .int v6_61), (5, .int v5_61), (4, .int r21), (0, .ref (a 0)), (1, .int p0), (2, .int p1), (3, .int p2)] → (8 : Int) - v6_61.toInt < (n9_61 : Int) → W p l e (rmw 8 0 0) s m ([.ref (a 0), .int p0, .int p1, .int p2] : List Value).toArray below meth c H9 locs9 0 0 Q (F0 m 61 ls []) := by
            clear hl
            intro n9_61
            induction n9_61 with
            | zero =>
              intro v6_61 v5_61 ls iv6_61 hl hm61
              exact (fu_0 iv6_61 hm61).elim
            | succ n9_61 ih61 =>
              intro v6_61 v5_61 ls iv6_61 hl hm61
              refine lv_iload hx hb dX10_share_61 (lv_at hl 0 rfl) ?_
              refine lv_aload_n hx hb dX10_share_63 rfl (lv_at hl 3 rfl) ?_
              refine va_get (D := D) (ci := 10) (v := .ref (a 1)) (C := RX10) (T := TX10) (N := 38) hx hb hT in_X10 hown hK hP 0 mw_0 rfl 1 (by decide) (hT _ t1263) (fun _ h9 => h9) rfl dX10_share_64 ?_
              refine lv_iconst (v := 3) hx hb dX10_share_67 (by decide) ?_
              refine va_iald hx hb hK hP 1 0 mw_1 rfl (by unfold vp_in; decide) dX10_share_68 ?_
              refine k_top (y := (s16 1 3)) rfl ?_
              refine k_top (y := (st 1 3)) (congrFun (hFs16 1 (nm_1 (by decide) (nm_1 (by decide) (nm_1 (by decide) (nm_1 (by decide) (nm_1 (by decide) nm_0)))))) 3) ?_
              have h151 : Iv 0 8 (st 1 3) := (tok_at (hw).1 3 0 8 (by decide) (by decide) (by decide))
              refine lv_icmp_ge (tgt := 97) hx hb dX10_share_69 (by decide) (fun c152 => ?_) (fun c152 => ?_)
              · skip
                have n153 : (st 1 3).toInt ≤ v6_61.toInt := (i_le c152)
                refine lv_iload hx hb dX10_share_97 (lv_at hl 1 rfl) ?_
                refine lv_if_ne (tgt := 106) hx hb dX10_share_99 (by decide) (fun c154 => ?_) (fun c154 => ?_)
                · skip
                  refine lv_iconst (v := 0) hx hb dX10_share_106 (by decide) ?_
                  refine lv_istore (lv' := [(6, .int 0), (5, .int v5_61), (4, .int r21), (0, .ref (a 0)), (1, .int p0), (2, .int p1), (3, .int p2)]) hx hb dX10_share_107 hl (by decide) rfl (fun ls hl => ?_)
                  refine lv_iload hx hb dX10_share_109 (lv_at hl 0 rfl) ?_
                  refine lv_if_eq (tgt := 121) hx hb dX10_share_111 (by decide) (fun c155 => ?_) (fun c155 => ?_)
                  rotate_left
                  · first | exact absurd c155 (by decide) | exact absurd (by decide) c155
                  refine lv_iload_n hx hb dX10_share_121 rfl (lv_at hl 5 rfl) ?_
                  refine lv_istore (lv' := [(7, .int p1), (6, .int 0), (5, .int v5_61), (4, .int r21), (0, .ref (a 0)), (1, .int p0), (2, .int p1), (3, .int p2)]) hx hb dX10_share_122 hl (by decide) rfl (fun ls hl => ?_)
                  refine lv_iconst (v := 0) hx hb dX10_share_124 (by decide) ?_
                  refine lv_istore (lv' := [(8, .int 0), (7, .int p1), (6, .int 0), (5, .int v5_61), (4, .int r21), (0, .ref (a 0)), (1, .int p0), (2, .int p1), (3, .int p2)]) hx hb dX10_share_125 hl (by decide) rfl (fun ls hl => ?_)
                  have lp127 : ∀ (n9_127 : Nat) (v8_127 : Int32) (v7_127 : Int32) (ls : Array Slot), Iv 0 8 v8_127 → lv_has ls 9 [(8, .int v8_127), (7, .int v7_127), (6, .int 0), (5, .int v5_61), (4, .int r21), (0, .ref (a 0)), (1, .int p0), (2, .int p1), (3, .int p2)] → (8 : Int) - v8_127.toInt < (n9_127 : Int) → W p l e (rmw 8 0 0) s m ([.ref (a 0), .int p0, .int p1, .int p2] : List Value).toArray below meth c H9 locs9 0 0 Q (F0 m 127 ls []) := by
                    clear hl
                    intro n9_127
                    induction n9_127 with
                    | zero =>
                      intro v8_127 v7_127 ls iv8_127 hl hm127
                      exact (fu_0 iv8_127 hm127).elim
                    | succ n9_127 ih127 =>
                      intro v8_127 v7_127 ls iv8_127 hl hm127
                      refine lv_iload hx hb dX10_share_127 (lv_at hl 0 rfl) ?_
                      refine lv_aload_n hx hb dX10_share_129 rfl (lv_at hl 5 rfl) ?_
                      refine va_get (D := D) (ci := 10) (v := .ref (a 1)) (C := RX10) (T := TX10) (N := 38) hx hb hT in_X10 hown hK hP 0 mw_0 rfl 1 (by decide) (hT _ t1263) (fun _ h9 => h9) rfl dX10_share_130 ?_
                      refine lv_iconst (v := 3) hx hb dX10_share_133 (by decide) ?_
                      refine va_iald hx hb hK hP 1 0 mw_1 rfl (by unfold vp_in; decide) dX10_share_134 ?_
                      refine k_top (y := (s16 1 3)) rfl ?_
                      refine k_top (y := (st 1 3)) (congrFun (hFs16 1 (nm_1 (by decide) (nm_1 (by decide) (nm_1 (by decide) (nm_1 (by decide) (nm_1 (by decide) nm_0)))))) 3) ?_
                      refine lv_icmp_ge (tgt := 177) hx hb dX10_share_135 (by decide) (fun c337 => ?_) (fun c337 => ?_)
                      · skip
                        have n338 : (st 1 3).toInt ≤ v8_127.toInt := (i_le c337)
                        refine lv_iload hx hb dX10_share_177 (lv_at hl 4 rfl) ?_
                        refine lv_iconst (v := 1) hx hb dX10_share_179 (by decide) ?_
                        refine lv_iload_n hx hb dX10_share_180 rfl (lv_at hl 8 rfl) ?_
                        refine lv_ishl hx hb dX10_share_181 ?_
                        refine lv_topi (fun z339 ez339 => ?_)
                        have h340 : Iv 1 128 z339 := iv_shl 7 ez339 h13 (by decide) (by decide) (by decide)
                        refine lv_iconst (v := 1) hx hb dX10_share_182 (by decide) ?_
                        refine lv_isub hx hb dX10_share_183 ?_
                        refine lv_topi (fun z341 ez341 => ?_)
                        have h342 : Iv 0 127 z341 := iv_sub ez341 h340 (iv_c (by decide) : Iv 1 1 1) (by decide) (by decide) (by decide) (by decide)
                        refine lv_iand hx hb dX10_share_184 ?_
                        refine lv_topi (fun z343 ez343 => ?_)
                        have h344 : Iv 0 127 z343 := iv_andr ez343 h342
                        refine ro_S (As := [.int z343]) (rest := []) S (m_X10_bits l D k a s16 sl  z343 _  hBs16  ) lkX10_190 ok_X10_bits ⟨rfl, rfl, Nat.le_of_ble_eq_true rfl, Nat.le_of_ble_eq_true rfl⟩ (pw_S hK hN hP (hD.weaken (fun _ _ _ _ => trivial))) rfl hl.1 rfl (Nat.le_of_ble_eq_true rfl) ⟨Nat.zero_le _, Nat.zero_le _⟩ dX10_share_185 (fun r345 er345 => ?_)
                        have k346 := er345
                        refine lv_istore (lv' := [(8, .int r345), (7, .int v7_127), (6, .int 0), (5, .int v5_61), (4, .int r21), (0, .ref (a 0)), (1, .int p0), (2, .int p1), (3, .int p2)]) hx hb dX10_share_188 hl (by decide) rfl (fun ls hl => ?_)
                        refine lv_iload_n hx hb dX10_share_190 rfl (lv_at hl 7 rfl) ?_
                        refine lv_aload_n hx hb dX10_share_191 rfl (lv_at hl 5 rfl) ?_
                        refine lv_iload_n hx hb dX10_share_192 rfl (lv_at hl 8 rfl) ?_
                        refine lv_iload hx hb dX10_share_193 (lv_at hl 2 rfl) ?_
                        refine ro_V (As := [.int p2, .int 0]) (rest := [.int p1]) S (m_X10_shareOf l D k a s16 sl  p2 0 _  hBs16 h13 ) lkX10_392 ok_X10_shareOf ⟨rfl, rfl, Nat.le_of_ble_eq_true rfl, Nat.le_of_ble_eq_true rfl⟩ (pw_V (ci := 10) (q0 := 0) hK hN rfl mw_0 hP (hD.weaken (fun _ _ _ _ => trivial))) rfl hl.1 rfl (Nat.le_of_ble_eq_true rfl) ⟨Nat.zero_le _, Nat.zero_le _⟩ dX10_share_195 (fun r347 er347 => ?_)
                        refine lv_imul hx hb dX10_share_198 ?_
                        refine lv_topi (fun z348 ez348 => ?_)
                        refine lv_iload hx hb dX10_share_199 (lv_at hl 3 rfl) ?_
                        refine lv_idiv hx hb dX10_share_201 c154 ?_
                        refine lv_topi (fun z349 ez349 => ?_)
                        refine lv_iload hx hb dX10_share_202 (lv_at hl 0 rfl) ?_
                        refine lv_iload hx hb dX10_share_204 (lv_at hl 1 rfl) ?_
                        refine lv_icmp_ge (tgt := 213) hx hb dX10_share_206 (by decide) (fun c350 => ?_) (fun c350 => ?_)
                        · skip
                          have n351 : v7_127.toInt ≤ r345.toInt := (i_le c350)
                          refine lv_iconst (v := 0) hx hb dX10_share_213 (by decide) ?_
                          refine lv_iadd hx hb dX10_share_214 ?_
                          refine lv_topi (fun z352 ez352 => ?_)
                          rw [hQ]
                          exact W.iret (v := z352) hx hb hr (fun t ht hW => ⟨⟨z352, s16, rfl, ⟨hBs16, hFs16, trivial⟩, by rw [ht]; exact hP, va_K.moved hW.alike (hK.sub (tys' := []) [] rfl), by rw [hAe]; exact hD⟩, by rw [hAe]; exact hS.F ht⟩) hS.2.2 dX10_share_215
                        · skip
                          have n353 : r345.toInt < v7_127.toInt := (i_nle c350)
                          have h354 : Iv (-2147483648) 2147483646 r345 := lt_l (iv_full r345) n353 (iv_full v7_127) (by decide)
                          have h355 : Iv (-2147483647) 2147483647 v7_127 := lt_r (iv_full r345) n353 (iv_full v7_127) (by decide)
                          refine lv_iconst (v := 1) hx hb dX10_share_209 (by decide) ?_
                          refine lv_goto (tgt := 214) hx hb dX10_share_210 (by decide) ?_
                          refine lv_iadd hx hb dX10_share_214 ?_
                          refine lv_topi (fun z356 ez356 => ?_)
                          rw [hQ]
                          exact W.iret (v := z356) hx hb hr (fun t ht hW => ⟨⟨z356, s16, rfl, ⟨hBs16, hFs16, trivial⟩, by rw [ht]; exact hP, va_K.moved hW.alike (hK.sub (tys' := []) [] rfl), by rw [hAe]; exact hD⟩, by rw [hAe]; exact hS.F ht⟩) hS.2.2 dX10_share_215
                      · skip
                        have n357 : v8_127.toInt < (st 1 3).toInt := (i_nle c337)
                        have h358 : Iv 0 7 v8_127 := lt_l iv8_127 n357 h151 (by decide)
                        have h359 : Iv 1 8 (st 1 3) := lt_r iv8_127 n357 h151 (by decide)
                        refine lv_iload hx hb dX10_share_138 (lv_at hl 1 rfl) ?_
                        refine lv_iload hx hb dX10_share_140 (lv_at hl 4 rfl) ?_
                        refine lv_iload hx hb dX10_share_142 (lv_at hl 0 rfl) ?_
                        refine ro_S (As := [.int r21, .int v8_127]) (rest := [.int v7_127]) S (m_X10_bit l D k a s16 sl  r21 v8_127 _  hBs16  ) lkX10_193 ok_X10_bit ⟨rfl, rfl, Nat.le_of_ble_eq_true rfl, Nat.le_of_ble_eq_true rfl⟩ (pw_S hK hN hP (hD.weaken (fun _ _ _ _ => trivial))) rfl hl.1 rfl (Nat.le_of_ble_eq_true rfl) ⟨Nat.zero_le _, Nat.zero_le _⟩ dX10_share_144 (fun r360 er360 => ?_)
                        have h361 : Iv 0 1 r360 := er360.1
                        have k362 := er360.2
                        refine lv_iconst (v := 1) hx hb dX10_share_147 (by decide) ?_
                        refine lv_icmp_ne (tgt := 167) hx hb dX10_share_148 (by decide) (fun c363 => ?_) (fun c363 => ?_)
                        · skip
                          have h364 : Iv 0 0 r360 := ne_hi h361 (show ¬ r360 = 1 from c363) (by decide) (by decide)
                          refine lv_iconst (v := 0) hx hb dX10_share_167 (by decide) ?_
                          refine lv_isub hx hb dX10_share_168 ?_
                          refine lv_topi (fun z365 ez365 => ?_)
                          refine lv_istore (lv' := [(7, .int z365), (8, .int v8_127), (6, .int 0), (5, .int v5_61), (4, .int r21), (0, .ref (a 0)), (1, .int p0), (2, .int p1), (3, .int p2)]) hx hb dX10_share_169 hl (by decide) rfl (fun ls hl => ?_)
                          obtain ⟨z366, ez366⟩ : ∃ z9 : Int32, z9 = v8_127 + Int32.ofInt 1 := ⟨_, rfl⟩
                          have h367 : Iv 1 8 z366 := iv_inc ez366 h358 (by decide) (by decide) (by decide) (by decide) (by decide) (by decide)
                          refine lv_iinc (v := z366) (lv' := [(8, .int z366), (7, .int z365), (6, .int 0), (5, .int v5_61), (4, .int r21), (0, .ref (a 0)), (1, .int p0), (2, .int p1), (3, .int p2)]) hx hb dX10_share_171 hl (k := 1) rfl ez366.symm (by decide) rfl (fun ls hl => ?_)
                          refine lv_goto (tgt := 127) hx hb dX10_share_174 (by decide) ?_
                          exact ih127 z366 z365 _ (iv_mono (c := 0) (d := 8) h367 (by decide) (by decide)) (lv_sub hl [0, 1, 2, 3, 4, 5, 6, 7, 8] rfl) (fu_s (lo := 0) (ti_inc ez366 h358 (by decide) (by decide) (by decide) (by decide)) (by decide) hm127)
                        · skip
                          have h368 : Iv 1 1 r360 := eq_l c363 (iv_c (by decide) : Iv 1 1 1)
                          refine lv_iload_n hx hb dX10_share_151 rfl (lv_at hl 7 rfl) ?_
                          refine lv_aload_n hx hb dX10_share_152 rfl (lv_at hl 5 rfl) ?_
                          refine lv_iload hx hb dX10_share_153 (lv_at hl 0 rfl) ?_
                          refine lv_iload hx hb dX10_share_155 (lv_at hl 2 rfl) ?_
                          refine ro_V (As := [.int v8_127, .int 0]) (rest := [.int p1, .int v7_127]) S (m_X10_shareOf l D k a s16 sl  v8_127 0 _  hBs16 h358 ) lkX10_392 ok_X10_shareOf ⟨rfl, rfl, Nat.le_of_ble_eq_true rfl, Nat.le_of_ble_eq_true rfl⟩ (pw_V (ci := 10) (q0 := 0) hK hN rfl mw_0 hP (hD.weaken (fun _ _ _ _ => trivial))) rfl hl.1 rfl (Nat.le_of_ble_eq_true rfl) ⟨Nat.zero_le _, Nat.zero_le _⟩ dX10_share_157 (fun r369 er369 => ?_)
                          refine lv_imul hx hb dX10_share_160 ?_
                          refine lv_topi (fun z370 ez370 => ?_)
                          refine lv_iload hx hb dX10_share_161 (lv_at hl 3 rfl) ?_
                          refine lv_idiv hx hb dX10_share_163 c154 ?_
                          refine lv_topi (fun z371 ez371 => ?_)
                          refine lv_goto (tgt := 168) hx hb dX10_share_164 (by decide) ?_
                          refine lv_isub hx hb dX10_share_168 ?_
                          refine lv_topi (fun z372 ez372 => ?_)
                          refine lv_istore (lv' := [(7, .int z372), (8, .int v8_127), (6, .int 0), (5, .int v5_61), (4, .int r21), (0, .ref (a 0)), (1, .int p0), (2, .int p1), (3, .int p2)]) hx hb dX10_share_169 hl (by decide) rfl (fun ls hl => ?_)
                          obtain ⟨z373, ez373⟩ : ∃ z9 : Int32, z9 = v8_127 + Int32.ofInt 1 := ⟨_, rfl⟩
                          have h374 : Iv 1 8 z373 := iv_inc ez373 h358 (by decide) (by decide) (by decide) (by decide) (by decide) (by decide)
                          refine lv_iinc (v := z373) (lv' := [(8, .int z373), (7, .int z372), (6, .int 0), (5, .int v5_61), (4, .int r21), (0, .ref (a 0)), (1, .int p0), (2, .int p1), (3, .int p2)]) hx hb dX10_share_171 hl (k := 1) rfl ez373.symm (by decide) rfl (fun ls hl => ?_)
                          refine lv_goto (tgt := 127) hx hb dX10_share_174 (by decide) ?_
                          exact ih127 z373 z372 _ (iv_mono (c := 0) (d := 8) h374 (by decide) (by decide)) (lv_sub hl [0, 1, 2, 3, 4, 5, 6, 7, 8] rfl) (fu_s (lo := 0) (ti_inc ez373 h358 (by decide) (by decide) (by decide) (by decide)) (by decide) hm127)
                  exact lp127 9 0 p1 _ (iv_mono (c := 0) (d := 8) (iv_c (by decide) : Iv 0 0 0) (by decide) (by decide)) (lv_sub hl [0, 1, 2, 3, 4, 5, 6, 7, 8] rfl) (fu_i (iv_mono (c := 0) (d := 8) (iv_c (by decide) : Iv 0 0 0) (by decide) (by decide)) (by decide))
                · skip
                  have h375 : Iv 0 0 v5_61 := eq_l c154 (iv_c (by decide) : Iv 0 0 0)
                  refine lv_iconst (v := 1) hx hb dX10_share_102 (by decide) ?_
                  refine lv_goto (tgt := 107) hx hb dX10_share_103 (by decide) ?_
                  refine lv_istore (lv' := [(6, .int 1), (5, .int v5_61), (4, .int r21), (0, .ref (a 0)), (1, .int p0), (2, .int p1), (3, .int p2)]) hx hb dX10_share_107 hl (by decide) rfl (fun ls hl => ?_)
                  refine lv_iload hx hb dX10_share_109 (lv_at hl 0 rfl) ?_
                  refine lv_if_eq (tgt := 121) hx hb dX10_share_111 (by decide) (fun c376 => ?_) (fun c376 => ?_)
                  · first | exact absurd c376 (by decide) | exact absurd (by decide) c376
                  refine lv_iload hx hb dX10_share_114 (lv_at hl 2 rfl) ?_
                  refine ro_S (As := [.int r21]) (rest := []) S (m_X10_bits l D k a s16 sl  r21 _  hBs16  ) lkX10_190 ok_X10_bits ⟨rfl, rfl, Nat.le_of_ble_eq_true rfl, Nat.le_of_ble_eq_true rfl⟩ (pw_S hK hN hP (hD.weaken (fun _ _ _ _ => trivial))) rfl hl.1 rfl (Nat.le_of_ble_eq_true rfl) ⟨Nat.zero_le _, Nat.zero_le _⟩ dX10_share_116 (fun r377 er377 => ?_)
                  have k378 := er377
                  have h379 : Iv 1 2147483647 r377 := ⟨by rw [k378]; exact bs_nz h24, ((iv_full r377)).2⟩
                  refine lv_istore (lv' := [(5, .int r377), (6, .int 1), (4, .int r21), (0, .ref (a 0)), (1, .int p0), (2, .int p1), (3, .int p2)]) hx hb dX10_share_119 hl (by decide) rfl (fun ls hl => ?_)
                  refine lv_iload_n hx hb dX10_share_121 rfl (lv_at hl 5 rfl) ?_
                  refine lv_istore (lv' := [(7, .int p1), (5, .int r377), (6, .int 1), (4, .int r21), (0, .ref (a 0)), (1, .int p0), (2, .int p1), (3, .int p2)]) hx hb dX10_share_122 hl (by decide) rfl (fun ls hl => ?_)
                  refine lv_iconst (v := 0) hx hb dX10_share_124 (by decide) ?_
                  refine lv_istore (lv' := [(8, .int 0), (7, .int p1), (5, .int r377), (6, .int 1), (4, .int r21), (0, .ref (a 0)), (1, .int p0), (2, .int p1), (3, .int p2)]) hx hb dX10_share_125 hl (by decide) rfl (fun ls hl => ?_)
                  have lp127 : ∀ (n9_127 : Nat) (v8_127 : Int32) (v7_127 : Int32) (ls : Array Slot), Iv 0 8 v8_127 → lv_has ls 9 [(8, .int v8_127), (7, .int v7_127), (5, .int r377), (6, .int 1), (4, .int r21), (0, .ref (a 0)), (1, .int p0), (2, .int p1), (3, .int p2)] → (8 : Int) - v8_127.toInt < (n9_127 : Int) → W p l e (rmw 8 0 0) s m ([.ref (a 0), .int p0, .int p1, .int p2] : List Value).toArray below meth c H9 locs9 0 0 Q (F0 m 127 ls []) := by
                    clear hl
                    intro n9_127
                    induction n9_127 with
                    | zero =>
                      intro v8_127 v7_127 ls iv8_127 hl hm127
                      exact (fu_0 iv8_127 hm127).elim
                    | succ n9_127 ih127 =>
                      intro v8_127 v7_127 ls iv8_127 hl hm127
                      refine lv_iload hx hb dX10_share_127 (lv_at hl 0 rfl) ?_
                      refine lv_aload_n hx hb dX10_share_129 rfl (lv_at hl 5 rfl) ?_
                      refine va_get (D := D) (ci := 10) (v := .ref (a 1)) (C := RX10) (T := TX10) (N := 38) hx hb hT in_X10 hown hK hP 0 mw_0 rfl 1 (by decide) (hT _ t1263) (fun _ h9 => h9) rfl dX10_share_130 ?_
                      refine lv_iconst (v := 3) hx hb dX10_share_133 (by decide) ?_
                      refine va_iald hx hb hK hP 1 0 mw_1 rfl (by unfold vp_in; decide) dX10_share_134 ?_
                      refine k_top (y := (s16 1 3)) rfl ?_
                      refine k_top (y := (st 1 3)) (congrFun (hFs16 1 (nm_1 (by decide) (nm_1 (by decide) (nm_1 (by decide) (nm_1 (by decide) (nm_1 (by decide) nm_0)))))) 3) ?_
                      refine lv_icmp_ge (tgt := 177) hx hb dX10_share_135 (by decide) (fun c561 => ?_) (fun c561 => ?_)
                      · skip
                        have n562 : (st 1 3).toInt ≤ v8_127.toInt := (i_le c561)
                        refine lv_iload hx hb dX10_share_177 (lv_at hl 4 rfl) ?_
                        refine lv_iconst (v := 1) hx hb dX10_share_179 (by decide) ?_
                        refine lv_iload_n hx hb dX10_share_180 rfl (lv_at hl 8 rfl) ?_
                        refine lv_ishl hx hb dX10_share_181 ?_
                        refine lv_topi (fun z563 ez563 => ?_)
                        have h564 : Iv 1 128 z563 := iv_shl 7 ez563 h13 (by decide) (by decide) (by decide)
                        refine lv_iconst (v := 1) hx hb dX10_share_182 (by decide) ?_
                        refine lv_isub hx hb dX10_share_183 ?_
                        refine lv_topi (fun z565 ez565 => ?_)
                        have h566 : Iv 0 127 z565 := iv_sub ez565 h564 (iv_c (by decide) : Iv 1 1 1) (by decide) (by decide) (by decide) (by decide)
                        refine lv_iand hx hb dX10_share_184 ?_
                        refine lv_topi (fun z567 ez567 => ?_)
                        have h568 : Iv 0 127 z567 := iv_andr ez567 h566
                        refine ro_S (As := [.int z567]) (rest := []) S (m_X10_bits l D k a s16 sl  z567 _  hBs16  ) lkX10_190 ok_X10_bits ⟨rfl, rfl, Nat.le_of_ble_eq_true rfl, Nat.le_of_ble_eq_true rfl⟩ (pw_S hK hN hP (hD.weaken (fun _ _ _ _ => trivial))) rfl hl.1 rfl (Nat.le_of_ble_eq_true rfl) ⟨Nat.zero_le _, Nat.zero_le _⟩ dX10_share_185 (fun r569 er569 => ?_)
                        have k570 := er569
                        refine lv_istore (lv' := [(8, .int r569), (7, .int v7_127), (5, .int r377), (6, .int 1), (4, .int r21), (0, .ref (a 0)), (1, .int p0), (2, .int p1), (3, .int p2)]) hx hb dX10_share_188 hl (by decide) rfl (fun ls hl => ?_)
                        refine lv_iload_n hx hb dX10_share_190 rfl (lv_at hl 7 rfl) ?_
                        refine lv_aload_n hx hb dX10_share_191 rfl (lv_at hl 5 rfl) ?_
                        refine lv_iload_n hx hb dX10_share_192 rfl (lv_at hl 8 rfl) ?_
                        refine lv_iload hx hb dX10_share_193 (lv_at hl 3 rfl) ?_
                        refine ro_V (As := [.int p2, .int 1]) (rest := [.int p1]) S (m_X10_shareOf l D k a s16 sl  p2 1 _  hBs16 h13 ) lkX10_392 ok_X10_shareOf ⟨rfl, rfl, Nat.le_of_ble_eq_true rfl, Nat.le_of_ble_eq_true rfl⟩ (pw_V (ci := 10) (q0 := 0) hK hN rfl mw_0 hP (hD.weaken (fun _ _ _ _ => trivial))) rfl hl.1 rfl (Nat.le_of_ble_eq_true rfl) ⟨Nat.zero_le _, Nat.zero_le _⟩ dX10_share_195 (fun r571 er571 => ?_)
                        refine lv_imul hx hb dX10_share_198 ?_
                        refine lv_topi (fun z572 ez572 => ?_)
                        refine lv_iload hx hb dX10_share_199 (lv_at hl 2 rfl) ?_
                        refine lv_idiv hx hb dX10_share_201 (iv_nz h379 (by decide)) ?_
                        refine lv_topi (fun z573 ez573 => ?_)
                        refine lv_iload hx hb dX10_share_202 (lv_at hl 0 rfl) ?_
                        refine lv_iload hx hb dX10_share_204 (lv_at hl 1 rfl) ?_
                        refine lv_icmp_ge (tgt := 213) hx hb dX10_share_206 (by decide) (fun c574 => ?_) (fun c574 => ?_)
                        · skip
                          have n575 : v7_127.toInt ≤ r569.toInt := (i_le c574)
                          refine lv_iconst (v := 0) hx hb dX10_share_213 (by decide) ?_
                          refine lv_iadd hx hb dX10_share_214 ?_
                          refine lv_topi (fun z576 ez576 => ?_)
                          rw [hQ]
                          exact W.iret (v := z576) hx hb hr (fun t ht hW => ⟨⟨z576, s16, rfl, ⟨hBs16, hFs16, trivial⟩, by rw [ht]; exact hP, va_K.moved hW.alike (hK.sub (tys' := []) [] rfl), by rw [hAe]; exact hD⟩, by rw [hAe]; exact hS.F ht⟩) hS.2.2 dX10_share_215
                        · skip
                          have n577 : r569.toInt < v7_127.toInt := (i_nle c574)
                          have h578 : Iv (-2147483648) 2147483646 r569 := lt_l (iv_full r569) n577 (iv_full v7_127) (by decide)
                          have h579 : Iv (-2147483647) 2147483647 v7_127 := lt_r (iv_full r569) n577 (iv_full v7_127) (by decide)
                          refine lv_iconst (v := 1) hx hb dX10_share_209 (by decide) ?_
                          refine lv_goto (tgt := 214) hx hb dX10_share_210 (by decide) ?_
                          refine lv_iadd hx hb dX10_share_214 ?_
                          refine lv_topi (fun z580 ez580 => ?_)
                          rw [hQ]
                          exact W.iret (v := z580) hx hb hr (fun t ht hW => ⟨⟨z580, s16, rfl, ⟨hBs16, hFs16, trivial⟩, by rw [ht]; exact hP, va_K.moved hW.alike (hK.sub (tys' := []) [] rfl), by rw [hAe]; exact hD⟩, by rw [hAe]; exact hS.F ht⟩) hS.2.2 dX10_share_215
                      · skip
                        have n581 : v8_127.toInt < (st 1 3).toInt := (i_nle c561)
                        have h582 : Iv 0 7 v8_127 := lt_l iv8_127 n581 h151 (by decide)
                        have h583 : Iv 1 8 (st 1 3) := lt_r iv8_127 n581 h151 (by decide)
                        refine lv_iload hx hb dX10_share_138 (lv_at hl 1 rfl) ?_
                        refine lv_iload hx hb dX10_share_140 (lv_at hl 4 rfl) ?_
                        refine lv_iload hx hb dX10_share_142 (lv_at hl 0 rfl) ?_
                        refine ro_S (As := [.int r21, .int v8_127]) (rest := [.int v7_127]) S (m_X10_bit l D k a s16 sl  r21 v8_127 _  hBs16  ) lkX10_193 ok_X10_bit ⟨rfl, rfl, Nat.le_of_ble_eq_true rfl, Nat.le_of_ble_eq_true rfl⟩ (pw_S hK hN hP (hD.weaken (fun _ _ _ _ => trivial))) rfl hl.1 rfl (Nat.le_of_ble_eq_true rfl) ⟨Nat.zero_le _, Nat.zero_le _⟩ dX10_share_144 (fun r584 er584 => ?_)
                        have h585 : Iv 0 1 r584 := er584.1
                        have k586 := er584.2
                        refine lv_iconst (v := 1) hx hb dX10_share_147 (by decide) ?_
                        refine lv_icmp_ne (tgt := 167) hx hb dX10_share_148 (by decide) (fun c587 => ?_) (fun c587 => ?_)
                        · skip
                          have h588 : Iv 0 0 r584 := ne_hi h585 (show ¬ r584 = 1 from c587) (by decide) (by decide)
                          refine lv_iconst (v := 0) hx hb dX10_share_167 (by decide) ?_
                          refine lv_isub hx hb dX10_share_168 ?_
                          refine lv_topi (fun z589 ez589 => ?_)
                          refine lv_istore (lv' := [(7, .int z589), (8, .int v8_127), (5, .int r377), (6, .int 1), (4, .int r21), (0, .ref (a 0)), (1, .int p0), (2, .int p1), (3, .int p2)]) hx hb dX10_share_169 hl (by decide) rfl (fun ls hl => ?_)
                          obtain ⟨z590, ez590⟩ : ∃ z9 : Int32, z9 = v8_127 + Int32.ofInt 1 := ⟨_, rfl⟩
                          have h591 : Iv 1 8 z590 := iv_inc ez590 h582 (by decide) (by decide) (by decide) (by decide) (by decide) (by decide)
                          refine lv_iinc (v := z590) (lv' := [(8, .int z590), (7, .int z589), (5, .int r377), (6, .int 1), (4, .int r21), (0, .ref (a 0)), (1, .int p0), (2, .int p1), (3, .int p2)]) hx hb dX10_share_171 hl (k := 1) rfl ez590.symm (by decide) rfl (fun ls hl => ?_)
                          refine lv_goto (tgt := 127) hx hb dX10_share_174 (by decide) ?_
                          exact ih127 z590 z589 _ (iv_mono (c := 0) (d := 8) h591 (by decide) (by decide)) (lv_sub hl [0, 1, 2, 3, 4, 5, 6, 7, 8] rfl) (fu_s (lo := 0) (ti_inc ez590 h582 (by decide) (by decide) (by decide) (by decide)) (by decide) hm127)
                        · skip
                          have h592 : Iv 1 1 r584 := eq_l c587 (iv_c (by decide) : Iv 1 1 1)
                          refine lv_iload_n hx hb dX10_share_151 rfl (lv_at hl 7 rfl) ?_
                          refine lv_aload_n hx hb dX10_share_152 rfl (lv_at hl 5 rfl) ?_
                          refine lv_iload hx hb dX10_share_153 (lv_at hl 0 rfl) ?_
                          refine lv_iload hx hb dX10_share_155 (lv_at hl 3 rfl) ?_
                          refine ro_V (As := [.int v8_127, .int 1]) (rest := [.int p1, .int v7_127]) S (m_X10_shareOf l D k a s16 sl  v8_127 1 _  hBs16 h582 ) lkX10_392 ok_X10_shareOf ⟨rfl, rfl, Nat.le_of_ble_eq_true rfl, Nat.le_of_ble_eq_true rfl⟩ (pw_V (ci := 10) (q0 := 0) hK hN rfl mw_0 hP (hD.weaken (fun _ _ _ _ => trivial))) rfl hl.1 rfl (Nat.le_of_ble_eq_true rfl) ⟨Nat.zero_le _, Nat.zero_le _⟩ dX10_share_157 (fun r593 er593 => ?_)
                          refine lv_imul hx hb dX10_share_160 ?_
                          refine lv_topi (fun z594 ez594 => ?_)
                          refine lv_iload hx hb dX10_share_161 (lv_at hl 2 rfl) ?_
                          refine lv_idiv hx hb dX10_share_163 (iv_nz h379 (by decide)) ?_
                          refine lv_topi (fun z595 ez595 => ?_)
                          refine lv_goto (tgt := 168) hx hb dX10_share_164 (by decide) ?_
                          refine lv_isub hx hb dX10_share_168 ?_
                          refine lv_topi (fun z596 ez596 => ?_)
                          refine lv_istore (lv' := [(7, .int z596), (8, .int v8_127), (5, .int r377), (6, .int 1), (4, .int r21), (0, .ref (a 0)), (1, .int p0), (2, .int p1), (3, .int p2)]) hx hb dX10_share_169 hl (by decide) rfl (fun ls hl => ?_)
                          obtain ⟨z597, ez597⟩ : ∃ z9 : Int32, z9 = v8_127 + Int32.ofInt 1 := ⟨_, rfl⟩
                          have h598 : Iv 1 8 z597 := iv_inc ez597 h582 (by decide) (by decide) (by decide) (by decide) (by decide) (by decide)
                          refine lv_iinc (v := z597) (lv' := [(8, .int z597), (7, .int z596), (5, .int r377), (6, .int 1), (4, .int r21), (0, .ref (a 0)), (1, .int p0), (2, .int p1), (3, .int p2)]) hx hb dX10_share_171 hl (k := 1) rfl ez597.symm (by decide) rfl (fun ls hl => ?_)
                          refine lv_goto (tgt := 127) hx hb dX10_share_174 (by decide) ?_
                          exact ih127 z597 z596 _ (iv_mono (c := 0) (d := 8) h598 (by decide) (by decide)) (lv_sub hl [0, 1, 2, 3, 4, 5, 6, 7, 8] rfl) (fu_s (lo := 0) (ti_inc ez597 h582 (by decide) (by decide) (by decide) (by decide)) (by decide) hm127)
                  exact lp127 9 0 p1 _ (iv_mono (c := 0) (d := 8) (iv_c (by decide) : Iv 0 0 0) (by decide) (by decide)) (lv_sub hl [0, 1, 2, 3, 4, 5, 6, 7, 8] rfl) (fu_i (iv_mono (c := 0) (d := 8) (iv_c (by decide) : Iv 0 0 0) (by decide) (by decide)) (by decide))
              · skip
                have n599 : v6_61.toInt < (st 1 3).toInt := (i_nle c152)
                have h600 : Iv 0 7 v6_61 := lt_l iv6_61 n599 h151 (by decide)
                have h601 : Iv 1 8 (st 1 3) := lt_r iv6_61 n599 h151 (by decide)
                refine lv_iload hx hb dX10_share_72 (lv_at hl 1 rfl) ?_
                refine lv_iload hx hb dX10_share_74 (lv_at hl 2 rfl) ?_
                refine lv_iload hx hb dX10_share_76 (lv_at hl 0 rfl) ?_
                refine ro_S (As := [.int r21, .int v6_61]) (rest := [.int v5_61]) S (m_X10_bit l D k a s16 sl  r21 v6_61 _  hBs16  ) lkX10_193 ok_X10_bit ⟨rfl, rfl, Nat.le_of_ble_eq_true rfl, Nat.le_of_ble_eq_true rfl⟩ (pw_S hK hN hP (hD.weaken (fun _ _ _ _ => trivial))) rfl hl.1 rfl (Nat.le_of_ble_eq_true rfl) ⟨Nat.zero_le _, Nat.zero_le _⟩ dX10_share_78 (fun r602 er602 => ?_)
                have h603 : Iv 0 1 r602 := er602.1
                have k604 := er602.2
                refine lv_aload_n hx hb dX10_share_81 rfl (lv_at hl 3 rfl) ?_
                refine lv_iload hx hb dX10_share_82 (lv_at hl 0 rfl) ?_
                refine ro_V (As := [.int v6_61]) (rest := [.int r602, .int v5_61]) S (m_X10_likedOf l D k a s16 sl  v6_61 _  hBs16 h600 ) lkX10_276 ok_X10_likedOf ⟨rfl, rfl, Nat.le_of_ble_eq_true rfl, Nat.le_of_ble_eq_true rfl⟩ (pw_V (ci := 10) (q0 := 0) hK hN rfl mw_0 hP (hD.weaken (fun _ _ _ _ => trivial))) rfl hl.1 rfl (Nat.le_of_ble_eq_true rfl) ⟨Nat.zero_le _, Nat.zero_le _⟩ dX10_share_84 (fun r605 er605 => ?_)
                refine lv_imul hx hb dX10_share_87 ?_
                refine lv_topi (fun z606 ez606 => ?_)
                refine lv_iadd hx hb dX10_share_88 ?_
                refine lv_topi (fun z607 ez607 => ?_)
                refine lv_istore (lv' := [(5, .int z607), (6, .int v6_61), (4, .int r21), (0, .ref (a 0)), (1, .int p0), (2, .int p1), (3, .int p2)]) hx hb dX10_share_89 hl (by decide) rfl (fun ls hl => ?_)
                obtain ⟨z608, ez608⟩ : ∃ z9 : Int32, z9 = v6_61 + Int32.ofInt 1 := ⟨_, rfl⟩
                have h609 : Iv 1 8 z608 := iv_inc ez608 h600 (by decide) (by decide) (by decide) (by decide) (by decide) (by decide)
                refine lv_iinc (v := z608) (lv' := [(6, .int z608), (5, .int z607), (4, .int r21), (0, .ref (a 0)), (1, .int p0), (2, .int p1), (3, .int p2)]) hx hb dX10_share_91 hl (k := 1) rfl ez608.symm (by decide) rfl (fun ls hl => ?_)
                refine lv_goto (tgt := 61) hx hb dX10_share_94 (by decide) ?_
                exact ih61 z608 z607 _ (iv_mono (c := 0) (d := 8) h609 (by decide) (by decide)) (lv_sub hl [0, 1, 2, 3, 4, 5, 6] rfl) (fu_s (lo := 0) (ti_inc ez608 h600 (by decide) (by decide) (by decide) (by decide)) (by decide) hm61)
          exact lp61 9 0 0 _ (iv_mono (c := 0) (d := 8) (iv_c (by decide) : Iv 0 0 0) (by decide) (by decide)) (lv_sub hl [0, 1, 2, 3, 4, 5, 6] rfl) (fu_i (iv_mono (c := 0) (d := 8) (iv_c (by decide) : Iv 0 0 0) (by decide) (by decide)) (by decide))
        · skip
          refine lv_bipush (v := (-2)) hx hb dX10_share_45 (by decide) ?_
          rw [hQ]
          exact W.iret (v := (-2)) hx hb hr (fun t ht hW => ⟨⟨(-2), s16, rfl, ⟨hBs16, hFs16, trivial⟩, by rw [ht]; exact hP, va_K.moved hW.alike (hK.sub (tys' := []) [] rfl), by rw [hAe]; exact hD⟩, by rw [hAe]; exact hS.F ht⟩) hS.2.2 dX10_share_47
      · skip
        have g610 := g9
        refine lv_if_ne (tgt := 31) hx hb dX10_share_25 (by decide) (fun c611 => ?_) (fun c611 => ?_)
        · first | exact absurd c611 (by decide) | exact absurd (by decide) c611
        refine lv_bipush (v := (-2)) hx hb dX10_share_28 (by decide) ?_
        rw [hQ]
        exact W.iret (v := (-2)) hx hb hr (fun t ht hW => ⟨⟨(-2), st, rfl, ⟨hB, fr_rf, trivial⟩, by rw [ht]; exact hP, va_K.moved hW.alike (hK.sub (tys' := []) [] rfl), by rw [hAe]; exact hD⟩, by rw [hAe]; exact hS.F ht⟩) hS.2.2 dX10_share_30
    · skip
      have g612 := g9
      have k613 := g612
      refine lv_if_eq (tgt := 28) hx hb dX10_share_17 (by decide) (fun c614 => ?_) (fun c614 => ?_)
      rotate_left
      · first | exact absurd c614 (by decide) | exact absurd (by decide) c614
      refine lv_bipush (v := (-2)) hx hb dX10_share_28 (by decide) ?_
      rw [hQ]
      exact W.iret (v := (-2)) hx hb hr (fun t ht hW => ⟨⟨(-2), st, rfl, ⟨hB, fr_rf, trivial⟩, by rw [ht]; exact hP, va_K.moved hW.alike (hK.sub (tys' := []) [] rfl), by rw [hAe]; exact hD⟩, by rw [hAe]; exact hS.F ht⟩) hS.2.2 dX10_share_30
  · skip
    have g615 := g9
    refine lv_if_eq (tgt := 28) hx hb dX10_share_5 (by decide) (fun c616 => ?_) (fun c616 => ?_)
    rotate_left
    · first | exact absurd c616 (by decide) | exact absurd (by decide) c616
    refine lv_bipush (v := (-2)) hx hb dX10_share_28 (by decide) ?_
    rw [hQ]
    exact W.iret (v := (-2)) hx hb hr (fun t ht hW => ⟨⟨(-2), st, rfl, ⟨hB, fr_rf, trivial⟩, by rw [ht]; exact hP, va_K.moved hW.alike (hK.sub (tys' := []) [] rfl), by rw [hAe]; exact hD⟩, by rw [hAe]; exact hS.F ht⟩) hS.2.2 dX10_share_30
