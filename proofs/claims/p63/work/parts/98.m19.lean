set_option maxHeartbeats 4000000 in
set_option maxRecDepth 100000 in
theorem m_X10_cut (l : Launch) (D : va_G) (k : Nat → ClassId) (a : Nat → Nat) (st : CT) (sl : CL) (p0 : Int64) (p1 : Int32) (sz : Nat) (hB : MB st)  : Met l yX10_cut (.code yX10_cut cX10_cut 4 (some .long) :: TB) (rmk 1) (va_Pc [.long p0, .int p1] (PW D k sz (MWS k a st sl))) (vp_Sl (fun r => True)) 0 0 (fun _ => False) := by
  refine Met.ofW (cc := cX10_cut) (maxL := 4) (ret := (some .long)) (by decide) rfl ?_
  intro p e s m args below meth c s₁ B hml hv
  obtain ⟨rfl, hsz, hP, hK, hD0, hN⟩ := hv
  have hx := B.exec
  have hb := B.bytes
  have hr := B.returns
  have hT : ∀ w9 ∈ TB, w9.before ([.long p0, .int p1] : List Value).toArray s = true := fun w9 h => atoms_spec (ws := .code yX10_cut cX10_cut 4 (some .long) :: TB) B.pre w9 (List.mem_cons_of_mem _ h)
  have hown : s.vm.findClass RX10 = some m.cls := findClass_of_methodNamed B.named
  have S : CallFix p m c cX10_cut 4 s _ TB RX10 := ⟨hx, hb, hml, hown, hT⟩
  subst hsz
  have hl := lv_entry ([.long p0, .int p1]) (n := 4) (Nat.le_of_ble_eq_true rfl)
  rw [lg_entry_eq]
  generalize (lg_sl ([.long p0, .int p1]) ++ List.replicate (4 - (lg_sl ([.long p0, .int p1])).length) Slot.unset).toArray = ls at hl ⊢
  have hl : lv_has ls 4 [(0, .long p0), (2, .int p1)] := hl
  refine nameQ (fun Q hQ => ?_)
  refine lv_bipush (v := 64) hx hb dX10_cut_0 (by decide) ?_
  refine lv_bipush (v := 8) hx hb dX10_cut_2 (by decide) ?_
  refine lv_iload_n hx hb dX10_cut_4 rfl (lv_at hl 1 rfl) ?_
  refine lv_ishl hx hb dX10_cut_5 ?_
  refine lv_topi (fun z1 ez1 => ?_)
  refine lv_isub hx hb dX10_cut_6 ?_
  refine lv_topi (fun z2 ez2 => ?_)
  refine lv_istore_n (lv' := [(3, .int z2), (0, .long p0), (2, .int p1)]) hx hb dX10_cut_7 rfl hl (by decide) rfl (fun ls hl => ?_)
  refine lv_lload_n hx hb dX10_cut_8 rfl (lv_at hl 1 rfl) ?_
  refine lv_iload_n hx hb dX10_cut_9 rfl (lv_at hl 0 rfl) ?_
  refine lv_lshl hx hb dX10_cut_10 rfl ?_
  refine lv_topl (fun z3 ez3 => ?_)
  refine lv_iload_n hx hb dX10_cut_11 rfl (lv_at hl 0 rfl) ?_
  refine lv_lshr hx hb dX10_cut_12 rfl ?_
  refine lv_topl (fun z4 ez4 => ?_)
  rw [hQ]
  exact W.lret (v := z4) hx hb hr (fun t ht hW => ⟨z4, rfl, trivial, ht⟩) (fun _ h9 => by cases h9) dX10_cut_13
set_option maxHeartbeats 4000000 in
set_option maxRecDepth 100000 in
theorem m_X10_row (l : Launch) (D : va_G) (k : Nat → ClassId) (a : Nat → Nat) (st : CT) (sl : CL) (p0 : Int32) (p1 : Int32) (p2 : Int32) (sz : Nat) (hB : MB st)  : Met l yX10_row (.code yX10_row cX10_row 5 (some .int) :: TB) (rmw 3 0 0) (va_Pc [.ref (a 0), .int p0, .int p1, .int p2] (PW D k sz (MWS k a st sl))) (QI D (S := CT × CL) (fun r u => MB u.1 ∧ FR [18, 19] st u.1 ∧ ((r = r_row p0 p1 p2 ∧ u.1 18 = k_row (st 18) p0 p1 p2 p2 ∧ u.1 19 = k_row (st 19) p0 p1 p2 p1))) (fun u => MWS k a u.1 u.2) (fun _ => []) (MWS k a st sl) sz) 0 0 (va_A (MWS k a st sl) sz) := by
  refine Met.ofW (cc := cX10_row) (maxL := 5) (ret := (some .int)) (by decide) rfl ?_
  intro p e s m args below meth c s₁ B hml hv
  obtain ⟨rfl, hsz, hP, hK, hD0, hN⟩ := hv
  have hx := B.exec
  have hb := B.bytes
  have hr := B.returns
  have hT : ∀ w9 ∈ TB, w9.before ([.ref (a 0), .int p0, .int p1, .int p2] : List Value).toArray s = true := fun w9 h => atoms_spec (ws := .code yX10_row cX10_row 5 (some .int) :: TB) B.pre w9 (List.mem_cons_of_mem _ h)
  have hown : s.vm.findClass RX10 = some m.cls := findClass_of_methodNamed B.named
  have S : CallFix p m c cX10_row 5 s _ TB RX10 := ⟨hx, hb, hml, hown, hT⟩
  subst hsz
  have hD := hD0.self (sz := s.heap.size)
  generalize hAe : va_A (MWS k a st sl) s.heap.size = A at hD ⊢
  have hA : ∀ q : Nat, s.heap.size ≤ q → A q := fun q h => by rw [← hAe]; exact Or.inr h
  have hS : va_S A s.heap s.heap [] := va_S.rf
  have hl := lv_entry ([.ref (a 0), .int p0, .int p1, .int p2]) (n := 5) (Nat.le_of_ble_eq_true rfl)
  rw [lg_entry_eq]
  generalize (lg_sl ([.ref (a 0), .int p0, .int p1, .int p2]) ++ List.replicate (5 - (lg_sl ([.ref (a 0), .int p0, .int p1, .int p2])).length) Slot.unset).toArray = ls at hl ⊢
  have hl : lv_has ls 5 [(0, .ref (a 0)), (1, .int p0), (2, .int p1), (3, .int p2)] := hl
  refine nameQ (fun Q hQ => ?_)
  refine lv_iload_n hx hb dX10_row_0 rfl (lv_at hl 1 rfl) ?_
  refine ro_S (As := [.int p0]) (rest := []) S (m_X10_isSlot l D k a st sl  p0 _  hB  ) lkX10_300 ok_X10_isSlot ⟨rfl, rfl, Nat.le_of_ble_eq_true rfl, Nat.le_of_ble_eq_true rfl⟩ (pw_S hK hN hP (hD.weaken (fun _ _ _ _ => trivial))) rfl hl.1 rfl (Nat.le_of_ble_eq_true rfl) ⟨Nat.zero_le _, Nat.zero_le _⟩ dX10_row_1 (fun r1 er1 => ?_)
  rcases er1 with ⟨rfl, g9⟩ | ⟨rfl, g9⟩
  · skip
    have g2 := g9
    have h3 : Iv 0 3 p0 := g2.1
    refine lv_if_eq (tgt := 25) hx hb dX10_row_4 (by decide) (fun c4 => ?_) (fun c4 => ?_)
    · first | exact absurd c4 (by decide) | exact absurd (by decide) c4
    refine lv_iload_n hx hb dX10_row_7 rfl (lv_at hl 2 rfl) ?_
    refine lv_i2l hx hb dX10_row_8 rfl ?_
    refine lv_lconst (v := 0) hx hb dX10_row_9 (by decide) ?_
    refine lv_ldc2 (v := 3) hx hb hown (hT _ t1665) dX10_row_10 ?_
    refine ro_S (As := [.long (p1.toInt64), .long 0, .long 3]) (rest := []) S (m_X10_in l D k a st sl  (p1.toInt64) 0 3 _  hB  ) lkX10_85 ok_X10_in ⟨rfl, rfl, Nat.le_of_ble_eq_true rfl, Nat.le_of_ble_eq_true rfl⟩ (pw_S hK hN hP (hD.weaken (fun _ _ _ _ => trivial))) rfl hl.1 rfl (Nat.le_of_ble_eq_true rfl) ⟨Nat.zero_le _, Nat.zero_le _⟩ dX10_row_13 (fun r5 er5 => ?_)
    rcases er5 with ⟨rfl, g9⟩ | ⟨rfl, g9⟩
    · skip
      have g6 := g9
      have k7 := g6
      have h8 : (0 : Int) ≤ (p1.toInt64).toInt ∧ (p1.toInt64).toInt ≤ (3 : Int) := ⟨((show (0 : Int) ≤ (p1.toInt64).toInt ∧ (p1.toInt64).toInt ≤ (3 : Int) from ⟨Int.le_trans ((⟨by decide, by decide⟩ : (0 : Int) ≤ (0 : Int64).toInt ∧ (0 : Int64).toInt ≤ (0 : Int))).1 k7.1, Int.le_trans k7.2 ((⟨by decide, by decide⟩ : (3 : Int) ≤ (3 : Int64).toInt ∧ (3 : Int64).toInt ≤ (3 : Int))).2⟩)).1, ((show (0 : Int) ≤ (p1.toInt64).toInt ∧ (p1.toInt64).toInt ≤ (3 : Int) from ⟨Int.le_trans ((⟨by decide, by decide⟩ : (0 : Int) ≤ (0 : Int64).toInt ∧ (0 : Int64).toInt ≤ (0 : Int))).1 k7.1, Int.le_trans k7.2 ((⟨by decide, by decide⟩ : (3 : Int) ≤ (3 : Int64).toInt ∧ (3 : Int64).toInt ≤ (3 : Int))).2⟩)).2⟩
      have h9 : Iv 0 3 p1 := iv_lv h8
      refine lv_if_eq (tgt := 25) hx hb dX10_row_16 (by decide) (fun c10 => ?_) (fun c10 => ?_)
      · first | exact absurd c10 (by decide) | exact absurd (by decide) c10
      refine lv_iload_n hx hb dX10_row_19 rfl (lv_at hl 3 rfl) ?_
      refine lv_bipush (v := 60) hx hb dX10_row_20 (by decide) ?_
      refine lv_icmp_le (tgt := 28) hx hb dX10_row_22 (by decide) (fun c11 => ?_) (fun c11 => ?_)
      · skip
        have n12 : p2.toInt ≤ (60 : Int32).toInt := (i_le c11)
        have h13 : Iv (-2147483648) 60 p2 := le_l (iv_full p2) n12 (iv_c (by decide) : Iv 60 60 60) (by decide)
        refine lv_iload_n hx hb dX10_row_28 rfl (lv_at hl 3 rfl) ?_
        refine lv_if_ge (tgt := 35) hx hb dX10_row_29 (by decide) (fun c14 => ?_) (fun c14 => ?_)
        · skip
          have n15 : (0 : Int32).toInt ≤ p2.toInt := (i_le c14)
          have h16 : Iv 0 60 p2 := le_r (iv_c (by decide) : Iv 0 0 0) n15 h13 (by decide)
          refine lv_aload_n hx hb dX10_row_35 rfl (lv_at hl 0 rfl) ?_
          refine va_get (D := D) (ci := 10) (v := .ref (a 18)) (C := RX10) (T := TX10) (N := 38) hx hb hT in_X10 hown hK hP 0 mw_0 rfl 34 (by decide) (hT _ t1296) (fun _ h9 => h9) rfl dX10_row_36 ?_
          refine lv_iload_n hx hb dX10_row_39 rfl (lv_at hl 1 rfl) ?_
          refine lv_iload_n hx hb dX10_row_40 rfl (lv_at hl 3 rfl) ?_
          refine c_ist hx hb hK hP hD hS mw_18 ms_18 (iv_in h3 (by decide) (by decide)) dX10_row_41 (fun s17 H9 locs9 es17 hP9 hD9 hS9 => ?_)
          clear hP hD hS
          have hS := hS9
          have hP := hP9
          have hD := hD9
          clear hP9 hD9 hS9
          have hBs17 : MB s17 := by rw [es17]; exact mb_sw hB (mi_3 (hB 18) (iv_mono (c := (-1)) (d := 60) h16 (by decide) (by decide)))
          have hFs17 : FR [18, 19] st s17 := fr_sw fr_rf (List.mem_of_getElem? (i := 0) rfl) es17
          refine lv_aload_n hx hb dX10_row_42 rfl (lv_at hl 0 rfl) ?_
          refine va_get (D := D) (ci := 10) (v := .ref (a 19)) (C := RX10) (T := TX10) (N := 38) hx hb hT in_X10 hown hK hP 0 mw_0 rfl 35 (by decide) (hT _ t1297) (fun _ h9 => h9) rfl dX10_row_43 ?_
          refine lv_iload_n hx hb dX10_row_46 rfl (lv_at hl 1 rfl) ?_
          refine lv_iload_n hx hb dX10_row_47 rfl (lv_at hl 2 rfl) ?_
          refine c_ist hx hb hK hP hD hS mw_19 ms_19 (iv_in h3 (by decide) (by decide)) dX10_row_48 (fun s18 H9 locs9 es18 hP9 hD9 hS9 => ?_)
          clear hP hD hS
          have hS := hS9
          have hP := hP9
          have hD := hD9
          clear hP9 hD9 hS9
          have hBs18 : MB s18 := by rw [es18]; exact mb_sw hBs17 (mi_4 (hBs17 19) h9)
          have hFs18 : FR [18, 19] st s18 := fr_sw hFs17 (List.mem_of_getElem? (i := 1) rfl) es18
          refine lv_iconst (v := 0) hx hb dX10_row_49 (by decide) ?_
          refine lv_istore (lv' := [(4, .int 0), (0, .ref (a 0)), (1, .int p0), (2, .int p1), (3, .int p2)]) hx hb dX10_row_50 hl (by decide) rfl (fun ls hl => ?_)
          have lp52 : ∀ (n9_52 : Nat) (v4_52 : Int32) (t52 : CT) (l52 : CL) (H9 : Heap) (locs9 : List Loc) (ls : Array Slot), Iv 0 60 v4_52 → MB t52 → FR [] s18 t52 → va_P D vwCl (MWS k a t52 l52) H9 → va_D A (MWS k a t52 l52) → va_S A s.heap H9 locs9 → lv_has ls 5 [(4, .int v4_52), (0, .ref (a 0)), (1, .int p0), (2, .int p1), (3, .int p2)] → (60 : Int) - v4_52.toInt < (n9_52 : Int) → W p l e (rmw 3 0 0) s m ([.ref (a 0), .int p0, .int p1, .int p2] : List Value).toArray below meth c H9 locs9 0 0 Q (F0 m 52 ls []) := by
            clear hl hP hD hS
            intro n9_52
            induction n9_52 with
            | zero =>
              intro v4_52 t52 l52 H9 locs9 ls iv4_52 hBt52 gt52 hP hD hS hl hm52
              exact (fu_0 iv4_52 hm52).elim
            | succ n9_52 ih52 =>
              intro v4_52 t52 l52 H9 locs9 ls iv4_52 hBt52 gt52 hP hD hS hl hm52
              have hFt52 : FR [18, 19] st t52 := fr_ca hFs18 gt52 sub_0
              refine lv_iload hx hb dX10_row_52 (lv_at hl 0 rfl) ?_
              refine lv_bipush (v := 60) hx hb dX10_row_54 (by decide) ?_
              refine lv_icmp_ge (tgt := 78) hx hb dX10_row_56 (by decide) (fun c221 => ?_) (fun c221 => ?_)
              · skip
                have n222 : (60 : Int32).toInt ≤ v4_52.toInt := (i_le c221)
                have h223 : Iv 60 60 v4_52 := le_r (iv_c (by decide) : Iv 60 60 60) n222 iv4_52 (by decide)
                refine lv_iconst (v := 0) hx hb dX10_row_78 (by decide) ?_
                rw [hQ]
                exact W.iret (v := 0) hx hb hr (fun t ht hW => ⟨⟨0, (t52, l52), rfl, ⟨hBt52, hFt52, ⟨by obtain ⟨y0a, y0b⟩ := id (h3); obtain ⟨y1a, y1b⟩ := id (h9); obtain ⟨y2a, y2b⟩ := id (h16); unfold r_row; rw [if_pos (by omega), if_neg (by omega)], by obtain ⟨y0a, y0b⟩ := id (h3); obtain ⟨y1a, y1b⟩ := id (h9); obtain ⟨y2a, y2b⟩ := id (h16); unfold k_row; rw [if_pos (by omega)]; exact (Eq.trans (gt52 18 nm_0) (Eq.trans (sw_at es18 (by decide)) (sw_it es17))), by obtain ⟨y0a, y0b⟩ := id (h3); obtain ⟨y1a, y1b⟩ := id (h9); obtain ⟨y2a, y2b⟩ := id (h16); unfold k_row; rw [if_pos (by omega)]; exact (Eq.trans (gt52 19 nm_0) (Eq.trans (sw_it es18) (congrArg (fun f9 => upd f9 (p0).toNatClampNeg p1) (sw_at es17 (by decide)))))⟩⟩, by rw [ht]; exact hP, va_K.moved hW.alike (hK.sub (tys' := []) [] rfl), by rw [hAe]; exact hD⟩, by rw [hAe]; exact hS.F ht⟩) hS.2.2 dX10_row_79
              · skip
                have n224 : v4_52.toInt < (60 : Int32).toInt := (i_nle c221)
                have h225 : Iv 0 59 v4_52 := lt_l iv4_52 n224 (iv_c (by decide) : Iv 60 60 60) (by decide)
                refine lv_aload_n hx hb dX10_row_59 rfl (lv_at hl 1 rfl) ?_
                refine va_get (D := D) (ci := 10) (v := .ref (a 20)) (C := RX10) (T := TX10) (N := 38) hx hb hT in_X10 hown hK hP 0 mw_0 rfl 36 (by decide) (hT _ t1298) (fun _ h9 => h9) rfl dX10_row_60 ?_
                refine lv_bipush (v := 60) hx hb dX10_row_63 (by decide) ?_
                refine lv_iload_n hx hb dX10_row_65 rfl (lv_at hl 2 rfl) ?_
                refine lv_imul hx hb dX10_row_66 ?_
                refine lv_topi (fun z226 ez226 => ?_)
                have h227 : Iv 0 180 z226 := iv_mull ez226 h3 (k := 60) (by decide) (by decide) (by decide) (by decide) (by decide) (by decide)
                refine lv_iload hx hb dX10_row_67 (lv_at hl 0 rfl) ?_
                refine lv_iadd hx hb dX10_row_69 ?_
                refine lv_topi (fun z228 ez228 => ?_)
                have h229 : Iv 0 239 z228 := iv_add ez228 h227 h225 (by decide) (by decide) (by decide) (by decide)
                refine lv_lconst (v := 0) hx hb dX10_row_70 (by decide) ?_
                refine c_lst hx hb hK hP hD hS mw_20 ms_20 (iv_in h229 (by decide) (by decide)) dX10_row_71 (fun l230 H9 locs9 hP9 hD9 hS9 => ?_)
                clear hP hD hS
                have hS := hS9
                have hP := hP9
                have hD := hD9
                clear hP9 hD9 hS9
                obtain ⟨z231, ez231⟩ : ∃ z9 : Int32, z9 = v4_52 + Int32.ofInt 1 := ⟨_, rfl⟩
                have h232 : Iv 1 60 z231 := iv_inc ez231 h225 (by decide) (by decide) (by decide) (by decide) (by decide) (by decide)
                refine lv_iinc (v := z231) (lv' := [(4, .int z231), (0, .ref (a 0)), (1, .int p0), (2, .int p1), (3, .int p2)]) hx hb dX10_row_72 hl (k := 0) rfl ez231.symm (by decide) rfl (fun ls hl => ?_)
                refine lv_goto (tgt := 52) hx hb dX10_row_75 (by decide) ?_
                exact ih52 z231 t52 l230 _ _ _ (iv_mono (c := 0) (d := 60) h232 (by decide) (by decide)) hBt52 gt52 hP hD hS (lv_sub hl [0, 1, 2, 3, 4] rfl) (fu_s (lo := 0) (ti_inc ez231 h225 (by decide) (by decide) (by decide) (by decide)) (by decide) hm52)
          exact lp52 61 0 s18 sl _ _ _ (iv_mono (c := 0) (d := 60) (iv_c (by decide) : Iv 0 0 0) (by decide) (by decide)) hBs18 fr_rf hP hD hS (lv_sub hl [0, 1, 2, 3, 4] rfl) (fu_i (iv_mono (c := 0) (d := 60) (iv_c (by decide) : Iv 0 0 0) (by decide) (by decide)) (by decide))
        · skip
          have n233 : p2.toInt < (0 : Int32).toInt := (i_nle c14)
          have h234 : Iv (-2147483648) (-1) p2 := lt_l h13 n233 (iv_c (by decide) : Iv 0 0 0) (by decide)
          refine lv_bipush (v := (-3)) hx hb dX10_row_32 (by decide) ?_
          rw [hQ]
          exact W.iret (v := (-3)) hx hb hr (fun t ht hW => ⟨⟨(-3), (st, sl), rfl, ⟨hB, fr_rf, ⟨by obtain ⟨y0a, y0b⟩ := id (h3); obtain ⟨y1a, y1b⟩ := id (h9); obtain ⟨y2a, y2b⟩ := id (h234); unfold r_row; rw [if_pos (by omega), if_pos (by omega)], by obtain ⟨y0a, y0b⟩ := id (h3); obtain ⟨y1a, y1b⟩ := id (h9); obtain ⟨y2a, y2b⟩ := id (h234); unfold k_row; rw [if_neg (by omega)], by obtain ⟨y0a, y0b⟩ := id (h3); obtain ⟨y1a, y1b⟩ := id (h9); obtain ⟨y2a, y2b⟩ := id (h234); unfold k_row; rw [if_neg (by omega)]⟩⟩, by rw [ht]; exact hP, va_K.moved hW.alike (hK.sub (tys' := []) [] rfl), by rw [hAe]; exact hD⟩, by rw [hAe]; exact hS.F ht⟩) hS.2.2 dX10_row_34
      · skip
        have n235 : (60 : Int32).toInt < p2.toInt := (i_nle c11)
        have h236 : Iv 61 2147483647 p2 := lt_r (iv_c (by decide) : Iv 60 60 60) n235 (iv_full p2) (by decide)
        refine lv_bipush (v := (-2)) hx hb dX10_row_25 (by decide) ?_
        rw [hQ]
        exact W.iret (v := (-2)) hx hb hr (fun t ht hW => ⟨⟨(-2), (st, sl), rfl, ⟨hB, fr_rf, ⟨by obtain ⟨y0a, y0b⟩ := id (h3); obtain ⟨y1a, y1b⟩ := id (h9); obtain ⟨y2a, y2b⟩ := id (h236); unfold r_row; rw [if_neg (by omega)], by obtain ⟨y0a, y0b⟩ := id (h3); obtain ⟨y1a, y1b⟩ := id (h9); obtain ⟨y2a, y2b⟩ := id (h236); unfold k_row; rw [if_neg (by omega)], by obtain ⟨y0a, y0b⟩ := id (h3); obtain ⟨y1a, y1b⟩ := id (h9); obtain ⟨y2a, y2b⟩ := id (h236); unfold k_row; rw [if_neg (by omega)]⟩⟩, by rw [ht]; exact hP, va_K.moved hW.alike (hK.sub (tys' := []) [] rfl), by rw [hAe]; exact hD⟩, by rw [hAe]; exact hS.F ht⟩) hS.2.2 dX10_row_27
    · skip
      have g237 := g9
      have k238 := g237
      have k239 : ¬ ((0 : Int) ≤ p1.toInt ∧ p1.toInt ≤ (3 : Int)) := (by have y9 := k238; simp only [l_ti] at y9; exact y9)
      refine lv_if_eq (tgt := 25) hx hb dX10_row_16 (by decide) (fun c240 => ?_) (fun c240 => ?_)
      rotate_left
      · first | exact absurd c240 (by decide) | exact absurd (by decide) c240
      refine lv_bipush (v := (-2)) hx hb dX10_row_25 (by decide) ?_
      rw [hQ]
      exact W.iret (v := (-2)) hx hb hr (fun t ht hW => ⟨⟨(-2), (st, sl), rfl, ⟨hB, fr_rf, ⟨by obtain ⟨y0a, y0b⟩ := id (h3); obtain ⟨y1a, y1b⟩ := id ((iv_full p1)); obtain ⟨y2a, y2b⟩ := id ((iv_full p2)); unfold r_row; rw [if_neg (by omega)], by obtain ⟨y0a, y0b⟩ := id (h3); obtain ⟨y1a, y1b⟩ := id ((iv_full p1)); obtain ⟨y2a, y2b⟩ := id ((iv_full p2)); unfold k_row; rw [if_neg (by omega)], by obtain ⟨y0a, y0b⟩ := id (h3); obtain ⟨y1a, y1b⟩ := id ((iv_full p1)); obtain ⟨y2a, y2b⟩ := id ((iv_full p2)); unfold k_row; rw [if_neg (by omega)]⟩⟩, by rw [ht]; exact hP, va_K.moved hW.alike (hK.sub (tys' := []) [] rfl), by rw [hAe]; exact hD⟩, by rw [hAe]; exact hS.F ht⟩) hS.2.2 dX10_row_27
  · skip
    have g241 := g9
    have k242 := g241
    refine lv_if_eq (tgt := 25) hx hb dX10_row_4 (by decide) (fun c243 => ?_) (fun c243 => ?_)
    rotate_left
    · first | exact absurd c243 (by decide) | exact absurd (by decide) c243
    refine lv_bipush (v := (-2)) hx hb dX10_row_25 (by decide) ?_
    rw [hQ]
    exact W.iret (v := (-2)) hx hb hr (fun t ht hW => ⟨⟨(-2), (st, sl), rfl, ⟨hB, fr_rf, ⟨by obtain ⟨y0a, y0b⟩ := id ((iv_full p0)); obtain ⟨y1a, y1b⟩ := id ((iv_full p1)); obtain ⟨y2a, y2b⟩ := id ((iv_full p2)); unfold r_row; rw [if_neg (by omega)], by obtain ⟨y0a, y0b⟩ := id ((iv_full p0)); obtain ⟨y1a, y1b⟩ := id ((iv_full p1)); obtain ⟨y2a, y2b⟩ := id ((iv_full p2)); unfold k_row; rw [if_neg (by omega)], by obtain ⟨y0a, y0b⟩ := id ((iv_full p0)); obtain ⟨y1a, y1b⟩ := id ((iv_full p1)); obtain ⟨y2a, y2b⟩ := id ((iv_full p2)); unfold k_row; rw [if_neg (by omega)]⟩⟩, by rw [ht]; exact hP, va_K.moved hW.alike (hK.sub (tys' := []) [] rfl), by rw [hAe]; exact hD⟩, by rw [hAe]; exact hS.F ht⟩) hS.2.2 dX10_row_27
set_option maxHeartbeats 4000000 in
set_option maxRecDepth 100000 in
theorem m_X10_write (l : Launch) (D : va_G) (k : Nat → ClassId) (a : Nat → Nat) (st : CT) (sl : CL) (p0 : Int32) (p1 : Int32) (p2 : Int64) (sz : Nat) (hB : MB st)  : Met l yX10_write (.code yX10_write cX10_write 5 (some .int) :: TB) (rmw 3 0 0) (va_Pc [.ref (a 0), .int p0, .int p1, .long p2] (PW D k sz (MWS k a st sl))) (QI D (S := CT × CL) (fun r u => MB u.1 ∧ FR [] st u.1 ∧ ((r = r_write (st 18) (st 18) p0 p1))) (fun u => MWS k a u.1 u.2) (fun _ => []) (MWS k a st sl) sz) 0 0 (va_A (MWS k a st sl) sz) := by
  refine Met.ofW (cc := cX10_write) (maxL := 5) (ret := (some .int)) (by decide) rfl ?_
  intro p e s m args below meth c s₁ B hml hv
  obtain ⟨rfl, hsz, hP, hK, hD0, hN⟩ := hv
  have hx := B.exec
  have hb := B.bytes
  have hr := B.returns
  have hT : ∀ w9 ∈ TB, w9.before ([.ref (a 0), .int p0, .int p1, .long p2] : List Value).toArray s = true := fun w9 h => atoms_spec (ws := .code yX10_write cX10_write 5 (some .int) :: TB) B.pre w9 (List.mem_cons_of_mem _ h)
  have hown : s.vm.findClass RX10 = some m.cls := findClass_of_methodNamed B.named
  have S : CallFix p m c cX10_write 5 s _ TB RX10 := ⟨hx, hb, hml, hown, hT⟩
  subst hsz
  have hD := hD0.self (sz := s.heap.size)
  generalize hAe : va_A (MWS k a st sl) s.heap.size = A at hD ⊢
  have hA : ∀ q : Nat, s.heap.size ≤ q → A q := fun q h => by rw [← hAe]; exact Or.inr h
  have hS : va_S A s.heap s.heap [] := va_S.rf
  have hl := lv_entry ([.ref (a 0), .int p0, .int p1, .long p2]) (n := 5) (Nat.le_of_ble_eq_true rfl)
  rw [lg_entry_eq]
  generalize (lg_sl ([.ref (a 0), .int p0, .int p1, .long p2]) ++ List.replicate (5 - (lg_sl ([.ref (a 0), .int p0, .int p1, .long p2])).length) Slot.unset).toArray = ls at hl ⊢
  have hl : lv_has ls 5 [(0, .ref (a 0)), (1, .int p0), (2, .int p1), (3, .long p2)] := hl
  refine nameQ (fun Q hQ => ?_)
  refine lv_iload_n hx hb dX10_write_0 rfl (lv_at hl 1 rfl) ?_
  refine ro_S (As := [.int p0]) (rest := []) S (m_X10_isSlot l D k a st sl  p0 _  hB  ) lkX10_300 ok_X10_isSlot ⟨rfl, rfl, Nat.le_of_ble_eq_true rfl, Nat.le_of_ble_eq_true rfl⟩ (pw_S hK hN hP (hD.weaken (fun _ _ _ _ => trivial))) rfl hl.1 rfl (Nat.le_of_ble_eq_true rfl) ⟨Nat.zero_le _, Nat.zero_le _⟩ dX10_write_1 (fun r1 er1 => ?_)
  rcases er1 with ⟨rfl, g9⟩ | ⟨rfl, g9⟩
  · skip
    have g2 := g9
    have h3 : Iv 0 3 p0 := g2.1
    refine lv_if_ne (tgt := 10) hx hb dX10_write_4 (by decide) (fun c4 => ?_) (fun c4 => ?_)
    rotate_left
    · first | exact absurd c4 (by decide) | exact absurd (by decide) c4
    refine lv_aload_n hx hb dX10_write_10 rfl (lv_at hl 0 rfl) ?_
    refine va_get (D := D) (ci := 10) (v := .ref (a 18)) (C := RX10) (T := TX10) (N := 38) hx hb hT in_X10 hown hK hP 0 mw_0 rfl 34 (by decide) (hT _ t1296) (fun _ h9 => h9) rfl dX10_write_11 ?_
    refine lv_iload_n hx hb dX10_write_14 rfl (lv_at hl 1 rfl) ?_
    refine va_iald hx hb hK hP 18 0 mw_18 rfl (iv_in h3 (by decide) (by decide)) dX10_write_15 ?_
    refine k_top (y := (st 18 p0.toNatClampNeg)) rfl ?_
    have h5 : Iv (-1) 60 (st 18 p0.toNatClampNeg) := (rm_18 hB (vp_in_lt (iv_in h3 (by decide) (by decide))))
    refine lv_iconst (v := (-1)) hx hb dX10_write_16 (by decide) ?_
    refine lv_icmp_ne (tgt := 23) hx hb dX10_write_17 (by decide) (fun c6 => ?_) (fun c6 => ?_)
    · skip
      have h7 : Iv 0 60 (st 18 p0.toNatClampNeg) := ne_lo h5 (show ¬ (st 18 p0.toNatClampNeg) = (-1) from c6) (by decide) (by decide)
      refine lv_iload_n hx hb dX10_write_23 rfl (lv_at hl 2 rfl) ?_
      refine lv_i2l hx hb dX10_write_24 rfl ?_
      refine lv_lconst (v := 0) hx hb dX10_write_25 (by decide) ?_
      refine lv_aload_n hx hb dX10_write_26 rfl (lv_at hl 0 rfl) ?_
      refine va_get (D := D) (ci := 10) (v := .ref (a 18)) (C := RX10) (T := TX10) (N := 38) hx hb hT in_X10 hown hK hP 0 mw_0 rfl 34 (by decide) (hT _ t1296) (fun _ h9 => h9) rfl dX10_write_27 ?_
      refine lv_iload_n hx hb dX10_write_30 rfl (lv_at hl 1 rfl) ?_
      refine va_iald hx hb hK hP 18 0 mw_18 rfl (iv_in h3 (by decide) (by decide)) dX10_write_31 ?_
      refine k_top (y := (st 18 p0.toNatClampNeg)) rfl ?_
      refine lv_iconst (v := 1) hx hb dX10_write_32 (by decide) ?_
      refine lv_isub hx hb dX10_write_33 ?_
      refine lv_topi (fun z8 ez8 => ?_)
      have h9 : Iv (-1) 59 z8 := iv_sub ez8 h7 (iv_c (by decide) : Iv 1 1 1) (by decide) (by decide) (by decide) (by decide)
      refine lv_i2l hx hb dX10_write_34 rfl ?_
      refine ro_S (As := [.long (p1.toInt64), .long 0, .long (z8.toInt64)]) (rest := []) S (m_X10_in l D k a st sl  (p1.toInt64) 0 (z8.toInt64) _  hB  ) lkX10_85 ok_X10_in ⟨rfl, rfl, Nat.le_of_ble_eq_true rfl, Nat.le_of_ble_eq_true rfl⟩ (pw_S hK hN hP (hD.weaken (fun _ _ _ _ => trivial))) rfl hl.1 rfl (Nat.le_of_ble_eq_true rfl) ⟨Nat.zero_le _, Nat.zero_le _⟩ dX10_write_35 (fun r10 er10 => ?_)
      rcases er10 with ⟨rfl, g9⟩ | ⟨rfl, g9⟩
      · skip
        have g11 := g9
        have k12 := g11
        have h13 : (0 : Int) ≤ (p1.toInt64).toInt ∧ (p1.toInt64).toInt ≤ (59 : Int) := ⟨((show (0 : Int) ≤ (p1.toInt64).toInt ∧ (p1.toInt64).toInt ≤ (59 : Int) from ⟨Int.le_trans ((⟨by decide, by decide⟩ : (0 : Int) ≤ (0 : Int64).toInt ∧ (0 : Int64).toInt ≤ (0 : Int))).1 k12.1, Int.le_trans k12.2 ((lv_iv h9)).2⟩)).1, ((show (0 : Int) ≤ (p1.toInt64).toInt ∧ (p1.toInt64).toInt ≤ (59 : Int) from ⟨Int.le_trans ((⟨by decide, by decide⟩ : (0 : Int) ≤ (0 : Int64).toInt ∧ (0 : Int64).toInt ≤ (0 : Int))).1 k12.1, Int.le_trans k12.2 ((lv_iv h9)).2⟩)).2⟩
        have h14 : Iv 0 59 p1 := iv_lv h13
        refine lv_if_ne (tgt := 44) hx hb dX10_write_38 (by decide) (fun c15 => ?_) (fun c15 => ?_)
        rotate_left
        · first | exact absurd c15 (by decide) | exact absurd (by decide) c15
        refine lv_aload_n hx hb dX10_write_44 rfl (lv_at hl 0 rfl) ?_
        refine va_get (D := D) (ci := 10) (v := .ref (a 20)) (C := RX10) (T := TX10) (N := 38) hx hb hT in_X10 hown hK hP 0 mw_0 rfl 36 (by decide) (hT _ t1298) (fun _ h9 => h9) rfl dX10_write_45 ?_
        refine lv_bipush (v := 60) hx hb dX10_write_48 (by decide) ?_
        refine lv_iload_n hx hb dX10_write_50 rfl (lv_at hl 1 rfl) ?_
        refine lv_imul hx hb dX10_write_51 ?_
        refine lv_topi (fun z16 ez16 => ?_)
        have h17 : Iv 0 180 z16 := iv_mull ez16 h3 (k := 60) (by decide) (by decide) (by decide) (by decide) (by decide) (by decide)
        refine lv_iload_n hx hb dX10_write_52 rfl (lv_at hl 2 rfl) ?_
        refine lv_iadd hx hb dX10_write_53 ?_
        refine lv_topi (fun z18 ez18 => ?_)
        have h19 : Iv 0 239 z18 := iv_add ez18 h17 h14 (by decide) (by decide) (by decide) (by decide)
        refine lv_lload_n hx hb dX10_write_54 rfl (lv_at hl 3 rfl) ?_
        refine lv_aload_n hx hb dX10_write_55 rfl (lv_at hl 0 rfl) ?_
        refine va_get (D := D) (ci := 10) (v := .ref (a 19)) (C := RX10) (T := TX10) (N := 38) hx hb hT in_X10 hown hK hP 0 mw_0 rfl 35 (by decide) (hT _ t1297) (fun _ h9 => h9) rfl dX10_write_56 ?_
        refine lv_iload_n hx hb dX10_write_59 rfl (lv_at hl 1 rfl) ?_
        refine va_iald hx hb hK hP 19 0 mw_19 rfl (iv_in h3 (by decide) (by decide)) dX10_write_60 ?_
        refine lv_topi (fun z20 ez20 => ?_)
        have h21 : Iv 0 3 z20 := by rw [ez20]; exact (rm_19 hB (vp_in_lt (iv_in h3 (by decide) (by decide))))
        refine ro_SL (As := [.long p2, .int z20]) (rest := [.int z18, .ref (a 20)]) S (m_X10_cut l D k a st sl  p2 z20 _  hB  ) lkX10_436 ok_X10_cut ⟨rfl, rfl, Nat.le_of_ble_eq_true rfl, Nat.le_of_ble_eq_true rfl⟩ (pw_S hK hN hP (hD.weaken (fun _ _ _ _ => trivial))) rfl hl.1 rfl (Nat.le_of_ble_eq_true rfl) ⟨Nat.zero_le _, Nat.zero_le _⟩ dX10_write_61 (fun r22 er22 => ?_)
        refine c_lst hx hb hK hP hD hS mw_20 ms_20 (iv_in h19 (by decide) (by decide)) dX10_write_64 (fun l23 H9 locs9 hP9 hD9 hS9 => ?_)
        clear hP hD hS
        have hS := hS9
        have hP := hP9
        have hD := hD9
        clear hP9 hD9 hS9
        refine lv_iconst (v := 0) hx hb dX10_write_65 (by decide) ?_
        rw [hQ]
        exact W.iret (v := 0) hx hb hr (fun t ht hW => ⟨⟨0, (st, l23), rfl, ⟨hB, fr_rf, (by obtain ⟨y0a, y0b⟩ := id (h3); obtain ⟨y1a, y1b⟩ := id (h14); have c1 := k12; rw [l_ti, l_ti] at c1; have c2 : (0 : Int64).toInt = 0 := rfl; rw [c2] at c1; have _c2 : (1 : Int32).toInt = 1 := rfl; have _ez8 := ti_sub ez8 h7 (iv_c (by decide) : Iv 1 1 1) (by decide) (by decide); unfold r_write; rw [if_pos (by omega), if_neg c6, if_pos ⟨by omega, by omega⟩])⟩, by rw [ht]; exact hP, va_K.moved hW.alike (hK.sub (tys' := []) [] rfl), by rw [hAe]; exact hD⟩, by rw [hAe]; exact hS.F ht⟩) hS.2.2 dX10_write_66
      · skip
        have g24 := g9
        have k25 := g24
        have k26 : ¬ ((0 : Int) ≤ p1.toInt ∧ p1.toInt ≤ z8.toInt) := (by have y9 := k25; simp only [l_ti] at y9; exact y9)
        refine lv_if_ne (tgt := 44) hx hb dX10_write_38 (by decide) (fun c27 => ?_) (fun c27 => ?_)
        · first | exact absurd c27 (by decide) | exact absurd (by decide) c27
        refine lv_bipush (v := (-7)) hx hb dX10_write_41 (by decide) ?_
        rw [hQ]
        exact W.iret (v := (-7)) hx hb hr (fun t ht hW => ⟨⟨(-7), (st, sl), rfl, ⟨hB, fr_rf, (by obtain ⟨y0a, y0b⟩ := id (h3); obtain ⟨y1a, y1b⟩ := id ((iv_full p1)); have c1 := k25; rw [l_ti, l_ti] at c1; have c2 : (0 : Int64).toInt = 0 := rfl; rw [c2] at c1; have _c2 : (1 : Int32).toInt = 1 := rfl; have _ez8 := ti_sub ez8 h7 (iv_c (by decide) : Iv 1 1 1) (by decide) (by decide); unfold r_write; rw [if_pos (by omega), if_neg c6, if_neg (by omega)])⟩, by rw [ht]; exact hP, va_K.moved hW.alike (hK.sub (tys' := []) [] rfl), by rw [hAe]; exact hD⟩, by rw [hAe]; exact hS.F ht⟩) hS.2.2 dX10_write_43
    · skip
      have h28 : Iv (-1) (-1) (st 18 p0.toNatClampNeg) := eq_l c6 (iv_c (by decide) : Iv (-1) (-1) (-1))
      refine lv_bipush (v := (-6)) hx hb dX10_write_20 (by decide) ?_
      rw [hQ]
      exact W.iret (v := (-6)) hx hb hr (fun t ht hW => ⟨⟨(-6), (st, sl), rfl, ⟨hB, fr_rf, (by obtain ⟨y0a, y0b⟩ := id (h3); obtain ⟨y1a, y1b⟩ := id ((iv_full p1)); unfold r_write; rw [if_pos (by omega), if_pos c6])⟩, by rw [ht]; exact hP, va_K.moved hW.alike (hK.sub (tys' := []) [] rfl), by rw [hAe]; exact hD⟩, by rw [hAe]; exact hS.F ht⟩) hS.2.2 dX10_write_22
  · skip
    have g29 := g9
    have k30 := g29
    refine lv_if_ne (tgt := 10) hx hb dX10_write_4 (by decide) (fun c31 => ?_) (fun c31 => ?_)
    · first | exact absurd c31 (by decide) | exact absurd (by decide) c31
    refine lv_bipush (v := (-2)) hx hb dX10_write_7 (by decide) ?_
    rw [hQ]
    exact W.iret (v := (-2)) hx hb hr (fun t ht hW => ⟨⟨(-2), (st, sl), rfl, ⟨hB, fr_rf, (by obtain ⟨y0a, y0b⟩ := id ((iv_full p0)); obtain ⟨y1a, y1b⟩ := id ((iv_full p1)); unfold r_write; rw [if_neg (by omega)])⟩, by rw [ht]; exact hP, va_K.moved hW.alike (hK.sub (tys' := []) [] rfl), by rw [hAe]; exact hD⟩, by rw [hAe]; exact hS.F ht⟩) hS.2.2 dX10_write_9
set_option maxHeartbeats 4000000 in
set_option maxRecDepth 100000 in
theorem m_X10_paste (l : Launch) (D : va_G) (k : Nat → ClassId) (a : Nat → Nat) (st : CT) (sl : CL) (p0 : Int32) (p1 : Int32) (p2 : Int32) (p3 : Int32) (p4 : Int32) (sz : Nat) (hB : MB st)  : Met l yX10_paste (.code yX10_paste cX10_paste 7 (some .int) :: TB) (rmw 3 0 0) (va_Pc [.ref (a 0), .int p0, .int p1, .int p2, .int p3, .int p4] (PW D k sz (MWS k a st sl))) (QI D (S := CT × CL) (fun r u => MB u.1 ∧ FR [] st u.1 ∧ ((r = r_paste (st 18) (st 19) (st 18) p0 p1 p2 p3 p4))) (fun u => MWS k a u.1 u.2) (fun _ => []) (MWS k a st sl) sz) 0 0 (va_A (MWS k a st sl) sz) := by
  refine Met.ofW (cc := cX10_paste) (maxL := 7) (ret := (some .int)) (by decide) rfl ?_
  intro p e s m args below meth c s₁ B hml hv
  obtain ⟨rfl, hsz, hP, hK, hD0, hN⟩ := hv
  have hx := B.exec
  have hb := B.bytes
  have hr := B.returns
  have hT : ∀ w9 ∈ TB, w9.before ([.ref (a 0), .int p0, .int p1, .int p2, .int p3, .int p4] : List Value).toArray s = true := fun w9 h => atoms_spec (ws := .code yX10_paste cX10_paste 7 (some .int) :: TB) B.pre w9 (List.mem_cons_of_mem _ h)
  have hown : s.vm.findClass RX10 = some m.cls := findClass_of_methodNamed B.named
  have S : CallFix p m c cX10_paste 7 s _ TB RX10 := ⟨hx, hb, hml, hown, hT⟩
  subst hsz
  have hD := hD0.self (sz := s.heap.size)
  generalize hAe : va_A (MWS k a st sl) s.heap.size = A at hD ⊢
  have hA : ∀ q : Nat, s.heap.size ≤ q → A q := fun q h => by rw [← hAe]; exact Or.inr h
  have hS : va_S A s.heap s.heap [] := va_S.rf
  have hl := lv_entry ([.ref (a 0), .int p0, .int p1, .int p2, .int p3, .int p4]) (n := 7) (Nat.le_of_ble_eq_true rfl)
  rw [lg_entry_eq]
  generalize (lg_sl ([.ref (a 0), .int p0, .int p1, .int p2, .int p3, .int p4]) ++ List.replicate (7 - (lg_sl ([.ref (a 0), .int p0, .int p1, .int p2, .int p3, .int p4])).length) Slot.unset).toArray = ls at hl ⊢
  have hl : lv_has ls 7 [(0, .ref (a 0)), (1, .int p0), (2, .int p1), (3, .int p2), (4, .int p3), (5, .int p4)] := hl
  refine nameQ (fun Q hQ => ?_)
  refine lv_iload_n hx hb dX10_paste_0 rfl (lv_at hl 1 rfl) ?_
  refine ro_S (As := [.int p0]) (rest := []) S (m_X10_isSlot l D k a st sl  p0 _  hB  ) lkX10_300 ok_X10_isSlot ⟨rfl, rfl, Nat.le_of_ble_eq_true rfl, Nat.le_of_ble_eq_true rfl⟩ (pw_S hK hN hP (hD.weaken (fun _ _ _ _ => trivial))) rfl hl.1 rfl (Nat.le_of_ble_eq_true rfl) ⟨Nat.zero_le _, Nat.zero_le _⟩ dX10_paste_1 (fun r1 er1 => ?_)
  rcases er1 with ⟨rfl, g9⟩ | ⟨rfl, g9⟩
  · skip
    have g2 := g9
    have h3 : Iv 0 3 p0 := g2.1
    refine lv_if_eq (tgt := 14) hx hb dX10_paste_4 (by decide) (fun c4 => ?_) (fun c4 => ?_)
    · first | exact absurd c4 (by decide) | exact absurd (by decide) c4
    refine lv_iload_n hx hb dX10_paste_7 rfl (lv_at hl 3 rfl) ?_
    refine ro_S (As := [.int p2]) (rest := []) S (m_X10_isSlot l D k a st sl  p2 _  hB  ) lkX10_300 ok_X10_isSlot ⟨rfl, rfl, Nat.le_of_ble_eq_true rfl, Nat.le_of_ble_eq_true rfl⟩ (pw_S hK hN hP (hD.weaken (fun _ _ _ _ => trivial))) rfl hl.1 rfl (Nat.le_of_ble_eq_true rfl) ⟨Nat.zero_le _, Nat.zero_le _⟩ dX10_paste_8 (fun r5 er5 => ?_)
    rcases er5 with ⟨rfl, g9⟩ | ⟨rfl, g9⟩
    · skip
      have g6 := g9
      have h7 : Iv 0 3 p2 := g6.1
      refine lv_if_ne (tgt := 17) hx hb dX10_paste_11 (by decide) (fun c8 => ?_) (fun c8 => ?_)
      rotate_left
      · first | exact absurd c8 (by decide) | exact absurd (by decide) c8
      refine lv_aload_n hx hb dX10_paste_17 rfl (lv_at hl 0 rfl) ?_
      refine va_get (D := D) (ci := 10) (v := .ref (a 18)) (C := RX10) (T := TX10) (N := 38) hx hb hT in_X10 hown hK hP 0 mw_0 rfl 34 (by decide) (hT _ t1296) (fun _ h9 => h9) rfl dX10_paste_18 ?_
      refine lv_iload_n hx hb dX10_paste_21 rfl (lv_at hl 1 rfl) ?_
      refine va_iald hx hb hK hP 18 0 mw_18 rfl (iv_in h3 (by decide) (by decide)) dX10_paste_22 ?_
      refine k_top (y := (st 18 p0.toNatClampNeg)) rfl ?_
      have h9 : Iv (-1) 60 (st 18 p0.toNatClampNeg) := (rm_18 hB (vp_in_lt (iv_in h3 (by decide) (by decide))))
      refine lv_iconst (v := (-1)) hx hb dX10_paste_23 (by decide) ?_
      refine lv_icmp_eq (tgt := 37) hx hb dX10_paste_24 (by decide) (fun c10 => ?_) (fun c10 => ?_)
      · skip
        have h11 : Iv (-1) (-1) (st 18 p0.toNatClampNeg) := eq_l c10 (iv_c (by decide) : Iv (-1) (-1) (-1))
        refine lv_bipush (v := (-6)) hx hb dX10_paste_37 (by decide) ?_
        rw [hQ]
        exact W.iret (v := (-6)) hx hb hr (fun t ht hW => ⟨⟨(-6), (st, sl), rfl, ⟨hB, fr_rf, (by obtain ⟨y0a, y0b⟩ := id (h3); obtain ⟨y2a, y2b⟩ := id (h7); unfold r_paste; rw [if_pos (by omega), if_pos (Or.inl c10)])⟩, by rw [ht]; exact hP, va_K.moved hW.alike (hK.sub (tys' := []) [] rfl), by rw [hAe]; exact hD⟩, by rw [hAe]; exact hS.F ht⟩) hS.2.2 dX10_paste_39
      · skip
        have h12 : Iv 0 60 (st 18 p0.toNatClampNeg) := ne_lo h9 c10 (by decide) (by decide)
        refine lv_aload_n hx hb dX10_paste_27 rfl (lv_at hl 0 rfl) ?_
        refine va_get (D := D) (ci := 10) (v := .ref (a 18)) (C := RX10) (T := TX10) (N := 38) hx hb hT in_X10 hown hK hP 0 mw_0 rfl 34 (by decide) (hT _ t1296) (fun _ h9 => h9) rfl dX10_paste_28 ?_
        refine lv_iload_n hx hb dX10_paste_31 rfl (lv_at hl 3 rfl) ?_
        refine va_iald hx hb hK hP 18 0 mw_18 rfl (iv_in h7 (by decide) (by decide)) dX10_paste_32 ?_
        refine k_top (y := (st 18 p2.toNatClampNeg)) rfl ?_
        have h13 : Iv (-1) 60 (st 18 p2.toNatClampNeg) := (rm_18 hB (vp_in_lt (iv_in h7 (by decide) (by decide))))
        refine lv_iconst (v := (-1)) hx hb dX10_paste_33 (by decide) ?_
        refine lv_icmp_ne (tgt := 40) hx hb dX10_paste_34 (by decide) (fun c14 => ?_) (fun c14 => ?_)
        · skip
          have h15 : Iv 0 60 (st 18 p2.toNatClampNeg) := ne_lo h13 (show ¬ (st 18 p2.toNatClampNeg) = (-1) from c14) (by decide) (by decide)
          refine lv_aload_n hx hb dX10_paste_40 rfl (lv_at hl 0 rfl) ?_
          refine va_get (D := D) (ci := 10) (v := .ref (a 19)) (C := RX10) (T := TX10) (N := 38) hx hb hT in_X10 hown hK hP 0 mw_0 rfl 35 (by decide) (hT _ t1297) (fun _ h9 => h9) rfl dX10_paste_41 ?_
          refine lv_iload_n hx hb dX10_paste_44 rfl (lv_at hl 1 rfl) ?_
          refine va_iald hx hb hK hP 19 0 mw_19 rfl (iv_in h3 (by decide) (by decide)) dX10_paste_45 ?_
          refine k_top (y := (st 19 p0.toNatClampNeg)) rfl ?_
          have h16 : Iv 0 3 (st 19 p0.toNatClampNeg) := (rm_19 hB (vp_in_lt (iv_in h3 (by decide) (by decide))))
          refine lv_aload_n hx hb dX10_paste_46 rfl (lv_at hl 0 rfl) ?_
          refine va_get (D := D) (ci := 10) (v := .ref (a 19)) (C := RX10) (T := TX10) (N := 38) hx hb hT in_X10 hown hK hP 0 mw_0 rfl 35 (by decide) (hT _ t1297) (fun _ h9 => h9) rfl dX10_paste_47 ?_
          refine lv_iload_n hx hb dX10_paste_50 rfl (lv_at hl 3 rfl) ?_
          refine va_iald hx hb hK hP 19 0 mw_19 rfl (iv_in h7 (by decide) (by decide)) dX10_paste_51 ?_
          refine k_top (y := (st 19 p2.toNatClampNeg)) rfl ?_
          have h17 : Iv 0 3 (st 19 p2.toNatClampNeg) := (rm_19 hB (vp_in_lt (iv_in h7 (by decide) (by decide))))
          refine lv_icmp_eq (tgt := 58) hx hb dX10_paste_52 (by decide) (fun c18 => ?_) (fun c18 => ?_)
          · skip
            refine lv_iload_n hx hb dX10_paste_58 rfl (lv_at hl 2 rfl) ?_
            refine lv_if_lt (tgt := 107) hx hb dX10_paste_59 (by decide) (fun c19 => ?_) (fun c19 => ?_)
            · skip
              have n20 : p1.toInt < (0 : Int32).toInt := (i_lt c19)
              have h21 : Iv (-2147483648) (-1) p1 := lt_l (iv_full p1) n20 (iv_c (by decide) : Iv 0 0 0) (by decide)
              refine lv_bipush (v := (-7)) hx hb dX10_paste_107 (by decide) ?_
              rw [hQ]
              exact W.iret (v := (-7)) hx hb hr (fun t ht hW => ⟨⟨(-7), (st, sl), rfl, ⟨hB, fr_rf, (by obtain ⟨y0a, y0b⟩ := id (h3); obtain ⟨y1a, y1b⟩ := id (h21); obtain ⟨y2a, y2b⟩ := id (h7); obtain ⟨y3a, y3b⟩ := id ((iv_full p3)); obtain ⟨y4a, y4b⟩ := id ((iv_full p4)); unfold r_paste; rw [if_pos (by omega), if_neg (fun z9 => z9.elim c10 c14), if_neg (fun z9 => z9 c18), if_neg (by omega)])⟩, by rw [ht]; exact hP, va_K.moved hW.alike (hK.sub (tys' := []) [] rfl), by rw [hAe]; exact hD⟩, by rw [hAe]; exact hS.F ht⟩) hS.2.2 dX10_paste_109
            · skip
              have n22 : (0 : Int32).toInt ≤ p1.toInt := (i_nlt c19)
              have h23 : Iv 0 2147483647 p1 := le_r (iv_c (by decide) : Iv 0 0 0) n22 (iv_full p1) (by decide)
              refine lv_iload hx hb dX10_paste_62 (lv_at hl 4 rfl) ?_
              refine lv_if_lt (tgt := 107) hx hb dX10_paste_64 (by decide) (fun c24 => ?_) (fun c24 => ?_)
              · skip
                have n25 : p3.toInt < (0 : Int32).toInt := (i_lt c24)
                have h26 : Iv (-2147483648) (-1) p3 := lt_l (iv_full p3) n25 (iv_c (by decide) : Iv 0 0 0) (by decide)
                refine lv_bipush (v := (-7)) hx hb dX10_paste_107 (by decide) ?_
                rw [hQ]
                exact W.iret (v := (-7)) hx hb hr (fun t ht hW => ⟨⟨(-7), (st, sl), rfl, ⟨hB, fr_rf, (by obtain ⟨y0a, y0b⟩ := id (h3); obtain ⟨y1a, y1b⟩ := id (h23); obtain ⟨y2a, y2b⟩ := id (h7); obtain ⟨y3a, y3b⟩ := id (h26); obtain ⟨y4a, y4b⟩ := id ((iv_full p4)); unfold r_paste; rw [if_pos (by omega), if_neg (fun z9 => z9.elim c10 c14), if_neg (fun z9 => z9 c18), if_neg (by omega)])⟩, by rw [ht]; exact hP, va_K.moved hW.alike (hK.sub (tys' := []) [] rfl), by rw [hAe]; exact hD⟩, by rw [hAe]; exact hS.F ht⟩) hS.2.2 dX10_paste_109
              · skip
                have n27 : (0 : Int32).toInt ≤ p3.toInt := (i_nlt c24)
                have h28 : Iv 0 2147483647 p3 := le_r (iv_c (by decide) : Iv 0 0 0) n27 (iv_full p3) (by decide)
                refine lv_iload hx hb dX10_paste_67 (lv_at hl 5 rfl) ?_
                refine lv_if_lt (tgt := 107) hx hb dX10_paste_69 (by decide) (fun c29 => ?_) (fun c29 => ?_)
                · skip
                  have n30 : p4.toInt < (0 : Int32).toInt := (i_lt c29)
                  have h31 : Iv (-2147483648) (-1) p4 := lt_l (iv_full p4) n30 (iv_c (by decide) : Iv 0 0 0) (by decide)
                  refine lv_bipush (v := (-7)) hx hb dX10_paste_107 (by decide) ?_
                  rw [hQ]
                  exact W.iret (v := (-7)) hx hb hr (fun t ht hW => ⟨⟨(-7), (st, sl), rfl, ⟨hB, fr_rf, (by obtain ⟨y0a, y0b⟩ := id (h3); obtain ⟨y1a, y1b⟩ := id (h23); obtain ⟨y2a, y2b⟩ := id (h7); obtain ⟨y3a, y3b⟩ := id (h28); obtain ⟨y4a, y4b⟩ := id (h31); unfold r_paste; rw [if_pos (by omega), if_neg (fun z9 => z9.elim c10 c14), if_neg (fun z9 => z9 c18), if_neg (by omega)])⟩, by rw [ht]; exact hP, va_K.moved hW.alike (hK.sub (tys' := []) [] rfl), by rw [hAe]; exact hD⟩, by rw [hAe]; exact hS.F ht⟩) hS.2.2 dX10_paste_109
                · skip
                  have n32 : (0 : Int32).toInt ≤ p4.toInt := (i_nlt c29)
                  have h33 : Iv 0 2147483647 p4 := le_r (iv_c (by decide) : Iv 0 0 0) n32 (iv_full p4) (by decide)
                  refine lv_iload_n hx hb dX10_paste_72 rfl (lv_at hl 2 rfl) ?_
                  refine lv_i2l hx hb dX10_paste_73 rfl ?_
                  refine lv_iload hx hb dX10_paste_74 (lv_at hl 5 rfl) ?_
                  refine lv_i2l hx hb dX10_paste_76 rfl ?_
                  refine lv_ladd hx hb dX10_paste_77 ?_
                  refine lv_topl (fun z34 ez34 => ?_)
                  refine lv_aload_n hx hb dX10_paste_78 rfl (lv_at hl 0 rfl) ?_
                  refine va_get (D := D) (ci := 10) (v := .ref (a 18)) (C := RX10) (T := TX10) (N := 38) hx hb hT in_X10 hown hK hP 0 mw_0 rfl 34 (by decide) (hT _ t1296) (fun _ h9 => h9) rfl dX10_paste_79 ?_
                  refine lv_iload_n hx hb dX10_paste_82 rfl (lv_at hl 1 rfl) ?_
                  refine va_iald hx hb hK hP 18 0 mw_18 rfl (iv_in h3 (by decide) (by decide)) dX10_paste_83 ?_
                  refine k_top (y := (st 18 p0.toNatClampNeg)) rfl ?_
                  refine lv_i2l hx hb dX10_paste_84 rfl ?_
                  refine W.lcmp hx hb dX10_paste_85 ?_
                  refine lv_topi (fun z35 ez35 => ?_)
                  refine lv_if_gt (tgt := 107) hx hb dX10_paste_86 (by decide) (fun c36 => ?_) (fun c36 => ?_)
                  · skip
                    have n37 := lc_gt ez35 c36
                    have k38 : (st 18 p0.toNatClampNeg).toInt < p1.toInt + p4.toInt := (by have y9 := n37; rw [ladd_i ez34, l_ti] at y9; exact y9)
                    refine lv_bipush (v := (-7)) hx hb dX10_paste_107 (by decide) ?_
                    rw [hQ]
                    exact W.iret (v := (-7)) hx hb hr (fun t ht hW => ⟨⟨(-7), (st, sl), rfl, ⟨hB, fr_rf, (by obtain ⟨y0a, y0b⟩ := id (h3); obtain ⟨y1a, y1b⟩ := id (h23); obtain ⟨y2a, y2b⟩ := id (h7); obtain ⟨y3a, y3b⟩ := id (h28); obtain ⟨y4a, y4b⟩ := id (h33); unfold r_paste; rw [if_pos (by omega), if_neg (fun z9 => z9.elim c10 c14), if_neg (fun z9 => z9 c18), if_neg (by omega)])⟩, by rw [ht]; exact hP, va_K.moved hW.alike (hK.sub (tys' := []) [] rfl), by rw [hAe]; exact hD⟩, by rw [hAe]; exact hS.F ht⟩) hS.2.2 dX10_paste_109
                  · skip
                    have n39 := lc_ngt ez35 c36
                    have k40 : p1.toInt + p4.toInt ≤ (st 18 p0.toNatClampNeg).toInt := (by have y9 := n39; rw [ladd_i ez34, l_ti] at y9; exact y9)
                    have h41 : Iv 0 60 p1 := (by obtain ⟨y1, y2⟩ := id (h12); obtain ⟨y3, y4⟩ := id (h23); obtain ⟨y5, y6⟩ := id (h33); exact ⟨by omega, by omega⟩)
                    have h42 : Iv 0 60 p4 := (by obtain ⟨y1, y2⟩ := id (h12); obtain ⟨y3, y4⟩ := id (h33); obtain ⟨y5, y6⟩ := id (h23); exact ⟨by omega, by omega⟩)
                    refine lv_iload hx hb dX10_paste_89 (lv_at hl 4 rfl) ?_
                    refine lv_i2l hx hb dX10_paste_91 rfl ?_
                    refine lv_iload hx hb dX10_paste_92 (lv_at hl 5 rfl) ?_
                    refine lv_i2l hx hb dX10_paste_94 rfl ?_
                    refine lv_ladd hx hb dX10_paste_95 ?_
                    refine lv_topl (fun z43 ez43 => ?_)
                    refine lv_aload_n hx hb dX10_paste_96 rfl (lv_at hl 0 rfl) ?_
                    refine va_get (D := D) (ci := 10) (v := .ref (a 18)) (C := RX10) (T := TX10) (N := 38) hx hb hT in_X10 hown hK hP 0 mw_0 rfl 34 (by decide) (hT _ t1296) (fun _ h9 => h9) rfl dX10_paste_97 ?_
                    refine lv_iload_n hx hb dX10_paste_100 rfl (lv_at hl 3 rfl) ?_
                    refine va_iald hx hb hK hP 18 0 mw_18 rfl (iv_in h7 (by decide) (by decide)) dX10_paste_101 ?_
                    refine k_top (y := (st 18 p2.toNatClampNeg)) rfl ?_
                    refine lv_i2l hx hb dX10_paste_102 rfl ?_
                    refine W.lcmp hx hb dX10_paste_103 ?_
                    refine lv_topi (fun z44 ez44 => ?_)
                    refine lv_if_le (tgt := 110) hx hb dX10_paste_104 (by decide) (fun c45 => ?_) (fun c45 => ?_)
                    · skip
                      have n46 := lc_le ez44 c45
                      have k47 : p3.toInt + p4.toInt ≤ (st 18 p2.toNatClampNeg).toInt := (by have y9 := n46; rw [ladd_i ez43, l_ti] at y9; exact y9)
                      have h48 : Iv 0 60 p3 := (by obtain ⟨y1, y2⟩ := id (h15); obtain ⟨y3, y4⟩ := id (h28); obtain ⟨y5, y6⟩ := id (h42); exact ⟨by omega, by omega⟩)
                      refine lv_iconst (v := 0) hx hb dX10_paste_110 (by decide) ?_
                      refine lv_istore (lv' := [(6, .int 0), (0, .ref (a 0)), (1, .int p0), (2, .int p1), (3, .int p2), (4, .int p3), (5, .int p4)]) hx hb dX10_paste_111 hl (by decide) rfl (fun ls hl => ?_)
                      have lp113 : ∀ (n9_113 : Nat) (v6_113 : Int32) (t113 : CT) (l113 : CL) (H9 : Heap) (locs9 : List Loc) (ls : Array Slot), Iv 0 60 v6_113 → MB t113 → FR [] st t113 → va_P D vwCl (MWS k a t113 l113) H9 → va_D A (MWS k a t113 l113) → va_S A s.heap H9 locs9 → lv_has ls 7 [(6, .int v6_113), (0, .ref (a 0)), (1, .int p0), (2, .int p1), (3, .int p2), (4, .int p3), (5, .int p4)] → (60 : Int) - v6_113.toInt < (n9_113 : Int) → W p l e (rmw 3 0 0) s m ([.ref (a 0), .int p0, .int p1, .int p2, .int p3, .int p4] : List Value).toArray below meth c H9 locs9 0 0 Q (F0 m 113 ls []) := by
                        clear hl hP hD hS
                        intro n9_113
                        induction n9_113 with
                        | zero =>
                          intro v6_113 t113 l113 H9 locs9 ls iv6_113 hBt113 gt113 hP hD hS hl hm113
                          exact (fu_0 iv6_113 hm113).elim
                        | succ n9_113 ih113 =>
                          intro v6_113 t113 l113 H9 locs9 ls iv6_113 hBt113 gt113 hP hD hS hl hm113
                          have hFt113 : FR [] st t113 := fr_ca fr_rf gt113 sub_0
                          refine lv_iload hx hb dX10_paste_113 (lv_at hl 0 rfl) ?_
                          refine lv_iload hx hb dX10_paste_115 (lv_at hl 6 rfl) ?_
                          refine lv_icmp_ge (tgt := 147) hx hb dX10_paste_117 (by decide) (fun c349 => ?_) (fun c349 => ?_)
                          · skip
                            have n350 : p4.toInt ≤ v6_113.toInt := (i_le c349)
                            refine lv_iconst (v := 0) hx hb dX10_paste_147 (by decide) ?_
                            refine lv_istore (lv' := [(6, .int 0), (0, .ref (a 0)), (1, .int p0), (2, .int p1), (3, .int p2), (4, .int p3), (5, .int p4)]) hx hb dX10_paste_148 hl (by decide) rfl (fun ls hl => ?_)
                            have lp150 : ∀ (n9_150 : Nat) (v6_150 : Int32) (t150 : CT) (l150 : CL) (H9 : Heap) (locs9 : List Loc) (ls : Array Slot), Iv 0 60 v6_150 → MB t150 → FR [] t113 t150 → va_P D vwCl (MWS k a t150 l150) H9 → va_D A (MWS k a t150 l150) → va_S A s.heap H9 locs9 → lv_has ls 7 [(6, .int v6_150), (0, .ref (a 0)), (1, .int p0), (2, .int p1), (3, .int p2), (4, .int p3), (5, .int p4)] → (60 : Int) - v6_150.toInt < (n9_150 : Int) → W p l e (rmw 3 0 0) s m ([.ref (a 0), .int p0, .int p1, .int p2, .int p3, .int p4] : List Value).toArray below meth c H9 locs9 0 0 Q (F0 m 150 ls []) := by
                              clear hl hP hD hS
                              intro n9_150
                              induction n9_150 with
                              | zero =>
                                intro v6_150 t150 l150 H9 locs9 ls iv6_150 hBt150 gt150 hP hD hS hl hm150
                                exact (fu_0 iv6_150 hm150).elim
                              | succ n9_150 ih150 =>
                                intro v6_150 t150 l150 H9 locs9 ls iv6_150 hBt150 gt150 hP hD hS hl hm150
                                have hFt150 : FR [] st t150 := fr_ca hFt113 gt150 sub_0
                                refine lv_iload hx hb dX10_paste_150 (lv_at hl 0 rfl) ?_
                                refine lv_iload hx hb dX10_paste_152 (lv_at hl 6 rfl) ?_
                                refine lv_icmp_ge (tgt := 185) hx hb dX10_paste_154 (by decide) (fun c651 => ?_) (fun c651 => ?_)
                                · skip
                                  have n652 : p4.toInt ≤ v6_150.toInt := (i_le c651)
                                  refine lv_iconst (v := 0) hx hb dX10_paste_185 (by decide) ?_
                                  rw [hQ]
                                  exact W.iret (v := 0) hx hb hr (fun t ht hW => ⟨⟨0, (t150, l150), rfl, ⟨hBt150, hFt150, (by obtain ⟨y0a, y0b⟩ := id (h3); obtain ⟨y1a, y1b⟩ := id (h41); obtain ⟨y2a, y2b⟩ := id (h7); obtain ⟨y3a, y3b⟩ := id (h48); obtain ⟨y4a, y4b⟩ := id (h42); unfold r_paste; rw [if_pos (by omega), if_neg (fun z9 => z9.elim c10 c14), if_neg (fun z9 => z9 c18), if_pos (by omega)])⟩, by rw [ht]; exact hP, va_K.moved hW.alike (hK.sub (tys' := []) [] rfl), by rw [hAe]; exact hD⟩, by rw [hAe]; exact hS.F ht⟩) hS.2.2 dX10_paste_186
                                · skip
                                  have n653 : v6_150.toInt < p4.toInt := (i_nle c651)
                                  have h654 : Iv 0 59 v6_150 := lt_l iv6_150 n653 h42 (by decide)
                                  have h655 : Iv 1 60 p4 := lt_r iv6_150 n653 h42 (by decide)
                                  refine lv_aload_n hx hb dX10_paste_157 rfl (lv_at hl 1 rfl) ?_
                                  refine va_get (D := D) (ci := 10) (v := .ref (a 20)) (C := RX10) (T := TX10) (N := 38) hx hb hT in_X10 hown hK hP 0 mw_0 rfl 36 (by decide) (hT _ t1298) (fun _ h9 => h9) rfl dX10_paste_158 ?_
                                  refine lv_bipush (v := 60) hx hb dX10_paste_161 (by decide) ?_
                                  refine lv_iload_n hx hb dX10_paste_163 rfl (lv_at hl 4 rfl) ?_
                                  refine lv_imul hx hb dX10_paste_164 ?_
                                  refine lv_topi (fun z656 ez656 => ?_)
                                  have h657 : Iv 0 180 z656 := iv_mull ez656 h7 (k := 60) (by decide) (by decide) (by decide) (by decide) (by decide) (by decide)
                                  refine lv_iload hx hb dX10_paste_165 (lv_at hl 5 rfl) ?_
                                  refine lv_iadd hx hb dX10_paste_167 ?_
                                  refine lv_topi (fun z658 ez658 => ?_)
                                  have h659 : Iv 0 240 z658 := iv_add ez658 h657 h48 (by decide) (by decide) (by decide) (by decide)
                                  refine lv_iload hx hb dX10_paste_168 (lv_at hl 0 rfl) ?_
                                  refine lv_iadd hx hb dX10_paste_170 ?_
                                  refine lv_topi (fun z660 ez660 => ?_)
                                  have h661 : Iv 0 299 z660 := iv_add ez660 h659 h654 (by decide) (by decide) (by decide) (by decide)
                                  have h662 : Iv 0 239 z660 := (by have y1 := k47; have y2 := n653; obtain ⟨y3, y4⟩ := id (h15); obtain ⟨y5, y6⟩ := id (h654); obtain ⟨y7, y8⟩ := id (h7); obtain ⟨y9, y10⟩ := id (h48); have _c120 : (60 : Int32).toInt = 60 := rfl; have _ez656 := ti_mull ez656 h7 (k := 60) (by decide) (by decide) (by decide) (by decide); have _ez658 := ti_add ez658 h657 h48 (by decide) (by decide); have _ez660 := ti_add ez660 h659 h654 (by decide) (by decide); exact ⟨by omega, by omega⟩)
                                  refine lv_aload_n hx hb dX10_paste_171 rfl (lv_at hl 1 rfl) ?_
                                  refine va_get (D := D) (ci := 10) (v := .ref (a 21)) (C := RX10) (T := TX10) (N := 38) hx hb hT in_X10 hown hK hP 0 mw_0 rfl 37 (by decide) (hT _ t1299) (fun _ h9 => h9) rfl dX10_paste_172 ?_
                                  refine lv_iload hx hb dX10_paste_175 (lv_at hl 0 rfl) ?_
                                  refine va_lald hx hb hK hP 21 2 mw_21 rfl (iv_in h654 (by decide) (by decide)) dX10_paste_177 ?_
                                  refine lv_topl (fun z663 ez663 => ?_)
                                  refine c_lst hx hb hK hP hD hS mw_20 ms_20 (iv_in h662 (by decide) (by decide)) dX10_paste_178 (fun l664 H9 locs9 hP9 hD9 hS9 => ?_)
                                  clear hP hD hS
                                  have hS := hS9
                                  have hP := hP9
                                  have hD := hD9
                                  clear hP9 hD9 hS9
                                  obtain ⟨z665, ez665⟩ : ∃ z9 : Int32, z9 = v6_150 + Int32.ofInt 1 := ⟨_, rfl⟩
                                  have h666 : Iv 1 60 z665 := iv_inc ez665 h654 (by decide) (by decide) (by decide) (by decide) (by decide) (by decide)
                                  refine lv_iinc (v := z665) (lv' := [(6, .int z665), (0, .ref (a 0)), (1, .int p0), (2, .int p1), (3, .int p2), (4, .int p3), (5, .int p4)]) hx hb dX10_paste_179 hl (k := 0) rfl ez665.symm (by decide) rfl (fun ls hl => ?_)
                                  refine lv_goto (tgt := 150) hx hb dX10_paste_182 (by decide) ?_
                                  exact ih150 z665 t150 l664 _ _ _ (iv_mono (c := 0) (d := 60) h666 (by decide) (by decide)) hBt150 gt150 hP hD hS (lv_sub hl [0, 1, 2, 3, 4, 5, 6] rfl) (fu_s (lo := 0) (ti_inc ez665 h654 (by decide) (by decide) (by decide) (by decide)) (by decide) hm150)
                            exact lp150 61 0 t113 l113 _ _ _ (iv_mono (c := 0) (d := 60) (iv_c (by decide) : Iv 0 0 0) (by decide) (by decide)) hBt113 fr_rf hP hD hS (lv_sub hl [0, 1, 2, 3, 4, 5, 6] rfl) (fu_i (iv_mono (c := 0) (d := 60) (iv_c (by decide) : Iv 0 0 0) (by decide) (by decide)) (by decide))
                          · skip
                            have n667 : v6_113.toInt < p4.toInt := (i_nle c349)
                            have h668 : Iv 0 59 v6_113 := lt_l iv6_113 n667 h42 (by decide)
                            have h669 : Iv 1 60 p4 := lt_r iv6_113 n667 h42 (by decide)
                            refine lv_aload_n hx hb dX10_paste_120 rfl (lv_at hl 1 rfl) ?_
                            refine va_get (D := D) (ci := 10) (v := .ref (a 21)) (C := RX10) (T := TX10) (N := 38) hx hb hT in_X10 hown hK hP 0 mw_0 rfl 37 (by decide) (hT _ t1299) (fun _ h9 => h9) rfl dX10_paste_121 ?_
                            refine lv_iload hx hb dX10_paste_124 (lv_at hl 0 rfl) ?_
                            refine lv_aload_n hx hb dX10_paste_126 rfl (lv_at hl 1 rfl) ?_
                            refine va_get (D := D) (ci := 10) (v := .ref (a 20)) (C := RX10) (T := TX10) (N := 38) hx hb hT in_X10 hown hK hP 0 mw_0 rfl 36 (by decide) (hT _ t1298) (fun _ h9 => h9) rfl dX10_paste_127 ?_
                            refine lv_bipush (v := 60) hx hb dX10_paste_130 (by decide) ?_
                            refine lv_iload_n hx hb dX10_paste_132 rfl (lv_at hl 2 rfl) ?_
                            refine lv_imul hx hb dX10_paste_133 ?_
                            refine lv_topi (fun z670 ez670 => ?_)
                            have h671 : Iv 0 180 z670 := iv_mull ez670 h3 (k := 60) (by decide) (by decide) (by decide) (by decide) (by decide) (by decide)
                            refine lv_iload_n hx hb dX10_paste_134 rfl (lv_at hl 3 rfl) ?_
                            refine lv_iadd hx hb dX10_paste_135 ?_
                            refine lv_topi (fun z672 ez672 => ?_)
                            have h673 : Iv 0 240 z672 := iv_add ez672 h671 h41 (by decide) (by decide) (by decide) (by decide)
                            refine lv_iload hx hb dX10_paste_136 (lv_at hl 0 rfl) ?_
                            refine lv_iadd hx hb dX10_paste_138 ?_
                            refine lv_topi (fun z674 ez674 => ?_)
                            have h675 : Iv 0 299 z674 := iv_add ez674 h673 h668 (by decide) (by decide) (by decide) (by decide)
                            have h676 : Iv 0 239 z674 := (by have y1 := k40; have y2 := n667; obtain ⟨y3, y4⟩ := id (h12); obtain ⟨y5, y6⟩ := id (h668); obtain ⟨y7, y8⟩ := id (h3); obtain ⟨y9, y10⟩ := id (h41); have _c120 : (60 : Int32).toInt = 60 := rfl; have _ez670 := ti_mull ez670 h3 (k := 60) (by decide) (by decide) (by decide) (by decide); have _ez672 := ti_add ez672 h671 h41 (by decide) (by decide); have _ez674 := ti_add ez674 h673 h668 (by decide) (by decide); exact ⟨by omega, by omega⟩)
                            refine va_lald hx hb hK hP 20 2 mw_20 rfl (iv_in h676 (by decide) (by decide)) dX10_paste_139 ?_
                            refine lv_topl (fun z677 ez677 => ?_)
                            refine c_lst hx hb hK hP hD hS mw_21 ms_21 (iv_in h668 (by decide) (by decide)) dX10_paste_140 (fun l678 H9 locs9 hP9 hD9 hS9 => ?_)
                            clear hP hD hS
                            have hS := hS9
                            have hP := hP9
                            have hD := hD9
                            clear hP9 hD9 hS9
                            obtain ⟨z679, ez679⟩ : ∃ z9 : Int32, z9 = v6_113 + Int32.ofInt 1 := ⟨_, rfl⟩
                            have h680 : Iv 1 60 z679 := iv_inc ez679 h668 (by decide) (by decide) (by decide) (by decide) (by decide) (by decide)
                            refine lv_iinc (v := z679) (lv' := [(6, .int z679), (0, .ref (a 0)), (1, .int p0), (2, .int p1), (3, .int p2), (4, .int p3), (5, .int p4)]) hx hb dX10_paste_141 hl (k := 0) rfl ez679.symm (by decide) rfl (fun ls hl => ?_)
                            refine lv_goto (tgt := 113) hx hb dX10_paste_144 (by decide) ?_
                            exact ih113 z679 t113 l678 _ _ _ (iv_mono (c := 0) (d := 60) h680 (by decide) (by decide)) hBt113 gt113 hP hD hS (lv_sub hl [0, 1, 2, 3, 4, 5, 6] rfl) (fu_s (lo := 0) (ti_inc ez679 h668 (by decide) (by decide) (by decide) (by decide)) (by decide) hm113)
                      exact lp113 61 0 st sl _ _ _ (iv_mono (c := 0) (d := 60) (iv_c (by decide) : Iv 0 0 0) (by decide) (by decide)) hB fr_rf hP hD hS (lv_sub hl [0, 1, 2, 3, 4, 5, 6] rfl) (fu_i (iv_mono (c := 0) (d := 60) (iv_c (by decide) : Iv 0 0 0) (by decide) (by decide)) (by decide))
                    · skip
                      have n681 := lc_nle ez44 c45
                      have k682 : (st 18 p2.toNatClampNeg).toInt < p3.toInt + p4.toInt := (by have y9 := n681; rw [ladd_i ez43, l_ti] at y9; exact y9)
                      refine lv_bipush (v := (-7)) hx hb dX10_paste_107 (by decide) ?_
                      rw [hQ]
                      exact W.iret (v := (-7)) hx hb hr (fun t ht hW => ⟨⟨(-7), (st, sl), rfl, ⟨hB, fr_rf, (by obtain ⟨y0a, y0b⟩ := id (h3); obtain ⟨y1a, y1b⟩ := id (h41); obtain ⟨y2a, y2b⟩ := id (h7); obtain ⟨y3a, y3b⟩ := id (h28); obtain ⟨y4a, y4b⟩ := id (h42); unfold r_paste; rw [if_pos (by omega), if_neg (fun z9 => z9.elim c10 c14), if_neg (fun z9 => z9 c18), if_neg (by omega)])⟩, by rw [ht]; exact hP, va_K.moved hW.alike (hK.sub (tys' := []) [] rfl), by rw [hAe]; exact hD⟩, by rw [hAe]; exact hS.F ht⟩) hS.2.2 dX10_paste_109
          · skip
            refine lv_bipush (v := (-8)) hx hb dX10_paste_55 (by decide) ?_
            rw [hQ]
            exact W.iret (v := (-8)) hx hb hr (fun t ht hW => ⟨⟨(-8), (st, sl), rfl, ⟨hB, fr_rf, (by obtain ⟨y0a, y0b⟩ := id (h3); obtain ⟨y2a, y2b⟩ := id (h7); unfold r_paste; rw [if_pos (by omega), if_neg (fun z9 => z9.elim c10 c14), if_pos c18])⟩, by rw [ht]; exact hP, va_K.moved hW.alike (hK.sub (tys' := []) [] rfl), by rw [hAe]; exact hD⟩, by rw [hAe]; exact hS.F ht⟩) hS.2.2 dX10_paste_57
        · skip
          have h683 : Iv (-1) (-1) (st 18 p2.toNatClampNeg) := eq_l c14 (iv_c (by decide) : Iv (-1) (-1) (-1))
          refine lv_bipush (v := (-6)) hx hb dX10_paste_37 (by decide) ?_
          rw [hQ]
          exact W.iret (v := (-6)) hx hb hr (fun t ht hW => ⟨⟨(-6), (st, sl), rfl, ⟨hB, fr_rf, (by obtain ⟨y0a, y0b⟩ := id (h3); obtain ⟨y2a, y2b⟩ := id (h7); unfold r_paste; rw [if_pos (by omega), if_pos (Or.inr c14)])⟩, by rw [ht]; exact hP, va_K.moved hW.alike (hK.sub (tys' := []) [] rfl), by rw [hAe]; exact hD⟩, by rw [hAe]; exact hS.F ht⟩) hS.2.2 dX10_paste_39
    · skip
      have g684 := g9
      have k685 := g684
      refine lv_if_ne (tgt := 17) hx hb dX10_paste_11 (by decide) (fun c686 => ?_) (fun c686 => ?_)
      · first | exact absurd c686 (by decide) | exact absurd (by decide) c686
      refine lv_bipush (v := (-2)) hx hb dX10_paste_14 (by decide) ?_
      rw [hQ]
      exact W.iret (v := (-2)) hx hb hr (fun t ht hW => ⟨⟨(-2), (st, sl), rfl, ⟨hB, fr_rf, (by obtain ⟨y0a, y0b⟩ := id (h3); obtain ⟨y2a, y2b⟩ := id ((iv_full p2)); unfold r_paste; rw [if_neg (by omega)])⟩, by rw [ht]; exact hP, va_K.moved hW.alike (hK.sub (tys' := []) [] rfl), by rw [hAe]; exact hD⟩, by rw [hAe]; exact hS.F ht⟩) hS.2.2 dX10_paste_16
  · skip
    have g687 := g9
    have k688 := g687
    refine lv_if_eq (tgt := 14) hx hb dX10_paste_4 (by decide) (fun c689 => ?_) (fun c689 => ?_)
    rotate_left
    · first | exact absurd c689 (by decide) | exact absurd (by decide) c689
    refine lv_bipush (v := (-2)) hx hb dX10_paste_14 (by decide) ?_
    rw [hQ]
    exact W.iret (v := (-2)) hx hb hr (fun t ht hW => ⟨⟨(-2), (st, sl), rfl, ⟨hB, fr_rf, (by obtain ⟨y0a, y0b⟩ := id ((iv_full p0)); obtain ⟨y2a, y2b⟩ := id ((iv_full p2)); unfold r_paste; rw [if_neg (by omega)])⟩, by rw [ht]; exact hP, va_K.moved hW.alike (hK.sub (tys' := []) [] rfl), by rw [hAe]; exact hD⟩, by rw [hAe]; exact hS.F ht⟩) hS.2.2 dX10_paste_16
