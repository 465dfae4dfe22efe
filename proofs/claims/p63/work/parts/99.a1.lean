def SE (st : CT) (p : Int32) : Int32 := if p.toInt < (st 0 7).toInt then st 4 p.toNatClampNeg &&& 255 else -1
theorem se_eq {u v : CT} {p : Int32} (e7 : u 0 7 = v 0 7) (e4 : u 4 = v 4) : SE u p = SE v p := by unfold SE; rw [e7, e4]
def AD (st u : CT) : Prop := (st 0 8).toInt ≤ (u 0 8).toInt ∧ (¬ u 0 10 = 0 → (st 0 8).toInt < (u 0 8).toInt)
def PWD (st : CT) (n : Nat) : Prop := st 0 12 = 0 ∧ st 0 10 = 1 ∧ (st 0 8).toInt - (st 0 9).toInt = n
def ISW (st : CT) (n : Nat) (f : Nat → Int32) : Prop := PWD st n ∧ ∀ j : Nat, j < n → st 4 ((st 0 9).toNatClampNeg + j) = f j &&& 255
set_option maxHeartbeats 4000000 in
set_option maxRecDepth 100000 in
theorem m_X10_see (l : Launch) (D : va_G) (k : Nat → ClassId) (a : Nat → Nat) (st : CT) (sl : CL) (p0 : Int32) (sz : Nat) (hB : MB st) (hp0 : Iv 0 1000 p0) : Met l yX10_see (.code yX10_see cX10_see 2 (some .int) :: TB) (rmk 1) (va_Pc [.ref (a 0), .int p0] (PW D k sz (MWS k a st sl))) (vp_Si (fun r => Iv (-1) 255 r ∧ (r = SE st p0 ∧ (¬ r = -1 → p0.toInt < (st 0 7).toInt)))) 0 0 (fun _ => False) := by
  refine Met.ofW (cc := cX10_see) (maxL := 2) (ret := (some .int)) (by decide) rfl ?_
  intro p e s m args below meth c s₁ B hml hv
  obtain ⟨rfl, hsz, hP, hK, hD0, hN⟩ := hv
  have hx := B.exec
  have hb := B.bytes
  have hr := B.returns
  have hT : ∀ w9 ∈ TB, w9.before ([.ref (a 0), .int p0] : List Value).toArray s = true := fun w9 h => atoms_spec (ws := .code yX10_see cX10_see 2 (some .int) :: TB) B.pre w9 (List.mem_cons_of_mem _ h)
  have hown : s.vm.findClass RX10 = some m.cls := findClass_of_methodNamed B.named
  have S : CallFix p m c cX10_see 2 s _ TB RX10 := ⟨hx, hb, hml, hown, hT⟩
  subst hsz
  have hl := lv_entry ([.ref (a 0), .int p0]) (n := 2) (Nat.le_of_ble_eq_true rfl)
  rw [lg_entry_eq]
  generalize (lg_sl ([.ref (a 0), .int p0]) ++ List.replicate (2 - (lg_sl ([.ref (a 0), .int p0])).length) Slot.unset).toArray = ls at hl ⊢
  have hl : lv_has ls 2 [(0, .ref (a 0)), (1, .int p0)] := hl
  refine nameQ (fun Q hQ => ?_)
  refine lv_iload_n hx hb dX10_see_0 rfl (lv_at hl 1 rfl) ?_
  refine lv_aload_n hx hb dX10_see_1 rfl (lv_at hl 0 rfl) ?_
  refine va_get (D := D) (ci := 10) (v := .int (st 0 7)) (C := RX10) (T := TX10) (N := 38) hx hb hT in_X10 hown hK hP 0 mw_0 rfl 7 (by decide) (hT _ t1269) (fun _ h9 => h9) rfl dX10_see_2 ?_
  have h1 : Iv 0 1000 (st 0 7) := (rm_0_7 hB)
  refine lv_icmp_ge (tgt := 21) hx hb dX10_see_5 (by decide) (fun c2 => ?_) (fun c2 => ?_)
  · skip
    have n3 : (st 0 7).toInt ≤ p0.toInt := (i_le c2)
    refine lv_iconst (v := (-1)) hx hb dX10_see_21 (by decide) ?_
    rw [hQ]
    exact W.iret (v := (-1)) hx hb hr (fun t ht hW => ⟨(-1), rfl, ⟨(iv_mono (c := (-1)) (d := 255) (iv_c (by decide) : Iv (-1) (-1) (-1)) (by decide) (by decide)), ⟨by unfold SE; rw [if_neg (by have y9 := n3; omega)], fun z9 => absurd rfl z9⟩⟩, ht⟩) (fun _ h9 => by cases h9) dX10_see_22
  · skip
    have n4 : p0.toInt < (st 0 7).toInt := (i_nle c2)
    have h5 : Iv 0 999 p0 := lt_l hp0 n4 h1 (by decide)
    have h6 : Iv 1 1000 (st 0 7) := lt_r hp0 n4 h1 (by decide)
    refine lv_aload_n hx hb dX10_see_8 rfl (lv_at hl 0 rfl) ?_
    refine va_get (D := D) (ci := 10) (v := .ref (a 4)) (C := RX10) (T := TX10) (N := 38) hx hb hT in_X10 hown hK hP 0 mw_0 rfl 4 (by decide) (hT _ t1266) (fun _ h9 => h9) rfl dX10_see_9 ?_
    refine lv_iload_n hx hb dX10_see_12 rfl (lv_at hl 1 rfl) ?_
    refine va_bald hx hb hK hP 4 1 mw_4 rfl (iv_in h5 (by decide) (by decide)) dX10_see_13 ?_
    refine lv_topi (fun z7 ez7 => ?_)
    refine lv_sipush (v := 255) hx hb dX10_see_14 (by decide) ?_
    refine lv_iand hx hb dX10_see_17 ?_
    refine lv_topi (fun z8 ez8 => ?_)
    have h9 : Iv 0 255 z8 := iv_andr ez8 (iv_mono (c := 0) (d := 255) (iv_c (by decide) : Iv 255 255 255) (by decide) (by decide))
    refine lv_goto (tgt := 22) hx hb dX10_see_18 (by decide) ?_
    rw [hQ]
    exact W.iret (v := z8) hx hb hr (fun t ht hW => ⟨z8, rfl, ⟨(iv_mono (c := (-1)) (d := 255) h9 (by decide) (by decide)), ⟨by unfold SE; rw [if_pos n4, ez8, ez7], fun _ => n4⟩⟩, ht⟩) (fun _ h9 => by cases h9) dX10_see_22
set_option maxHeartbeats 4000000 in
set_option maxRecDepth 100000 in
theorem m_X10_advance (l : Launch) (D : va_G) (k : Nat → ClassId) (a : Nat → Nat) (st : CT) (sl : CL) (sz : Nat) (hB : MB st)  : Met l yX10_advance (.code yX10_advance cX10_advance 2 none :: TB) (rmw 2 0 0) (va_Pc [.ref (a 0)] (PW D k sz (MWS k a st sl))) (QV D (S := CT) (fun u => MB u ∧ FR [0] st u ∧ u 0 0 = st 0 0 ∧ u 0 5 = st 0 5 ∧ u 0 7 = st 0 7 ∧ u 0 12 = st 0 12 ∧ u 0 13 = st 0 13 ∧ u 0 20 = st 0 20 ∧ u 0 21 = st 0 21 ∧ u 0 22 = st 0 22 ∧ u 0 26 = st 0 26 ∧ u 0 27 = st 0 27 ∧ u 0 29 = st 0 29 ∧ u 0 31 = st 0 31 ∧ u 0 33 = st 0 33 ∧ (AD st u)) (fun u => MWS k a u sl) (fun _ => []) (MWS k a st sl) sz) 0 0 (va_A (MWS k a st sl) sz) := by
  refine Met.ofW (cc := cX10_advance) (maxL := 2) (ret := none) (by decide) rfl ?_
  intro p e s m args below meth c s₁ B hml hv
  obtain ⟨rfl, hsz, hP, hK, hD0, hN⟩ := hv
  have hx := B.exec
  have hb := B.bytes
  have hr := B.returns
  have hT : ∀ w9 ∈ TB, w9.before ([.ref (a 0)] : List Value).toArray s = true := fun w9 h => atoms_spec (ws := .code yX10_advance cX10_advance 2 none :: TB) B.pre w9 (List.mem_cons_of_mem _ h)
  have hown : s.vm.findClass RX10 = some m.cls := findClass_of_methodNamed B.named
  have S : CallFix p m c cX10_advance 2 s _ TB RX10 := ⟨hx, hb, hml, hown, hT⟩
  subst hsz
  have hD := hD0.self (sz := s.heap.size)
  generalize hAe : va_A (MWS k a st sl) s.heap.size = A at hD ⊢
  have hA : ∀ q : Nat, s.heap.size ≤ q → A q := fun q h => by rw [← hAe]; exact Or.inr h
  have hS : va_S A s.heap s.heap [] := va_S.rf
  have hl := lv_entry ([.ref (a 0)]) (n := 2) (Nat.le_of_ble_eq_true rfl)
  rw [lg_entry_eq]
  generalize (lg_sl ([.ref (a 0)]) ++ List.replicate (2 - (lg_sl ([.ref (a 0)])).length) Slot.unset).toArray = ls at hl ⊢
  have hl : lv_has ls 2 [(0, .ref (a 0))] := hl
  refine nameQ (fun Q hQ => ?_)
  have lp0 : ∀ (n9_0 : Nat) (t0 : CT) (H9 : Heap) (locs9 : List Loc) (ls : Array Slot), ((st 0 8).toInt ≤ (t0 0 8).toInt) → MB t0 → FR [0] st t0 → t0 0 0 = st 0 0 → t0 0 5 = st 0 5 → t0 0 7 = st 0 7 → t0 0 9 = st 0 9 → t0 0 10 = st 0 10 → t0 0 11 = st 0 11 → t0 0 12 = st 0 12 → t0 0 13 = st 0 13 → t0 0 20 = st 0 20 → t0 0 21 = st 0 21 → t0 0 22 = st 0 22 → t0 0 26 = st 0 26 → t0 0 27 = st 0 27 → t0 0 29 = st 0 29 → t0 0 31 = st 0 31 → t0 0 33 = st 0 33 → va_P D vwCl (MWS k a t0 sl) H9 → va_D A (MWS k a t0 sl) → va_S A s.heap H9 locs9 → lv_has ls 2 [(0, .ref (a 0))] → ((1000 : Int) - (t0 0 8).toInt).toNat < n9_0 → W p l e (rmw 2 0 0) s m ([.ref (a 0)] : List Value).toArray below meth c H9 locs9 0 0 Q (F0 m 0 ls []) := by
    clear hl hP hD hS
    intro n9_0
    induction n9_0 with
    | zero =>
      intro  t0 H9 locs9 ls rel0_0 hBt0 gt0 qt0_0 qt0_1 qt0_2 qt0_3 qt0_4 qt0_5 qt0_6 qt0_7 qt0_8 qt0_9 qt0_10 qt0_11 qt0_12 qt0_13 qt0_14 qt0_15 hP hD hS hl hm0
      exact absurd hm0 (Nat.not_lt_zero _)
    | succ n9_0 ih0 =>
      intro  t0 H9 locs9 ls rel0_0 hBt0 gt0 qt0_0 qt0_1 qt0_2 qt0_3 qt0_4 qt0_5 qt0_6 qt0_7 qt0_8 qt0_9 qt0_10 qt0_11 qt0_12 qt0_13 qt0_14 qt0_15 hP hD hS hl hm0
      have hFt0 : FR [0] st t0 := fr_ca fr_rf gt0 (sub_1 (List.mem_of_getElem? (i := 0) rfl) sub_0)
      refine lv_aload_n hx hb dX10_advance_0 rfl (lv_at hl 0 rfl) ?_
      refine lv_aload_n hx hb dX10_advance_1 rfl (lv_at hl 0 rfl) ?_
      refine va_get (D := D) (ci := 10) (v := .int (t0 0 8)) (C := RX10) (T := TX10) (N := 38) hx hb hT in_X10 hown hK hP 0 mw_0 rfl 8 (by decide) (hT _ t1270) (fun _ h9 => h9) rfl dX10_advance_2 ?_
      have h20 : Iv 0 1000 (t0 0 8) := (rm_0_8 hBt0)
      refine ro_V (As := [.int (t0 0 8)]) (rest := []) S (m_X10_see l D k a t0 sl  (t0 0 8) _  hBt0 h20 ) lkX10_106 ok_X10_see ⟨rfl, rfl, Nat.le_of_ble_eq_true rfl, Nat.le_of_ble_eq_true rfl⟩ (pw_V (ci := 10) (q0 := 0) hK hN rfl mw_0 hP (hD.weaken (fun _ _ _ _ => trivial))) rfl hl.1 rfl (Nat.le_of_ble_eq_true rfl) ⟨Nat.zero_le _, Nat.zero_le _⟩ dX10_advance_5 (fun r21 er21 => ?_)
      have h22 : Iv (-1) 255 r21 := er21.1
      have k23 := er21.2
      refine lv_bipush (v := 32) hx hb dX10_advance_8 (by decide) ?_
      refine lv_icmp_eq (tgt := 26) hx hb dX10_advance_10 (by decide) (fun c24 => ?_) (fun c24 => ?_)
      · skip
        have h25 : Iv 32 32 r21 := eq_l c24 (iv_c (by decide) : Iv 32 32 32)
        have h26 : Iv 0 999 (t0 0 8) := ⟨(h20).1, by have y1 := k23.2 (ne_m1 h25 (by decide)); have y2 := ((eq_l qt0_2 (rm_0_7 hB))).2; omega⟩
        refine lv_aload_n hx hb dX10_advance_26 rfl (lv_at hl 0 rfl) ?_
        refine lv_dup hx hb dX10_advance_27 rfl ?_
        refine va_get (D := D) (ci := 10) (v := .int (t0 0 8)) (C := RX10) (T := TX10) (N := 38) hx hb hT in_X10 hown hK hP 0 mw_0 rfl 8 (by decide) (hT _ t1270) (fun _ h9 => h9) rfl dX10_advance_28 ?_
        refine lv_iconst (v := 1) hx hb dX10_advance_31 (by decide) ?_
        refine lv_iadd hx hb dX10_advance_32 ?_
        refine lv_topi (fun z27 ez27 => ?_)
        have h28 : Iv 1 1000 z27 := iv_add ez27 h26 (iv_c (by decide) : Iv 1 1 1) (by decide) (by decide) (by decide) (by decide)
        refine c_put (ci := 10) (C := RX10) (T := TX10) (N := 38) (j := 8) (v := z27) hx hb hT in_X10 tyX10 tyX10_ok nmX10 hown hK hP hD hS mw_0 rfl (by decide) (hT _ t1270) (by decide +kernel) (by decide +kernel) rfl rfl (Nat.le_of_ble_eq_true rfl) (ms_0 (upd (t0 0) 8 z27)) dX10_advance_33 (fun s29 H9 locs9 es29 hP9 hD9 hS9 => ?_)
        clear hP hD hS
        have hS := hS9
        have hP := hP9
        have hD := hD9
        clear hP9 hD9 hS9
        have hBs29 : MB s29 := by rw [es29]; exact mb_sw hBt0 (mi_1_8 (hBt0 0) (iv_mono (c := 0) (d := 1000) h28 (by decide) (by decide)))
        have hFs29 : FR [0] st s29 := fr_sw hFt0 (List.mem_of_getElem? (i := 0) rfl) es29
        refine lv_goto (tgt := 0) hx hb dX10_advance_36 (by decide) ?_
        exact ih0 s29 _ _ _ (by rw [(show s29 0 8 = z27 from (congrFun (sw_it es29) 8))]; have _c2 : (1 : Int32).toInt = 1 := rfl; have _ez27 := ti_add ez27 h26 (iv_c (by decide) : Iv 1 1 1) (by decide) (by decide); have y9 := rel0_0; omega) hBs29 (fr_sw gt0 (List.mem_of_getElem? (i := 0) rfl) es29) (Eq.trans (congrFun (sw_it es29) 0) qt0_0) (Eq.trans (congrFun (sw_it es29) 5) qt0_1) (Eq.trans (congrFun (sw_it es29) 7) qt0_2) (Eq.trans (congrFun (sw_it es29) 9) qt0_3) (Eq.trans (congrFun (sw_it es29) 10) qt0_4) (Eq.trans (congrFun (sw_it es29) 11) qt0_5) (Eq.trans (congrFun (sw_it es29) 12) qt0_6) (Eq.trans (congrFun (sw_it es29) 13) qt0_7) (Eq.trans (congrFun (sw_it es29) 20) qt0_8) (Eq.trans (congrFun (sw_it es29) 21) qt0_9) (Eq.trans (congrFun (sw_it es29) 22) qt0_10) (Eq.trans (congrFun (sw_it es29) 26) qt0_11) (Eq.trans (congrFun (sw_it es29) 27) qt0_12) (Eq.trans (congrFun (sw_it es29) 29) qt0_13) (Eq.trans (congrFun (sw_it es29) 31) qt0_14) (Eq.trans (congrFun (sw_it es29) 33) qt0_15) hP hD hS (lv_sub hl [0] rfl) (by rw [(show s29 0 8 = z27 from (congrFun (sw_it es29) 8))]; have _c2 : (1 : Int32).toInt = 1 := rfl; have _ez27 := ti_add ez27 h26 (iv_c (by decide) : Iv 1 1 1) (by decide) (by decide); obtain ⟨y1, y2⟩ := id (h26); omega)
      · skip
        refine lv_aload_n hx hb dX10_advance_13 rfl (lv_at hl 0 rfl) ?_
        refine lv_aload_n hx hb dX10_advance_14 rfl (lv_at hl 0 rfl) ?_
        refine va_get (D := D) (ci := 10) (v := .int (t0 0 8)) (C := RX10) (T := TX10) (N := 38) hx hb hT in_X10 hown hK hP 0 mw_0 rfl 8 (by decide) (hT _ t1270) (fun _ h9 => h9) rfl dX10_advance_15 ?_
        refine ro_V (As := [.int (t0 0 8)]) (rest := []) S (m_X10_see l D k a t0 sl  (t0 0 8) _  hBt0 h20 ) lkX10_106 ok_X10_see ⟨rfl, rfl, Nat.le_of_ble_eq_true rfl, Nat.le_of_ble_eq_true rfl⟩ (pw_V (ci := 10) (q0 := 0) hK hN rfl mw_0 hP (hD.weaken (fun _ _ _ _ => trivial))) rfl hl.1 rfl (Nat.le_of_ble_eq_true rfl) ⟨Nat.zero_le _, Nat.zero_le _⟩ dX10_advance_18 (fun r30 er30 => ?_)
        have h31 : Iv (-1) 255 r30 := er30.1
        have k32 := er30.2
        refine lv_bipush (v := 10) hx hb dX10_advance_21 (by decide) ?_
        refine lv_icmp_ne (tgt := 39) hx hb dX10_advance_23 (by decide) (fun c33 => ?_) (fun c33 => ?_)
        · skip
          refine lv_aload_n hx hb dX10_advance_39 rfl (lv_at hl 0 rfl) ?_
          refine lv_aload_n hx hb dX10_advance_40 rfl (lv_at hl 0 rfl) ?_
          refine va_get (D := D) (ci := 10) (v := .int (t0 0 8)) (C := RX10) (T := TX10) (N := 38) hx hb hT in_X10 hown hK hP 0 mw_0 rfl 8 (by decide) (hT _ t1270) (fun _ h9 => h9) rfl dX10_advance_41 ?_
          refine c_put (ci := 10) (C := RX10) (T := TX10) (N := 38) (j := 9) (v := (t0 0 8)) hx hb hT in_X10 tyX10 tyX10_ok nmX10 hown hK hP hD hS mw_0 rfl (by decide) (hT _ t1271) (by decide +kernel) (by decide +kernel) rfl rfl (Nat.le_of_ble_eq_true rfl) (ms_0 (upd (t0 0) 9 (t0 0 8))) dX10_advance_44 (fun s34 H9 locs9 es34 hP9 hD9 hS9 => ?_)
          clear hP hD hS
          have hS := hS9
          have hP := hP9
          have hD := hD9
          clear hP9 hD9 hS9
          have hBs34 : MB s34 := by rw [es34]; exact mb_sw hBt0 (mi_1_9 (hBt0 0) h20)
          have hFs34 : FR [0] st s34 := fr_sw hFt0 (List.mem_of_getElem? (i := 0) rfl) es34
          refine lv_aload_n hx hb dX10_advance_47 rfl (lv_at hl 0 rfl) ?_
          refine lv_aload_n hx hb dX10_advance_48 rfl (lv_at hl 0 rfl) ?_
          refine va_get (D := D) (ci := 10) (v := .int (s34 0 8)) (C := RX10) (T := TX10) (N := 38) hx hb hT in_X10 hown hK hP 0 mw_0 rfl 8 (by decide) (hT _ t1270) (fun _ h9 => h9) rfl dX10_advance_49 ?_
          refine k_top (y := (t0 0 8)) (congrFun (sw_it es34) 8) ?_
          refine ro_V (As := [.int (t0 0 8)]) (rest := []) S (m_X10_see l D k a s34 sl  (t0 0 8) _  hBs34 h20 ) lkX10_106 ok_X10_see ⟨rfl, rfl, Nat.le_of_ble_eq_true rfl, Nat.le_of_ble_eq_true rfl⟩ (pw_V (ci := 10) (q0 := 0) hK hN rfl mw_0 hP (hD.weaken (fun _ _ _ _ => trivial))) rfl hl.1 rfl (Nat.le_of_ble_eq_true rfl) ⟨Nat.zero_le _, Nat.zero_le _⟩ dX10_advance_52 (fun r35 er35 => ?_)
          have h36 : Iv (-1) 255 r35 := er35.1
          have k37 := er35.2
          refine lv_istore_n (lv' := [(1, .int r35), (0, .ref (a 0))]) hx hb dX10_advance_55 rfl hl (by decide) rfl (fun ls hl => ?_)
          refine lv_iload_n hx hb dX10_advance_56 rfl (lv_at hl 0 rfl) ?_
          refine lv_iconst (v := (-1)) hx hb dX10_advance_57 (by decide) ?_
          refine lv_icmp_ne (tgt := 69) hx hb dX10_advance_58 (by decide) (fun c38 => ?_) (fun c38 => ?_)
          · skip
            have h39 : Iv 0 255 r35 := ne_lo h36 (show ¬ r35 = (-1) from c38) (by decide) (by decide)
            have h40 : Iv 0 999 (t0 0 8) := ⟨(h20).1, by have y1 := k37.2 (ne_m1 h39 (by decide)); have y2 := ((eq_l (Eq.trans (congrFun (sw_it es34) 7) qt0_2) (rm_0_7 hB))).2; omega⟩
            refine lv_iload_n hx hb dX10_advance_69 rfl (lv_at hl 0 rfl) ?_
            refine lv_i2l hx hb dX10_advance_70 rfl ?_
            refine lv_ldc2 (v := 97) hx hb hown (hT _ t1413) dX10_advance_71 ?_
            refine lv_ldc2 (v := 122) hx hb hown (hT _ t1414) dX10_advance_74 ?_
            refine ro_S (As := [.long (r35.toInt64), .long 97, .long 122]) (rest := []) S (m_X10_in l D k a s34 sl  (r35.toInt64) 97 122 _  hBs34  ) lkX10_85 ok_X10_in ⟨rfl, rfl, Nat.le_of_ble_eq_true rfl, Nat.le_of_ble_eq_true rfl⟩ (pw_S hK hN hP (hD.weaken (fun _ _ _ _ => trivial))) rfl hl.1 rfl (Nat.le_of_ble_eq_true rfl) ⟨Nat.zero_le _, Nat.zero_le _⟩ dX10_advance_77 (fun r41 er41 => ?_)
            rcases er41 with ⟨rfl, g9⟩ | ⟨rfl, g9⟩
            · skip
              have g42 := g9
              have k43 := g42
              have h44 : (97 : Int) ≤ (r35.toInt64).toInt ∧ (r35.toInt64).toInt ≤ (122 : Int) := ⟨((show (97 : Int) ≤ (r35.toInt64).toInt ∧ (r35.toInt64).toInt ≤ (122 : Int) from ⟨Int.le_trans ((⟨by decide, by decide⟩ : (97 : Int) ≤ (97 : Int64).toInt ∧ (97 : Int64).toInt ≤ (97 : Int))).1 k43.1, Int.le_trans k43.2 ((⟨by decide, by decide⟩ : (122 : Int) ≤ (122 : Int64).toInt ∧ (122 : Int64).toInt ≤ (122 : Int))).2⟩)).1, ((show (97 : Int) ≤ (r35.toInt64).toInt ∧ (r35.toInt64).toInt ≤ (122 : Int) from ⟨Int.le_trans ((⟨by decide, by decide⟩ : (97 : Int) ≤ (97 : Int64).toInt ∧ (97 : Int64).toInt ≤ (97 : Int))).1 k43.1, Int.le_trans k43.2 ((⟨by decide, by decide⟩ : (122 : Int) ≤ (122 : Int64).toInt ∧ (122 : Int64).toInt ≤ (122 : Int))).2⟩)).2⟩
              have h45 : Iv 97 122 r35 := iv_lv h44
              refine lv_if_eq (tgt := 125) hx hb dX10_advance_80 (by decide) (fun c46 => ?_) (fun c46 => ?_)
              · first | exact absurd c46 (by decide) | exact absurd (by decide) c46
              have lp83 : ∀ (n9_83 : Nat) (t83 : CT) (H9 : Heap) (locs9 : List Loc) (ls : Array Slot), ((t0 0 8).toInt < (t83 0 8).toInt ∨ t83 0 8 = (t0 0 8)) → MB t83 → FR [0] s34 t83 → t83 0 0 = s34 0 0 → t83 0 5 = s34 0 5 → t83 0 7 = s34 0 7 → t83 0 9 = s34 0 9 → t83 0 10 = s34 0 10 → t83 0 11 = s34 0 11 → t83 0 12 = s34 0 12 → t83 0 13 = s34 0 13 → t83 0 20 = s34 0 20 → t83 0 21 = s34 0 21 → t83 0 22 = s34 0 22 → t83 0 26 = s34 0 26 → t83 0 27 = s34 0 27 → t83 0 29 = s34 0 29 → t83 0 31 = s34 0 31 → t83 0 33 = s34 0 33 → va_P D vwCl (MWS k a t83 sl) H9 → va_D A (MWS k a t83 sl) → va_S A s.heap H9 locs9 → lv_has ls 2 [(1, .int r35), (0, .ref (a 0))] → ((1000 : Int) - (t83 0 8).toInt).toNat < n9_83 → W p l e (rmw 2 0 0) s m ([.ref (a 0)] : List Value).toArray below meth c H9 locs9 0 0 Q (F0 m 83 ls []) := by
                clear hl hP hD hS
                intro n9_83
                induction n9_83 with
                | zero =>
                  intro  t83 H9 locs9 ls rel83_0 hBt83 gt83 qt83_0 qt83_1 qt83_2 qt83_3 qt83_4 qt83_5 qt83_6 qt83_7 qt83_8 qt83_9 qt83_10 qt83_11 qt83_12 qt83_13 qt83_14 qt83_15 hP hD hS hl hm83
                  exact absurd hm83 (Nat.not_lt_zero _)
                | succ n9_83 ih83 =>
                  intro  t83 H9 locs9 ls rel83_0 hBt83 gt83 qt83_0 qt83_1 qt83_2 qt83_3 qt83_4 qt83_5 qt83_6 qt83_7 qt83_8 qt83_9 qt83_10 qt83_11 qt83_12 qt83_13 qt83_14 qt83_15 hP hD hS hl hm83
                  have hFt83 : FR [0] st t83 := fr_ca hFs34 gt83 (sub_1 (List.mem_of_getElem? (i := 0) rfl) sub_0)
                  refine lv_aload_n hx hb dX10_advance_83 rfl (lv_at hl 1 rfl) ?_
                  refine lv_aload_n hx hb dX10_advance_84 rfl (lv_at hl 1 rfl) ?_
                  refine va_get (D := D) (ci := 10) (v := .int (t83 0 8)) (C := RX10) (T := TX10) (N := 38) hx hb hT in_X10 hown hK hP 0 mw_0 rfl 8 (by decide) (hT _ t1270) (fun _ h9 => h9) rfl dX10_advance_85 ?_
                  have h64 : Iv 0 1000 (t83 0 8) := (rm_0_8 hBt83)
                  refine ro_V (As := [.int (t83 0 8)]) (rest := []) S (m_X10_see l D k a t83 sl  (t83 0 8) _  hBt83 h64 ) lkX10_106 ok_X10_see ⟨rfl, rfl, Nat.le_of_ble_eq_true rfl, Nat.le_of_ble_eq_true rfl⟩ (pw_V (ci := 10) (q0 := 0) hK hN rfl mw_0 hP (hD.weaken (fun _ _ _ _ => trivial))) rfl hl.1 rfl (Nat.le_of_ble_eq_true rfl) ⟨Nat.zero_le _, Nat.zero_le _⟩ dX10_advance_88 (fun r65 er65 => ?_)
                  have h66 : Iv (-1) 255 r65 := er65.1
                  have k67 := er65.2
                  refine lv_i2l hx hb dX10_advance_91 rfl ?_
                  refine lv_ldc2 (v := 97) hx hb hown (hT _ t1413) dX10_advance_92 ?_
                  refine lv_ldc2 (v := 122) hx hb hown (hT _ t1414) dX10_advance_95 ?_
                  refine ro_S (As := [.long (r65.toInt64), .long 97, .long 122]) (rest := []) S (m_X10_in l D k a t83 sl  (r65.toInt64) 97 122 _  hBt83  ) lkX10_85 ok_X10_in ⟨rfl, rfl, Nat.le_of_ble_eq_true rfl, Nat.le_of_ble_eq_true rfl⟩ (pw_S hK hN hP (hD.weaken (fun _ _ _ _ => trivial))) rfl hl.1 rfl (Nat.le_of_ble_eq_true rfl) ⟨Nat.zero_le _, Nat.zero_le _⟩ dX10_advance_98 (fun r68 er68 => ?_)
                  rcases er68 with ⟨rfl, g9⟩ | ⟨rfl, g9⟩
                  · skip
                    have g69 := g9
                    have k70 := g69
                    have h71 : (97 : Int) ≤ (r65.toInt64).toInt ∧ (r65.toInt64).toInt ≤ (122 : Int) := ⟨((show (97 : Int) ≤ (r65.toInt64).toInt ∧ (r65.toInt64).toInt ≤ (122 : Int) from ⟨Int.le_trans ((⟨by decide, by decide⟩ : (97 : Int) ≤ (97 : Int64).toInt ∧ (97 : Int64).toInt ≤ (97 : Int))).1 k70.1, Int.le_trans k70.2 ((⟨by decide, by decide⟩ : (122 : Int) ≤ (122 : Int64).toInt ∧ (122 : Int64).toInt ≤ (122 : Int))).2⟩)).1, ((show (97 : Int) ≤ (r65.toInt64).toInt ∧ (r65.toInt64).toInt ≤ (122 : Int) from ⟨Int.le_trans ((⟨by decide, by decide⟩ : (97 : Int) ≤ (97 : Int64).toInt ∧ (97 : Int64).toInt ≤ (97 : Int))).1 k70.1, Int.le_trans k70.2 ((⟨by decide, by decide⟩ : (122 : Int) ≤ (122 : Int64).toInt ∧ (122 : Int64).toInt ≤ (122 : Int))).2⟩)).2⟩
                    have h72 : Iv 97 122 r65 := iv_lv h71
                    have h73 : Iv 0 999 (t83 0 8) := ⟨(h64).1, by have y1 := k67.2 (ne_m1 h72 (by decide)); have y2 := ((eq_l (Eq.trans qt83_2 (Eq.trans (congrFun (sw_it es34) 7) qt0_2)) (rm_0_7 hB))).2; omega⟩
                    refine lv_if_eq (tgt := 117) hx hb dX10_advance_101 (by decide) (fun c74 => ?_) (fun c74 => ?_)
                    · first | exact absurd c74 (by decide) | exact absurd (by decide) c74
                    refine lv_aload_n hx hb dX10_advance_104 rfl (lv_at hl 1 rfl) ?_
                    refine lv_dup hx hb dX10_advance_105 rfl ?_
                    refine va_get (D := D) (ci := 10) (v := .int (t83 0 8)) (C := RX10) (T := TX10) (N := 38) hx hb hT in_X10 hown hK hP 0 mw_0 rfl 8 (by decide) (hT _ t1270) (fun _ h9 => h9) rfl dX10_advance_106 ?_
                    refine lv_iconst (v := 1) hx hb dX10_advance_109 (by decide) ?_
                    refine lv_iadd hx hb dX10_advance_110 ?_
                    refine lv_topi (fun z75 ez75 => ?_)
                    have h76 : Iv 1 1000 z75 := iv_add ez75 h73 (iv_c (by decide) : Iv 1 1 1) (by decide) (by decide) (by decide) (by decide)
                    refine c_put (ci := 10) (C := RX10) (T := TX10) (N := 38) (j := 8) (v := z75) hx hb hT in_X10 tyX10 tyX10_ok nmX10 hown hK hP hD hS mw_0 rfl (by decide) (hT _ t1270) (by decide +kernel) (by decide +kernel) rfl rfl (Nat.le_of_ble_eq_true rfl) (ms_0 (upd (t83 0) 8 z75)) dX10_advance_111 (fun s77 H9 locs9 es77 hP9 hD9 hS9 => ?_)
                    clear hP hD hS
                    have hS := hS9
                    have hP := hP9
                    have hD := hD9
                    clear hP9 hD9 hS9
                    have hBs77 : MB s77 := by rw [es77]; exact mb_sw hBt83 (mi_1_8 (hBt83 0) (iv_mono (c := 0) (d := 1000) h76 (by decide) (by decide)))
                    have hFs77 : FR [0] st s77 := fr_sw hFt83 (List.mem_of_getElem? (i := 0) rfl) es77
                    refine lv_goto (tgt := 83) hx hb dX10_advance_114 (by decide) ?_
                    exact ih83 s77 _ _ _ (Or.inl (by rw [(show s77 0 8 = z75 from (congrFun (sw_it es77) 8))]; have _c2 : (1 : Int32).toInt = 1 := rfl; have _ez75 := ti_add ez75 h73 (iv_c (by decide) : Iv 1 1 1) (by decide) (by decide); have y9 : (t0 0 8).toInt ≤ (t83 0 8).toInt := rel83_0.elim Int.le_of_lt (fun q9 => by rw [q9]; exact Int.le_refl _); omega)) hBs77 (fr_sw gt83 (List.mem_of_getElem? (i := 0) rfl) es77) (Eq.trans (Eq.trans (congrFun (sw_it es77) 0) (Eq.trans qt83_0 (Eq.trans (congrFun (sw_it es34) 0) qt0_0))) (Eq.symm (Eq.trans (congrFun (sw_it es34) 0) qt0_0))) (Eq.trans (Eq.trans (congrFun (sw_it es77) 5) (Eq.trans qt83_1 (Eq.trans (congrFun (sw_it es34) 5) qt0_1))) (Eq.symm (Eq.trans (congrFun (sw_it es34) 5) qt0_1))) (Eq.trans (Eq.trans (congrFun (sw_it es77) 7) (Eq.trans qt83_2 (Eq.trans (congrFun (sw_it es34) 7) qt0_2))) (Eq.symm (Eq.trans (congrFun (sw_it es34) 7) qt0_2))) (Eq.trans (Eq.trans (congrFun (sw_it es77) 9) (Eq.trans qt83_3 (congrFun (sw_it es34) 9))) (Eq.symm (congrFun (sw_it es34) 9))) (Eq.trans (Eq.trans (congrFun (sw_it es77) 10) (Eq.trans qt83_4 (Eq.trans (congrFun (sw_it es34) 10) qt0_4))) (Eq.symm (Eq.trans (congrFun (sw_it es34) 10) qt0_4))) (Eq.trans (Eq.trans (congrFun (sw_it es77) 11) (Eq.trans qt83_5 (Eq.trans (congrFun (sw_it es34) 11) qt0_5))) (Eq.symm (Eq.trans (congrFun (sw_it es34) 11) qt0_5))) (Eq.trans (Eq.trans (congrFun (sw_it es77) 12) (Eq.trans qt83_6 (Eq.trans (congrFun (sw_it es34) 12) qt0_6))) (Eq.symm (Eq.trans (congrFun (sw_it es34) 12) qt0_6))) (Eq.trans (Eq.trans (congrFun (sw_it es77) 13) (Eq.trans qt83_7 (Eq.trans (congrFun (sw_it es34) 13) qt0_7))) (Eq.symm (Eq.trans (congrFun (sw_it es34) 13) qt0_7))) (Eq.trans (Eq.trans (congrFun (sw_it es77) 20) (Eq.trans qt83_8 (Eq.trans (congrFun (sw_it es34) 20) qt0_8))) (Eq.symm (Eq.trans (congrFun (sw_it es34) 20) qt0_8))) (Eq.trans (Eq.trans (congrFun (sw_it es77) 21) (Eq.trans qt83_9 (Eq.trans (congrFun (sw_it es34) 21) qt0_9))) (Eq.symm (Eq.trans (congrFun (sw_it es34) 21) qt0_9))) (Eq.trans (Eq.trans (congrFun (sw_it es77) 22) (Eq.trans qt83_10 (Eq.trans (congrFun (sw_it es34) 22) qt0_10))) (Eq.symm (Eq.trans (congrFun (sw_it es34) 22) qt0_10))) (Eq.trans (Eq.trans (congrFun (sw_it es77) 26) (Eq.trans qt83_11 (Eq.trans (congrFun (sw_it es34) 26) qt0_11))) (Eq.symm (Eq.trans (congrFun (sw_it es34) 26) qt0_11))) (Eq.trans (Eq.trans (congrFun (sw_it es77) 27) (Eq.trans qt83_12 (Eq.trans (congrFun (sw_it es34) 27) qt0_12))) (Eq.symm (Eq.trans (congrFun (sw_it es34) 27) qt0_12))) (Eq.trans (Eq.trans (congrFun (sw_it es77) 29) (Eq.trans qt83_13 (Eq.trans (congrFun (sw_it es34) 29) qt0_13))) (Eq.symm (Eq.trans (congrFun (sw_it es34) 29) qt0_13))) (Eq.trans (Eq.trans (congrFun (sw_it es77) 31) (Eq.trans qt83_14 (Eq.trans (congrFun (sw_it es34) 31) qt0_14))) (Eq.symm (Eq.trans (congrFun (sw_it es34) 31) qt0_14))) (Eq.trans (Eq.trans (congrFun (sw_it es77) 33) (Eq.trans qt83_15 (Eq.trans (congrFun (sw_it es34) 33) qt0_15))) (Eq.symm (Eq.trans (congrFun (sw_it es34) 33) qt0_15))) hP hD hS (lv_sub hl [0, 1] rfl) (by rw [(show s77 0 8 = z75 from (congrFun (sw_it es77) 8))]; have _c2 : (1 : Int32).toInt = 1 := rfl; have _ez75 := ti_add ez75 h73 (iv_c (by decide) : Iv 1 1 1) (by decide) (by decide); obtain ⟨y1, y2⟩ := id (h73); omega)
                  · skip
                    have g78 := g9
                    have k79 := g78
                    refine lv_if_eq (tgt := 117) hx hb dX10_advance_101 (by decide) (fun c80 => ?_) (fun c80 => ?_)
                    rotate_left
                    · first | exact absurd c80 (by decide) | exact absurd (by decide) c80
                    have k81 : (t0 0 8).toInt < (t83 0 8).toInt := (by
                      rcases rel83_0 with h9 | h9
                      · exact h9
                      · exfalso
                        have q9 : r65 = r35 := by rw [k67.1, h9, se_eq (Eq.trans (Eq.trans qt83_2 (Eq.trans (congrFun (sw_it es34) 7) qt0_2)) (Eq.symm (Eq.trans (congrFun (sw_it es34) 7) qt0_2))) (gt83 4 (nm_1 (by decide) nm_0))]; exact k37.1.symm
                        have k9 := k79
                        rw [l_ti, q9] at k9
                        have c1 : (97 : Int64).toInt = 97 := rfl
                        have c2 : (122 : Int64).toInt = 122 := rfl
                        rw [c1, c2] at k9
                        obtain ⟨y1, y2⟩ := id (h45)
                        omega)
                    refine lv_aload_n hx hb dX10_advance_117 rfl (lv_at hl 1 rfl) ?_
                    refine lv_iconst (v := 1) hx hb dX10_advance_118 (by decide) ?_
                    refine c_put (ci := 10) (C := RX10) (T := TX10) (N := 38) (j := 10) (v := 1) hx hb hT in_X10 tyX10 tyX10_ok nmX10 hown hK hP hD hS mw_0 rfl (by decide) (hT _ t1272) (by decide +kernel) (by decide +kernel) rfl rfl (Nat.le_of_ble_eq_true rfl) (ms_0 (upd (t83 0) 10 1)) dX10_advance_119 (fun s82 H9 locs9 es82 hP9 hD9 hS9 => ?_)
                    clear hP hD hS
                    have hS := hS9
                    have hP := hP9
                    have hD := hD9
                    clear hP9 hD9 hS9
                    have hBs82 : MB s82 := by rw [es82]; exact mb_sw hBt83 (mi_1_10 (hBt83 0))
                    have hFs82 : FR [0] st s82 := fr_sw hFt83 (List.mem_of_getElem? (i := 0) rfl) es82
                    refine lv_goto (tgt := 239) hx hb dX10_advance_122 (by decide) ?_
                    rw [hQ]
                    exact W.vret hx hb hr (fun t ht hW => ⟨⟨s82, rfl, ⟨hBs82, hFs82, (Eq.trans (congrFun (sw_it es82) 0) (Eq.trans qt83_0 (Eq.trans (congrFun (sw_it es34) 0) qt0_0))), (Eq.trans (congrFun (sw_it es82) 5) (Eq.trans qt83_1 (Eq.trans (congrFun (sw_it es34) 5) qt0_1))), (Eq.trans (congrFun (sw_it es82) 7) (Eq.trans qt83_2 (Eq.trans (congrFun (sw_it es34) 7) qt0_2))), (Eq.trans (congrFun (sw_it es82) 12) (Eq.trans qt83_6 (Eq.trans (congrFun (sw_it es34) 12) qt0_6))), (Eq.trans (congrFun (sw_it es82) 13) (Eq.trans qt83_7 (Eq.trans (congrFun (sw_it es34) 13) qt0_7))), (Eq.trans (congrFun (sw_it es82) 20) (Eq.trans qt83_8 (Eq.trans (congrFun (sw_it es34) 20) qt0_8))), (Eq.trans (congrFun (sw_it es82) 21) (Eq.trans qt83_9 (Eq.trans (congrFun (sw_it es34) 21) qt0_9))), (Eq.trans (congrFun (sw_it es82) 22) (Eq.trans qt83_10 (Eq.trans (congrFun (sw_it es34) 22) qt0_10))), (Eq.trans (congrFun (sw_it es82) 26) (Eq.trans qt83_11 (Eq.trans (congrFun (sw_it es34) 26) qt0_11))), (Eq.trans (congrFun (sw_it es82) 27) (Eq.trans qt83_12 (Eq.trans (congrFun (sw_it es34) 27) qt0_12))), (Eq.trans (congrFun (sw_it es82) 29) (Eq.trans qt83_13 (Eq.trans (congrFun (sw_it es34) 29) qt0_13))), (Eq.trans (congrFun (sw_it es82) 31) (Eq.trans qt83_14 (Eq.trans (congrFun (sw_it es34) 31) qt0_14))), (Eq.trans (congrFun (sw_it es82) 33) (Eq.trans qt83_15 (Eq.trans (congrFun (sw_it es34) 33) qt0_15))), ⟨by rw [(show s82 0 8 = (t83 0 8) from (congrFun (sw_it es82) 8))]; have y9 := rel0_0; have y8 := k81; omega, fun _ => by rw [(show s82 0 8 = (t83 0 8) from (congrFun (sw_it es82) 8))]; have y9 := rel0_0; have y8 := k81; omega⟩⟩, by rw [ht]; exact hP, va_K.moved hW.alike (hK.sub (tys' := []) [] rfl), by rw [hAe]; exact hD⟩, by rw [hAe]; exact hS.F ht⟩) hS.2.2 dX10_advance_239
              exact lp83 1002 s34 _ _ _ (Or.inr (congrFun (sw_it es34) 8)) hBs34 fr_rf rfl rfl rfl rfl rfl rfl rfl rfl rfl rfl rfl rfl rfl rfl rfl rfl hP hD hS (lv_sub hl [0, 1] rfl) (by have y9 := (eq_l (congrFun (sw_it es34) 8) (iv_mono (c := 0) (d := 1000) h40 (by decide) (by decide))); obtain ⟨y1, y2⟩ := y9; omega)
            · skip
              have g83 := g9
              have k84 := g83
              refine lv_if_eq (tgt := 125) hx hb dX10_advance_80 (by decide) (fun c85 => ?_) (fun c85 => ?_)
              rotate_left
              · first | exact absurd c85 (by decide) | exact absurd (by decide) c85
              refine lv_iload_n hx hb dX10_advance_125 rfl (lv_at hl 0 rfl) ?_
              refine lv_i2l hx hb dX10_advance_126 rfl ?_
              refine lv_ldc2 (v := 48) hx hb hown (hT _ t1415) dX10_advance_127 ?_
              refine lv_ldc2 (v := 57) hx hb hown (hT _ t1416) dX10_advance_130 ?_
              refine ro_S (As := [.long (r35.toInt64), .long 48, .long 57]) (rest := []) S (m_X10_in l D k a s34 sl  (r35.toInt64) 48 57 _  hBs34  ) lkX10_85 ok_X10_in ⟨rfl, rfl, Nat.le_of_ble_eq_true rfl, Nat.le_of_ble_eq_true rfl⟩ (pw_S hK hN hP (hD.weaken (fun _ _ _ _ => trivial))) rfl hl.1 rfl (Nat.le_of_ble_eq_true rfl) ⟨Nat.zero_le _, Nat.zero_le _⟩ dX10_advance_133 (fun r86 er86 => ?_)
              rcases er86 with ⟨rfl, g9⟩ | ⟨rfl, g9⟩
              · skip
                have g87 := g9
                have k88 := g87
                have h89 : (48 : Int) ≤ (r35.toInt64).toInt ∧ (r35.toInt64).toInt ≤ (57 : Int) := ⟨((show (48 : Int) ≤ (r35.toInt64).toInt ∧ (r35.toInt64).toInt ≤ (57 : Int) from ⟨Int.le_trans ((⟨by decide, by decide⟩ : (48 : Int) ≤ (48 : Int64).toInt ∧ (48 : Int64).toInt ≤ (48 : Int))).1 k88.1, Int.le_trans k88.2 ((⟨by decide, by decide⟩ : (57 : Int) ≤ (57 : Int64).toInt ∧ (57 : Int64).toInt ≤ (57 : Int))).2⟩)).1, ((show (48 : Int) ≤ (r35.toInt64).toInt ∧ (r35.toInt64).toInt ≤ (57 : Int) from ⟨Int.le_trans ((⟨by decide, by decide⟩ : (48 : Int) ≤ (48 : Int64).toInt ∧ (48 : Int64).toInt ≤ (48 : Int))).1 k88.1, Int.le_trans k88.2 ((⟨by decide, by decide⟩ : (57 : Int) ≤ (57 : Int64).toInt ∧ (57 : Int64).toInt ≤ (57 : Int))).2⟩)).2⟩
                have h90 : Iv 48 57 r35 := iv_lv h89
                refine lv_if_eq (tgt := 214) hx hb dX10_advance_136 (by decide) (fun c91 => ?_) (fun c91 => ?_)
                · first | exact absurd c91 (by decide) | exact absurd (by decide) c91
                refine lv_aload_n hx hb dX10_advance_139 rfl (lv_at hl 1 rfl) ?_
                refine lv_iconst (v := 0) hx hb dX10_advance_140 (by decide) ?_
                refine c_put (ci := 10) (C := RX10) (T := TX10) (N := 38) (j := 11) (v := 0) hx hb hT in_X10 tyX10 tyX10_ok nmX10 hown hK hP hD hS mw_0 rfl (by decide) (hT _ t1273) (by decide +kernel) (by decide +kernel) rfl rfl (Nat.le_of_ble_eq_true rfl) (ms_0 (upd (s34 0) 11 0)) dX10_advance_141 (fun s92 H9 locs9 es92 hP9 hD9 hS9 => ?_)
                clear hP hD hS
                have hS := hS9
                have hP := hP9
                have hD := hD9
                clear hP9 hD9 hS9
                have hBs92 : MB s92 := by rw [es92]; exact mb_sw hBs34 (mi_1_11 (hBs34 0) (iv_mono (c := 0) (d := 99999) (iv_c (by decide) : Iv 0 0 0) (by decide) (by decide)))
                have hFs92 : FR [0] st s92 := fr_sw hFs34 (List.mem_of_getElem? (i := 0) rfl) es92
                have lp144 : ∀ (n9_144 : Nat) (t144 : CT) (H9 : Heap) (locs9 : List Loc) (ls : Array Slot), ((t0 0 8).toInt < (t144 0 8).toInt ∨ t144 0 8 = (t0 0 8)) → MB t144 → FR [0] s92 t144 → t144 0 0 = s92 0 0 → t144 0 5 = s92 0 5 → t144 0 7 = s92 0 7 → t144 0 9 = s92 0 9 → t144 0 10 = s92 0 10 → t144 0 12 = s92 0 12 → t144 0 13 = s92 0 13 → t144 0 20 = s92 0 20 → t144 0 21 = s92 0 21 → t144 0 22 = s92 0 22 → t144 0 26 = s92 0 26 → t144 0 27 = s92 0 27 → t144 0 29 = s92 0 29 → t144 0 31 = s92 0 31 → t144 0 33 = s92 0 33 → va_P D vwCl (MWS k a t144 sl) H9 → va_D A (MWS k a t144 sl) → va_S A s.heap H9 locs9 → lv_has ls 2 [(1, .int r35), (0, .ref (a 0))] → ((1000 : Int) - (t144 0 8).toInt).toNat < n9_144 → W p l e (rmw 2 0 0) s m ([.ref (a 0)] : List Value).toArray below meth c H9 locs9 0 0 Q (F0 m 144 ls []) := by
                  clear hl hP hD hS
                  intro n9_144
                  induction n9_144 with
                  | zero =>
                    intro  t144 H9 locs9 ls rel144_0 hBt144 gt144 qt144_0 qt144_1 qt144_2 qt144_3 qt144_4 qt144_5 qt144_6 qt144_7 qt144_8 qt144_9 qt144_10 qt144_11 qt144_12 qt144_13 qt144_14 hP hD hS hl hm144
                    exact absurd hm144 (Nat.not_lt_zero _)
                  | succ n9_144 ih144 =>
                    intro  t144 H9 locs9 ls rel144_0 hBt144 gt144 qt144_0 qt144_1 qt144_2 qt144_3 qt144_4 qt144_5 qt144_6 qt144_7 qt144_8 qt144_9 qt144_10 qt144_11 qt144_12 qt144_13 qt144_14 hP hD hS hl hm144
                    have hFt144 : FR [0] st t144 := fr_ca hFs92 gt144 (sub_1 (List.mem_of_getElem? (i := 0) rfl) sub_0)
                    refine lv_aload_n hx hb dX10_advance_144 rfl (lv_at hl 1 rfl) ?_
                    refine lv_aload_n hx hb dX10_advance_145 rfl (lv_at hl 1 rfl) ?_
                    refine va_get (D := D) (ci := 10) (v := .int (t144 0 8)) (C := RX10) (T := TX10) (N := 38) hx hb hT in_X10 hown hK hP 0 mw_0 rfl 8 (by decide) (hT _ t1270) (fun _ h9 => h9) rfl dX10_advance_146 ?_
                    have h124 : Iv 0 1000 (t144 0 8) := (rm_0_8 hBt144)
                    refine ro_V (As := [.int (t144 0 8)]) (rest := []) S (m_X10_see l D k a t144 sl  (t144 0 8) _  hBt144 h124 ) lkX10_106 ok_X10_see ⟨rfl, rfl, Nat.le_of_ble_eq_true rfl, Nat.le_of_ble_eq_true rfl⟩ (pw_V (ci := 10) (q0 := 0) hK hN rfl mw_0 hP (hD.weaken (fun _ _ _ _ => trivial))) rfl hl.1 rfl (Nat.le_of_ble_eq_true rfl) ⟨Nat.zero_le _, Nat.zero_le _⟩ dX10_advance_149 (fun r125 er125 => ?_)
                    have h126 : Iv (-1) 255 r125 := er125.1
                    have k127 := er125.2
                    refine lv_i2l hx hb dX10_advance_152 rfl ?_
                    refine lv_ldc2 (v := 48) hx hb hown (hT _ t1415) dX10_advance_153 ?_
                    refine lv_ldc2 (v := 57) hx hb hown (hT _ t1416) dX10_advance_156 ?_
                    refine ro_S (As := [.long (r125.toInt64), .long 48, .long 57]) (rest := []) S (m_X10_in l D k a t144 sl  (r125.toInt64) 48 57 _  hBt144  ) lkX10_85 ok_X10_in ⟨rfl, rfl, Nat.le_of_ble_eq_true rfl, Nat.le_of_ble_eq_true rfl⟩ (pw_S hK hN hP (hD.weaken (fun _ _ _ _ => trivial))) rfl hl.1 rfl (Nat.le_of_ble_eq_true rfl) ⟨Nat.zero_le _, Nat.zero_le _⟩ dX10_advance_159 (fun r128 er128 => ?_)
                    rcases er128 with ⟨rfl, g9⟩ | ⟨rfl, g9⟩
                    · skip
                      have g129 := g9
                      have k130 := g129
                      have h131 : (48 : Int) ≤ (r125.toInt64).toInt ∧ (r125.toInt64).toInt ≤ (57 : Int) := ⟨((show (48 : Int) ≤ (r125.toInt64).toInt ∧ (r125.toInt64).toInt ≤ (57 : Int) from ⟨Int.le_trans ((⟨by decide, by decide⟩ : (48 : Int) ≤ (48 : Int64).toInt ∧ (48 : Int64).toInt ≤ (48 : Int))).1 k130.1, Int.le_trans k130.2 ((⟨by decide, by decide⟩ : (57 : Int) ≤ (57 : Int64).toInt ∧ (57 : Int64).toInt ≤ (57 : Int))).2⟩)).1, ((show (48 : Int) ≤ (r125.toInt64).toInt ∧ (r125.toInt64).toInt ≤ (57 : Int) from ⟨Int.le_trans ((⟨by decide, by decide⟩ : (48 : Int) ≤ (48 : Int64).toInt ∧ (48 : Int64).toInt ≤ (48 : Int))).1 k130.1, Int.le_trans k130.2 ((⟨by decide, by decide⟩ : (57 : Int) ≤ (57 : Int64).toInt ∧ (57 : Int64).toInt ≤ (57 : Int))).2⟩)).2⟩
                      have h132 : Iv 48 57 r125 := iv_lv h131
                      have h133 : Iv 0 999 (t144 0 8) := ⟨(h124).1, by have y1 := k127.2 (ne_m1 h132 (by decide)); have y2 := ((eq_l (Eq.trans qt144_2 (Eq.trans (congrFun (sw_it es92) 7) (Eq.trans (congrFun (sw_it es34) 7) qt0_2))) (rm_0_7 hB))).2; omega⟩
                      refine lv_if_eq (tgt := 206) hx hb dX10_advance_162 (by decide) (fun c134 => ?_) (fun c134 => ?_)
                      · first | exact absurd c134 (by decide) | exact absurd (by decide) c134
                      refine lv_aload_n hx hb dX10_advance_165 rfl (lv_at hl 1 rfl) ?_
                      refine lv_ldc (v := 99999) hx hb hown (hT _ t1417) dX10_advance_166 ?_
                      refine lv_bipush (v := 10) hx hb dX10_advance_168 (by decide) ?_
                      refine lv_aload_n hx hb dX10_advance_170 rfl (lv_at hl 1 rfl) ?_
                      refine va_get (D := D) (ci := 10) (v := .int (t144 0 11)) (C := RX10) (T := TX10) (N := 38) hx hb hT in_X10 hown hK hP 0 mw_0 rfl 11 (by decide) (hT _ t1273) (fun _ h9 => h9) rfl dX10_advance_171 ?_
                      have h135 : Iv 0 99999 (t144 0 11) := (rm_0_11 hBt144)
                      refine lv_imul hx hb dX10_advance_174 ?_
                      refine lv_topi (fun z136 ez136 => ?_)
                      have h137 : Iv 0 999990 z136 := iv_mull ez136 h135 (k := 10) (by decide) (by decide) (by decide) (by decide) (by decide) (by decide)
                      refine lv_aload_n hx hb dX10_advance_175 rfl (lv_at hl 1 rfl) ?_
                      refine lv_aload_n hx hb dX10_advance_176 rfl (lv_at hl 1 rfl) ?_
                      refine va_get (D := D) (ci := 10) (v := .int (t144 0 8)) (C := RX10) (T := TX10) (N := 38) hx hb hT in_X10 hown hK hP 0 mw_0 rfl 8 (by decide) (hT _ t1270) (fun _ h9 => h9) rfl dX10_advance_177 ?_
                      refine ro_V (As := [.int (t144 0 8)]) (rest := [.int z136, .int 99999, .ref (a 0)]) S (m_X10_see l D k a t144 sl  (t144 0 8) _  hBt144 (iv_mono (c := 0) (d := 1000) h133 (by decide) (by decide)) ) lkX10_106 ok_X10_see ⟨rfl, rfl, Nat.le_of_ble_eq_true rfl, Nat.le_of_ble_eq_true rfl⟩ (pw_V (ci := 10) (q0 := 0) hK hN rfl mw_0 hP (hD.weaken (fun _ _ _ _ => trivial))) rfl hl.1 rfl (Nat.le_of_ble_eq_true rfl) ⟨Nat.zero_le _, Nat.zero_le _⟩ dX10_advance_180 (fun r138 er138 => ?_)
                      have h139 : Iv (-1) 255 r138 := er138.1
                      have k140 := er138.2
                      have h141 : Iv 48 57 r138 := (by rw [show r138 = r125 from k140.1.trans k127.1.symm]; exact iv_mono h132 (by decide) (by decide))
                      refine lv_iadd hx hb dX10_advance_183 ?_
                      refine lv_topi (fun z142 ez142 => ?_)
                      have h143 : Iv 48 1000047 z142 := iv_add ez142 h137 h141 (by decide) (by decide) (by decide) (by decide)
                      refine lv_bipush (v := 48) hx hb dX10_advance_184 (by decide) ?_
                      refine lv_isub hx hb dX10_advance_186 ?_
                      refine lv_topi (fun z144 ez144 => ?_)
                      have h145 : Iv 0 999999 z144 := iv_sub ez144 h143 (iv_c (by decide) : Iv 48 48 48) (by decide) (by decide) (by decide) (by decide)
                      refine va_mmin hx hb (hml.trans hl.1.symm) hown (hT _ t1418) (hT _ t544) (hT _ t116) (hT _ t545) (Nat.le_of_ble_eq_true rfl) (Nat.le_of_ble_eq_true rfl) (Nat.zero_le _) (Nat.zero_le _) dX10_advance_187 ?_
                      refine lv_topi (fun z146 ez146 => ?_)
                      have h147 : Iv 0 99999 z146 := iv_min ez146 (iv_c (by decide) : Iv 99999 99999 99999) h145 (by decide) (by decide) (by decide)
                      refine c_put (ci := 10) (C := RX10) (T := TX10) (N := 38) (j := 11) (v := z146) hx hb hT in_X10 tyX10 tyX10_ok nmX10 hown hK hP hD hS mw_0 rfl (by decide) (hT _ t1273) (by decide +kernel) (by decide +kernel) rfl rfl (Nat.le_of_ble_eq_true rfl) (ms_0 (upd (t144 0) 11 z146)) dX10_advance_190 (fun s148 H9 locs9 es148 hP9 hD9 hS9 => ?_)
                      clear hP hD hS
                      have hS := hS9
                      have hP := hP9
                      have hD := hD9
                      clear hP9 hD9 hS9
                      have hBs148 : MB s148 := by rw [es148]; exact mb_sw hBt144 (mi_1_11 (hBt144 0) h147)
                      have hFs148 : FR [0] st s148 := fr_sw hFt144 (List.mem_of_getElem? (i := 0) rfl) es148
                      refine lv_aload_n hx hb dX10_advance_193 rfl (lv_at hl 1 rfl) ?_
                      refine lv_dup hx hb dX10_advance_194 rfl ?_
                      refine va_get (D := D) (ci := 10) (v := .int (s148 0 8)) (C := RX10) (T := TX10) (N := 38) hx hb hT in_X10 hown hK hP 0 mw_0 rfl 8 (by decide) (hT _ t1270) (fun _ h9 => h9) rfl dX10_advance_195 ?_
                      refine k_top (y := (t144 0 8)) (congrFun (sw_it es148) 8) ?_
                      refine lv_iconst (v := 1) hx hb dX10_advance_198 (by decide) ?_
                      refine lv_iadd hx hb dX10_advance_199 ?_
                      refine lv_topi (fun z149 ez149 => ?_)
                      have h150 : Iv 1 1000 z149 := iv_add ez149 h133 (iv_c (by decide) : Iv 1 1 1) (by decide) (by decide) (by decide) (by decide)
                      refine c_put (ci := 10) (C := RX10) (T := TX10) (N := 38) (j := 8) (v := z149) hx hb hT in_X10 tyX10 tyX10_ok nmX10 hown hK hP hD hS mw_0 rfl (by decide) (hT _ t1270) (by decide +kernel) (by decide +kernel) rfl rfl (Nat.le_of_ble_eq_true rfl) (ms_0 (upd (s148 0) 8 z149)) dX10_advance_200 (fun s151 H9 locs9 es151 hP9 hD9 hS9 => ?_)
                      clear hP hD hS
                      have hS := hS9
                      have hP := hP9
                      have hD := hD9
                      clear hP9 hD9 hS9
                      have hBs151 : MB s151 := by rw [es151]; exact mb_sw hBs148 (mi_1_8 (hBs148 0) (iv_mono (c := 0) (d := 1000) h150 (by decide) (by decide)))
                      have hFs151 : FR [0] st s151 := fr_sw hFs148 (List.mem_of_getElem? (i := 0) rfl) es151
                      refine lv_goto (tgt := 144) hx hb dX10_advance_203 (by decide) ?_
                      exact ih144 s151 _ _ _ (Or.inl (by rw [(show s151 0 8 = z149 from (congrFun (sw_it es151) 8))]; have _c2 : (1 : Int32).toInt = 1 := rfl; have _ez149 := ti_add ez149 h133 (iv_c (by decide) : Iv 1 1 1) (by decide) (by decide); have y9 : (t0 0 8).toInt ≤ (t144 0 8).toInt := rel144_0.elim Int.le_of_lt (fun q9 => by rw [q9]; exact Int.le_refl _); omega)) hBs151 (fr_sw (fr_sw gt144 (List.mem_of_getElem? (i := 0) rfl) es148) (List.mem_of_getElem? (i := 0) rfl) es151) (Eq.trans (Eq.trans (congrFun (sw_it es151) 0) (Eq.trans (congrFun (sw_it es148) 0) (Eq.trans qt144_0 (Eq.trans (congrFun (sw_it es92) 0) (Eq.trans (congrFun (sw_it es34) 0) qt0_0))))) (Eq.symm (Eq.trans (congrFun (sw_it es92) 0) (Eq.trans (congrFun (sw_it es34) 0) qt0_0)))) (Eq.trans (Eq.trans (congrFun (sw_it es151) 5) (Eq.trans (congrFun (sw_it es148) 5) (Eq.trans qt144_1 (Eq.trans (congrFun (sw_it es92) 5) (Eq.trans (congrFun (sw_it es34) 5) qt0_1))))) (Eq.symm (Eq.trans (congrFun (sw_it es92) 5) (Eq.trans (congrFun (sw_it es34) 5) qt0_1)))) (Eq.trans (Eq.trans (congrFun (sw_it es151) 7) (Eq.trans (congrFun (sw_it es148) 7) (Eq.trans qt144_2 (Eq.trans (congrFun (sw_it es92) 7) (Eq.trans (congrFun (sw_it es34) 7) qt0_2))))) (Eq.symm (Eq.trans (congrFun (sw_it es92) 7) (Eq.trans (congrFun (sw_it es34) 7) qt0_2)))) (Eq.trans (Eq.trans (congrFun (sw_it es151) 9) (Eq.trans (congrFun (sw_it es148) 9) (Eq.trans qt144_3 (Eq.trans (congrFun (sw_it es92) 9) (congrFun (sw_it es34) 9))))) (Eq.symm (Eq.trans (congrFun (sw_it es92) 9) (congrFun (sw_it es34) 9)))) (Eq.trans (Eq.trans (congrFun (sw_it es151) 10) (Eq.trans (congrFun (sw_it es148) 10) (Eq.trans qt144_4 (Eq.trans (congrFun (sw_it es92) 10) (Eq.trans (congrFun (sw_it es34) 10) qt0_4))))) (Eq.symm (Eq.trans (congrFun (sw_it es92) 10) (Eq.trans (congrFun (sw_it es34) 10) qt0_4)))) (Eq.trans (Eq.trans (congrFun (sw_it es151) 12) (Eq.trans (congrFun (sw_it es148) 12) (Eq.trans qt144_5 (Eq.trans (congrFun (sw_it es92) 12) (Eq.trans (congrFun (sw_it es34) 12) qt0_6))))) (Eq.symm (Eq.trans (congrFun (sw_it es92) 12) (Eq.trans (congrFun (sw_it es34) 12) qt0_6)))) (Eq.trans (Eq.trans (congrFun (sw_it es151) 13) (Eq.trans (congrFun (sw_it es148) 13) (Eq.trans qt144_6 (Eq.trans (congrFun (sw_it es92) 13) (Eq.trans (congrFun (sw_it es34) 13) qt0_7))))) (Eq.symm (Eq.trans (congrFun (sw_it es92) 13) (Eq.trans (congrFun (sw_it es34) 13) qt0_7)))) (Eq.trans (Eq.trans (congrFun (sw_it es151) 20) (Eq.trans (congrFun (sw_it es148) 20) (Eq.trans qt144_7 (Eq.trans (congrFun (sw_it es92) 20) (Eq.trans (congrFun (sw_it es34) 20) qt0_8))))) (Eq.symm (Eq.trans (congrFun (sw_it es92) 20) (Eq.trans (congrFun (sw_it es34) 20) qt0_8)))) (Eq.trans (Eq.trans (congrFun (sw_it es151) 21) (Eq.trans (congrFun (sw_it es148) 21) (Eq.trans qt144_8 (Eq.trans (congrFun (sw_it es92) 21) (Eq.trans (congrFun (sw_it es34) 21) qt0_9))))) (Eq.symm (Eq.trans (congrFun (sw_it es92) 21) (Eq.trans (congrFun (sw_it es34) 21) qt0_9)))) (Eq.trans (Eq.trans (congrFun (sw_it es151) 22) (Eq.trans (congrFun (sw_it es148) 22) (Eq.trans qt144_9 (Eq.trans (congrFun (sw_it es92) 22) (Eq.trans (congrFun (sw_it es34) 22) qt0_10))))) (Eq.symm (Eq.trans (congrFun (sw_it es92) 22) (Eq.trans (congrFun (sw_it es34) 22) qt0_10)))) (Eq.trans (Eq.trans (congrFun (sw_it es151) 26) (Eq.trans (congrFun (sw_it es148) 26) (Eq.trans qt144_10 (Eq.trans (congrFun (sw_it es92) 26) (Eq.trans (congrFun (sw_it es34) 26) qt0_11))))) (Eq.symm (Eq.trans (congrFun (sw_it es92) 26) (Eq.trans (congrFun (sw_it es34) 26) qt0_11)))) (Eq.trans (Eq.trans (congrFun (sw_it es151) 27) (Eq.trans (congrFun (sw_it es148) 27) (Eq.trans qt144_11 (Eq.trans (congrFun (sw_it es92) 27) (Eq.trans (congrFun (sw_it es34) 27) qt0_12))))) (Eq.symm (Eq.trans (congrFun (sw_it es92) 27) (Eq.trans (congrFun (sw_it es34) 27) qt0_12)))) (Eq.trans (Eq.trans (congrFun (sw_it es151) 29) (Eq.trans (congrFun (sw_it es148) 29) (Eq.trans qt144_12 (Eq.trans (congrFun (sw_it es92) 29) (Eq.trans (congrFun (sw_it es34) 29) qt0_13))))) (Eq.symm (Eq.trans (congrFun (sw_it es92) 29) (Eq.trans (congrFun (sw_it es34) 29) qt0_13)))) (Eq.trans (Eq.trans (congrFun (sw_it es151) 31) (Eq.trans (congrFun (sw_it es148) 31) (Eq.trans qt144_13 (Eq.trans (congrFun (sw_it es92) 31) (Eq.trans (congrFun (sw_it es34) 31) qt0_14))))) (Eq.symm (Eq.trans (congrFun (sw_it es92) 31) (Eq.trans (congrFun (sw_it es34) 31) qt0_14)))) (Eq.trans (Eq.trans (congrFun (sw_it es151) 33) (Eq.trans (congrFun (sw_it es148) 33) (Eq.trans qt144_14 (Eq.trans (congrFun (sw_it es92) 33) (Eq.trans (congrFun (sw_it es34) 33) qt0_15))))) (Eq.symm (Eq.trans (congrFun (sw_it es92) 33) (Eq.trans (congrFun (sw_it es34) 33) qt0_15)))) hP hD hS (lv_sub hl [0, 1] rfl) (by rw [(show s151 0 8 = z149 from (congrFun (sw_it es151) 8))]; have _c2 : (1 : Int32).toInt = 1 := rfl; have _ez149 := ti_add ez149 h133 (iv_c (by decide) : Iv 1 1 1) (by decide) (by decide); obtain ⟨y1, y2⟩ := id (h133); omega)
                    · skip
                      have g152 := g9
                      have k153 := g152
                      refine lv_if_eq (tgt := 206) hx hb dX10_advance_162 (by decide) (fun c154 => ?_) (fun c154 => ?_)
                      rotate_left
                      · first | exact absurd c154 (by decide) | exact absurd (by decide) c154
                      have k155 : (t0 0 8).toInt < (t144 0 8).toInt := (by
                        rcases rel144_0 with h9 | h9
                        · exact h9
                        · exfalso
                          have q9 : r125 = r35 := by rw [k127.1, h9, se_eq (Eq.trans (Eq.trans qt144_2 (Eq.trans (congrFun (sw_it es92) 7) (Eq.trans (congrFun (sw_it es34) 7) qt0_2))) (Eq.symm (Eq.trans (congrFun (sw_it es34) 7) qt0_2))) (Eq.trans (gt144 4 (nm_1 (by decide) nm_0)) (sw_at es92 (by decide)))]; exact k37.1.symm
                          have k9 := k153
                          rw [l_ti, q9] at k9
                          have c1 : (48 : Int64).toInt = 48 := rfl
                          have c2 : (57 : Int64).toInt = 57 := rfl
                          rw [c1, c2] at k9
                          obtain ⟨y1, y2⟩ := id (h90)
                          omega)
                      refine lv_aload_n hx hb dX10_advance_206 rfl (lv_at hl 1 rfl) ?_
                      refine lv_iconst (v := 2) hx hb dX10_advance_207 (by decide) ?_
                      refine c_put (ci := 10) (C := RX10) (T := TX10) (N := 38) (j := 10) (v := 2) hx hb hT in_X10 tyX10 tyX10_ok nmX10 hown hK hP hD hS mw_0 rfl (by decide) (hT _ t1272) (by decide +kernel) (by decide +kernel) rfl rfl (Nat.le_of_ble_eq_true rfl) (ms_0 (upd (t144 0) 10 2)) dX10_advance_208 (fun s156 H9 locs9 es156 hP9 hD9 hS9 => ?_)
                      clear hP hD hS
                      have hS := hS9
                      have hP := hP9
                      have hD := hD9
                      clear hP9 hD9 hS9
                      have hBs156 : MB s156 := by rw [es156]; exact mb_sw hBt144 (mi_1_10 (hBt144 0))
                      have hFs156 : FR [0] st s156 := fr_sw hFt144 (List.mem_of_getElem? (i := 0) rfl) es156
                      refine lv_goto (tgt := 239) hx hb dX10_advance_211 (by decide) ?_
                      rw [hQ]
                      exact W.vret hx hb hr (fun t ht hW => ⟨⟨s156, rfl, ⟨hBs156, hFs156, (Eq.trans (congrFun (sw_it es156) 0) (Eq.trans qt144_0 (Eq.trans (congrFun (sw_it es92) 0) (Eq.trans (congrFun (sw_it es34) 0) qt0_0)))), (Eq.trans (congrFun (sw_it es156) 5) (Eq.trans qt144_1 (Eq.trans (congrFun (sw_it es92) 5) (Eq.trans (congrFun (sw_it es34) 5) qt0_1)))), (Eq.trans (congrFun (sw_it es156) 7) (Eq.trans qt144_2 (Eq.trans (congrFun (sw_it es92) 7) (Eq.trans (congrFun (sw_it es34) 7) qt0_2)))), (Eq.trans (congrFun (sw_it es156) 12) (Eq.trans qt144_5 (Eq.trans (congrFun (sw_it es92) 12) (Eq.trans (congrFun (sw_it es34) 12) qt0_6)))), (Eq.trans (congrFun (sw_it es156) 13) (Eq.trans qt144_6 (Eq.trans (congrFun (sw_it es92) 13) (Eq.trans (congrFun (sw_it es34) 13) qt0_7)))), (Eq.trans (congrFun (sw_it es156) 20) (Eq.trans qt144_7 (Eq.trans (congrFun (sw_it es92) 20) (Eq.trans (congrFun (sw_it es34) 20) qt0_8)))), (Eq.trans (congrFun (sw_it es156) 21) (Eq.trans qt144_8 (Eq.trans (congrFun (sw_it es92) 21) (Eq.trans (congrFun (sw_it es34) 21) qt0_9)))), (Eq.trans (congrFun (sw_it es156) 22) (Eq.trans qt144_9 (Eq.trans (congrFun (sw_it es92) 22) (Eq.trans (congrFun (sw_it es34) 22) qt0_10)))), (Eq.trans (congrFun (sw_it es156) 26) (Eq.trans qt144_10 (Eq.trans (congrFun (sw_it es92) 26) (Eq.trans (congrFun (sw_it es34) 26) qt0_11)))), (Eq.trans (congrFun (sw_it es156) 27) (Eq.trans qt144_11 (Eq.trans (congrFun (sw_it es92) 27) (Eq.trans (congrFun (sw_it es34) 27) qt0_12)))), (Eq.trans (congrFun (sw_it es156) 29) (Eq.trans qt144_12 (Eq.trans (congrFun (sw_it es92) 29) (Eq.trans (congrFun (sw_it es34) 29) qt0_13)))), (Eq.trans (congrFun (sw_it es156) 31) (Eq.trans qt144_13 (Eq.trans (congrFun (sw_it es92) 31) (Eq.trans (congrFun (sw_it es34) 31) qt0_14)))), (Eq.trans (congrFun (sw_it es156) 33) (Eq.trans qt144_14 (Eq.trans (congrFun (sw_it es92) 33) (Eq.trans (congrFun (sw_it es34) 33) qt0_15)))), ⟨by rw [(show s156 0 8 = (t144 0 8) from (congrFun (sw_it es156) 8))]; have y9 := rel0_0; have y8 := k155; omega, fun _ => by rw [(show s156 0 8 = (t144 0 8) from (congrFun (sw_it es156) 8))]; have y9 := rel0_0; have y8 := k155; omega⟩⟩, by rw [ht]; exact hP, va_K.moved hW.alike (hK.sub (tys' := []) [] rfl), by rw [hAe]; exact hD⟩, by rw [hAe]; exact hS.F ht⟩) hS.2.2 dX10_advance_239
                exact lp144 1002 s92 _ _ _ (Or.inr (Eq.trans (congrFun (sw_it es92) 8) (congrFun (sw_it es34) 8))) hBs92 fr_rf rfl rfl rfl rfl rfl rfl rfl rfl rfl rfl rfl rfl rfl rfl rfl hP hD hS (lv_sub hl [0, 1] rfl) (by have y9 := (eq_l (Eq.trans (congrFun (sw_it es92) 8) (congrFun (sw_it es34) 8)) (iv_mono (c := 0) (d := 1000) h40 (by decide) (by decide))); obtain ⟨y1, y2⟩ := y9; omega)
              · skip
                have g157 := g9
                have k158 := g157
                refine lv_if_eq (tgt := 214) hx hb dX10_advance_136 (by decide) (fun c159 => ?_) (fun c159 => ?_)
                rotate_left
                · first | exact absurd c159 (by decide) | exact absurd (by decide) c159
                refine lv_aload_n hx hb dX10_advance_214 rfl (lv_at hl 1 rfl) ?_
                refine lv_iload_n hx hb dX10_advance_215 rfl (lv_at hl 0 rfl) ?_
                refine lv_bipush (v := 59) hx hb dX10_advance_216 (by decide) ?_
                refine lv_icmp_ne (tgt := 225) hx hb dX10_advance_218 (by decide) (fun c160 => ?_) (fun c160 => ?_)
                · skip
                  refine lv_iconst (v := 4) hx hb dX10_advance_225 (by decide) ?_
                  refine c_put (ci := 10) (C := RX10) (T := TX10) (N := 38) (j := 10) (v := 4) hx hb hT in_X10 tyX10 tyX10_ok nmX10 hown hK hP hD hS mw_0 rfl (by decide) (hT _ t1272) (by decide +kernel) (by decide +kernel) rfl rfl (Nat.le_of_ble_eq_true rfl) (ms_0 (upd (s34 0) 10 4)) dX10_advance_226 (fun s161 H9 locs9 es161 hP9 hD9 hS9 => ?_)
                  clear hP hD hS
                  have hS := hS9
                  have hP := hP9
                  have hD := hD9
                  clear hP9 hD9 hS9
                  have hBs161 : MB s161 := by rw [es161]; exact mb_sw hBs34 (mi_1_10 (hBs34 0))
                  have hFs161 : FR [0] st s161 := fr_sw hFs34 (List.mem_of_getElem? (i := 0) rfl) es161
                  refine lv_aload_n hx hb dX10_advance_229 rfl (lv_at hl 1 rfl) ?_
                  refine lv_dup hx hb dX10_advance_230 rfl ?_
                  refine va_get (D := D) (ci := 10) (v := .int (s161 0 8)) (C := RX10) (T := TX10) (N := 38) hx hb hT in_X10 hown hK hP 0 mw_0 rfl 8 (by decide) (hT _ t1270) (fun _ h9 => h9) rfl dX10_advance_231 ?_
                  refine k_top (y := (t0 0 8)) (Eq.trans (congrFun (sw_it es161) 8) (congrFun (sw_it es34) 8)) ?_
                  refine lv_iconst (v := 1) hx hb dX10_advance_234 (by decide) ?_
                  refine lv_iadd hx hb dX10_advance_235 ?_
                  refine lv_topi (fun z162 ez162 => ?_)
                  have h163 : Iv 1 1000 z162 := iv_add ez162 h40 (iv_c (by decide) : Iv 1 1 1) (by decide) (by decide) (by decide) (by decide)
                  refine c_put (ci := 10) (C := RX10) (T := TX10) (N := 38) (j := 8) (v := z162) hx hb hT in_X10 tyX10 tyX10_ok nmX10 hown hK hP hD hS mw_0 rfl (by decide) (hT _ t1270) (by decide +kernel) (by decide +kernel) rfl rfl (Nat.le_of_ble_eq_true rfl) (ms_0 (upd (s161 0) 8 z162)) dX10_advance_236 (fun s164 H9 locs9 es164 hP9 hD9 hS9 => ?_)
                  clear hP hD hS
                  have hS := hS9
                  have hP := hP9
                  have hD := hD9
                  clear hP9 hD9 hS9
                  have hBs164 : MB s164 := by rw [es164]; exact mb_sw hBs161 (mi_1_8 (hBs161 0) (iv_mono (c := 0) (d := 1000) h163 (by decide) (by decide)))
                  have hFs164 : FR [0] st s164 := fr_sw hFs161 (List.mem_of_getElem? (i := 0) rfl) es164
                  rw [hQ]
                  exact W.vret hx hb hr (fun t ht hW => ⟨⟨s164, rfl, ⟨hBs164, hFs164, (Eq.trans (congrFun (sw_it es164) 0) (Eq.trans (congrFun (sw_it es161) 0) (Eq.trans (congrFun (sw_it es34) 0) qt0_0))), (Eq.trans (congrFun (sw_it es164) 5) (Eq.trans (congrFun (sw_it es161) 5) (Eq.trans (congrFun (sw_it es34) 5) qt0_1))), (Eq.trans (congrFun (sw_it es164) 7) (Eq.trans (congrFun (sw_it es161) 7) (Eq.trans (congrFun (sw_it es34) 7) qt0_2))), (Eq.trans (congrFun (sw_it es164) 12) (Eq.trans (congrFun (sw_it es161) 12) (Eq.trans (congrFun (sw_it es34) 12) qt0_6))), (Eq.trans (congrFun (sw_it es164) 13) (Eq.trans (congrFun (sw_it es161) 13) (Eq.trans (congrFun (sw_it es34) 13) qt0_7))), (Eq.trans (congrFun (sw_it es164) 20) (Eq.trans (congrFun (sw_it es161) 20) (Eq.trans (congrFun (sw_it es34) 20) qt0_8))), (Eq.trans (congrFun (sw_it es164) 21) (Eq.trans (congrFun (sw_it es161) 21) (Eq.trans (congrFun (sw_it es34) 21) qt0_9))), (Eq.trans (congrFun (sw_it es164) 22) (Eq.trans (congrFun (sw_it es161) 22) (Eq.trans (congrFun (sw_it es34) 22) qt0_10))), (Eq.trans (congrFun (sw_it es164) 26) (Eq.trans (congrFun (sw_it es161) 26) (Eq.trans (congrFun (sw_it es34) 26) qt0_11))), (Eq.trans (congrFun (sw_it es164) 27) (Eq.trans (congrFun (sw_it es161) 27) (Eq.trans (congrFun (sw_it es34) 27) qt0_12))), (Eq.trans (congrFun (sw_it es164) 29) (Eq.trans (congrFun (sw_it es161) 29) (Eq.trans (congrFun (sw_it es34) 29) qt0_13))), (Eq.trans (congrFun (sw_it es164) 31) (Eq.trans (congrFun (sw_it es161) 31) (Eq.trans (congrFun (sw_it es34) 31) qt0_14))), (Eq.trans (congrFun (sw_it es164) 33) (Eq.trans (congrFun (sw_it es161) 33) (Eq.trans (congrFun (sw_it es34) 33) qt0_15))), ⟨by rw [(show s164 0 8 = z162 from (congrFun (sw_it es164) 8))]; have _c2 : (1 : Int32).toInt = 1 := rfl; have _ez162 := ti_add ez162 h40 (iv_c (by decide) : Iv 1 1 1) (by decide) (by decide); have y9 := rel0_0; omega, fun _ => by rw [(show s164 0 8 = z162 from (congrFun (sw_it es164) 8))]; have _c2 : (1 : Int32).toInt = 1 := rfl; have _ez162 := ti_add ez162 h40 (iv_c (by decide) : Iv 1 1 1) (by decide) (by decide); have y9 := rel0_0; omega⟩⟩, by rw [ht]; exact hP, va_K.moved hW.alike (hK.sub (tys' := []) [] rfl), by rw [hAe]; exact hD⟩, by rw [hAe]; exact hS.F ht⟩) hS.2.2 dX10_advance_239
                · skip
                  have h165 : Iv 59 59 r35 := eq_l c160 (iv_c (by decide) : Iv 59 59 59)
                  refine lv_iconst (v := 3) hx hb dX10_advance_221 (by decide) ?_
                  refine lv_goto (tgt := 226) hx hb dX10_advance_222 (by decide) ?_
                  refine c_put (ci := 10) (C := RX10) (T := TX10) (N := 38) (j := 10) (v := 3) hx hb hT in_X10 tyX10 tyX10_ok nmX10 hown hK hP hD hS mw_0 rfl (by decide) (hT _ t1272) (by decide +kernel) (by decide +kernel) rfl rfl (Nat.le_of_ble_eq_true rfl) (ms_0 (upd (s34 0) 10 3)) dX10_advance_226 (fun s166 H9 locs9 es166 hP9 hD9 hS9 => ?_)
                  clear hP hD hS
                  have hS := hS9
                  have hP := hP9
                  have hD := hD9
                  clear hP9 hD9 hS9
                  have hBs166 : MB s166 := by rw [es166]; exact mb_sw hBs34 (mi_1_10 (hBs34 0))
                  have hFs166 : FR [0] st s166 := fr_sw hFs34 (List.mem_of_getElem? (i := 0) rfl) es166
                  refine lv_aload_n hx hb dX10_advance_229 rfl (lv_at hl 1 rfl) ?_
                  refine lv_dup hx hb dX10_advance_230 rfl ?_
                  refine va_get (D := D) (ci := 10) (v := .int (s166 0 8)) (C := RX10) (T := TX10) (N := 38) hx hb hT in_X10 hown hK hP 0 mw_0 rfl 8 (by decide) (hT _ t1270) (fun _ h9 => h9) rfl dX10_advance_231 ?_
                  refine k_top (y := (t0 0 8)) (Eq.trans (congrFun (sw_it es166) 8) (congrFun (sw_it es34) 8)) ?_
                  refine lv_iconst (v := 1) hx hb dX10_advance_234 (by decide) ?_
                  refine lv_iadd hx hb dX10_advance_235 ?_
                  refine lv_topi (fun z167 ez167 => ?_)
                  have h168 : Iv 1 1000 z167 := iv_add ez167 h40 (iv_c (by decide) : Iv 1 1 1) (by decide) (by decide) (by decide) (by decide)
                  refine c_put (ci := 10) (C := RX10) (T := TX10) (N := 38) (j := 8) (v := z167) hx hb hT in_X10 tyX10 tyX10_ok nmX10 hown hK hP hD hS mw_0 rfl (by decide) (hT _ t1270) (by decide +kernel) (by decide +kernel) rfl rfl (Nat.le_of_ble_eq_true rfl) (ms_0 (upd (s166 0) 8 z167)) dX10_advance_236 (fun s169 H9 locs9 es169 hP9 hD9 hS9 => ?_)
                  clear hP hD hS
                  have hS := hS9
                  have hP := hP9
                  have hD := hD9
                  clear hP9 hD9 hS9
                  have hBs169 : MB s169 := by rw [es169]; exact mb_sw hBs166 (mi_1_8 (hBs166 0) (iv_mono (c := 0) (d := 1000) h168 (by decide) (by decide)))
                  have hFs169 : FR [0] st s169 := fr_sw hFs166 (List.mem_of_getElem? (i := 0) rfl) es169
                  rw [hQ]
                  exact W.vret hx hb hr (fun t ht hW => ⟨⟨s169, rfl, ⟨hBs169, hFs169, (Eq.trans (congrFun (sw_it es169) 0) (Eq.trans (congrFun (sw_it es166) 0) (Eq.trans (congrFun (sw_it es34) 0) qt0_0))), (Eq.trans (congrFun (sw_it es169) 5) (Eq.trans (congrFun (sw_it es166) 5) (Eq.trans (congrFun (sw_it es34) 5) qt0_1))), (Eq.trans (congrFun (sw_it es169) 7) (Eq.trans (congrFun (sw_it es166) 7) (Eq.trans (congrFun (sw_it es34) 7) qt0_2))), (Eq.trans (congrFun (sw_it es169) 12) (Eq.trans (congrFun (sw_it es166) 12) (Eq.trans (congrFun (sw_it es34) 12) qt0_6))), (Eq.trans (congrFun (sw_it es169) 13) (Eq.trans (congrFun (sw_it es166) 13) (Eq.trans (congrFun (sw_it es34) 13) qt0_7))), (Eq.trans (congrFun (sw_it es169) 20) (Eq.trans (congrFun (sw_it es166) 20) (Eq.trans (congrFun (sw_it es34) 20) qt0_8))), (Eq.trans (congrFun (sw_it es169) 21) (Eq.trans (congrFun (sw_it es166) 21) (Eq.trans (congrFun (sw_it es34) 21) qt0_9))), (Eq.trans (congrFun (sw_it es169) 22) (Eq.trans (congrFun (sw_it es166) 22) (Eq.trans (congrFun (sw_it es34) 22) qt0_10))), (Eq.trans (congrFun (sw_it es169) 26) (Eq.trans (congrFun (sw_it es166) 26) (Eq.trans (congrFun (sw_it es34) 26) qt0_11))), (Eq.trans (congrFun (sw_it es169) 27) (Eq.trans (congrFun (sw_it es166) 27) (Eq.trans (congrFun (sw_it es34) 27) qt0_12))), (Eq.trans (congrFun (sw_it es169) 29) (Eq.trans (congrFun (sw_it es166) 29) (Eq.trans (congrFun (sw_it es34) 29) qt0_13))), (Eq.trans (congrFun (sw_it es169) 31) (Eq.trans (congrFun (sw_it es166) 31) (Eq.trans (congrFun (sw_it es34) 31) qt0_14))), (Eq.trans (congrFun (sw_it es169) 33) (Eq.trans (congrFun (sw_it es166) 33) (Eq.trans (congrFun (sw_it es34) 33) qt0_15))), ⟨by rw [(show s169 0 8 = z167 from (congrFun (sw_it es169) 8))]; have _c2 : (1 : Int32).toInt = 1 := rfl; have _ez167 := ti_add ez167 h40 (iv_c (by decide) : Iv 1 1 1) (by decide) (by decide); have y9 := rel0_0; omega, fun _ => by rw [(show s169 0 8 = z167 from (congrFun (sw_it es169) 8))]; have _c2 : (1 : Int32).toInt = 1 := rfl; have _ez167 := ti_add ez167 h40 (iv_c (by decide) : Iv 1 1 1) (by decide) (by decide); have y9 := rel0_0; omega⟩⟩, by rw [ht]; exact hP, va_K.moved hW.alike (hK.sub (tys' := []) [] rfl), by rw [hAe]; exact hD⟩, by rw [hAe]; exact hS.F ht⟩) hS.2.2 dX10_advance_239
          · skip
            have h170 : Iv (-1) (-1) r35 := eq_l c38 (iv_c (by decide) : Iv (-1) (-1) (-1))
            refine lv_aload_n hx hb dX10_advance_61 rfl (lv_at hl 1 rfl) ?_
            refine lv_iconst (v := 0) hx hb dX10_advance_62 (by decide) ?_
            refine c_put (ci := 10) (C := RX10) (T := TX10) (N := 38) (j := 10) (v := 0) hx hb hT in_X10 tyX10 tyX10_ok nmX10 hown hK hP hD hS mw_0 rfl (by decide) (hT _ t1272) (by decide +kernel) (by decide +kernel) rfl rfl (Nat.le_of_ble_eq_true rfl) (ms_0 (upd (s34 0) 10 0)) dX10_advance_63 (fun s171 H9 locs9 es171 hP9 hD9 hS9 => ?_)
            clear hP hD hS
            have hS := hS9
            have hP := hP9
            have hD := hD9
            clear hP9 hD9 hS9
            have hBs171 : MB s171 := by rw [es171]; exact mb_sw hBs34 (mi_1_10 (hBs34 0))
            have hFs171 : FR [0] st s171 := fr_sw hFs34 (List.mem_of_getElem? (i := 0) rfl) es171
            refine lv_goto (tgt := 239) hx hb dX10_advance_66 (by decide) ?_
            rw [hQ]
            exact W.vret hx hb hr (fun t ht hW => ⟨⟨s171, rfl, ⟨hBs171, hFs171, (Eq.trans (congrFun (sw_it es171) 0) (Eq.trans (congrFun (sw_it es34) 0) qt0_0)), (Eq.trans (congrFun (sw_it es171) 5) (Eq.trans (congrFun (sw_it es34) 5) qt0_1)), (Eq.trans (congrFun (sw_it es171) 7) (Eq.trans (congrFun (sw_it es34) 7) qt0_2)), (Eq.trans (congrFun (sw_it es171) 12) (Eq.trans (congrFun (sw_it es34) 12) qt0_6)), (Eq.trans (congrFun (sw_it es171) 13) (Eq.trans (congrFun (sw_it es34) 13) qt0_7)), (Eq.trans (congrFun (sw_it es171) 20) (Eq.trans (congrFun (sw_it es34) 20) qt0_8)), (Eq.trans (congrFun (sw_it es171) 21) (Eq.trans (congrFun (sw_it es34) 21) qt0_9)), (Eq.trans (congrFun (sw_it es171) 22) (Eq.trans (congrFun (sw_it es34) 22) qt0_10)), (Eq.trans (congrFun (sw_it es171) 26) (Eq.trans (congrFun (sw_it es34) 26) qt0_11)), (Eq.trans (congrFun (sw_it es171) 27) (Eq.trans (congrFun (sw_it es34) 27) qt0_12)), (Eq.trans (congrFun (sw_it es171) 29) (Eq.trans (congrFun (sw_it es34) 29) qt0_13)), (Eq.trans (congrFun (sw_it es171) 31) (Eq.trans (congrFun (sw_it es34) 31) qt0_14)), (Eq.trans (congrFun (sw_it es171) 33) (Eq.trans (congrFun (sw_it es34) 33) qt0_15)), ⟨by rw [(show s171 0 8 = (t0 0 8) from (Eq.trans (congrFun (sw_it es171) 8) (congrFun (sw_it es34) 8)))]; exact rel0_0, fun z9 => absurd (congrFun (sw_it es171) 10) z9⟩⟩, by rw [ht]; exact hP, va_K.moved hW.alike (hK.sub (tys' := []) [] rfl), by rw [hAe]; exact hD⟩, by rw [hAe]; exact hS.F ht⟩) hS.2.2 dX10_advance_239
        · skip
          have h172 : Iv 10 10 r30 := eq_l c33 (iv_c (by decide) : Iv 10 10 10)
          have h173 : Iv 0 999 (t0 0 8) := ⟨(h20).1, by have y1 := k32.2 (ne_m1 h172 (by decide)); have y2 := ((eq_l qt0_2 (rm_0_7 hB))).2; omega⟩
          refine lv_aload_n hx hb dX10_advance_26 rfl (lv_at hl 0 rfl) ?_
          refine lv_dup hx hb dX10_advance_27 rfl ?_
          refine va_get (D := D) (ci := 10) (v := .int (t0 0 8)) (C := RX10) (T := TX10) (N := 38) hx hb hT in_X10 hown hK hP 0 mw_0 rfl 8 (by decide) (hT _ t1270) (fun _ h9 => h9) rfl dX10_advance_28 ?_
          refine lv_iconst (v := 1) hx hb dX10_advance_31 (by decide) ?_
          refine lv_iadd hx hb dX10_advance_32 ?_
          refine lv_topi (fun z174 ez174 => ?_)
          have h175 : Iv 1 1000 z174 := iv_add ez174 h173 (iv_c (by decide) : Iv 1 1 1) (by decide) (by decide) (by decide) (by decide)
          refine c_put (ci := 10) (C := RX10) (T := TX10) (N := 38) (j := 8) (v := z174) hx hb hT in_X10 tyX10 tyX10_ok nmX10 hown hK hP hD hS mw_0 rfl (by decide) (hT _ t1270) (by decide +kernel) (by decide +kernel) rfl rfl (Nat.le_of_ble_eq_true rfl) (ms_0 (upd (t0 0) 8 z174)) dX10_advance_33 (fun s176 H9 locs9 es176 hP9 hD9 hS9 => ?_)
          clear hP hD hS
          have hS := hS9
          have hP := hP9
          have hD := hD9
          clear hP9 hD9 hS9
          have hBs176 : MB s176 := by rw [es176]; exact mb_sw hBt0 (mi_1_8 (hBt0 0) (iv_mono (c := 0) (d := 1000) h175 (by decide) (by decide)))
          have hFs176 : FR [0] st s176 := fr_sw hFt0 (List.mem_of_getElem? (i := 0) rfl) es176
          refine lv_goto (tgt := 0) hx hb dX10_advance_36 (by decide) ?_
          exact ih0 s176 _ _ _ (by rw [(show s176 0 8 = z174 from (congrFun (sw_it es176) 8))]; have _c2 : (1 : Int32).toInt = 1 := rfl; have _ez174 := ti_add ez174 h173 (iv_c (by decide) : Iv 1 1 1) (by decide) (by decide); have y9 := rel0_0; omega) hBs176 (fr_sw gt0 (List.mem_of_getElem? (i := 0) rfl) es176) (Eq.trans (congrFun (sw_it es176) 0) qt0_0) (Eq.trans (congrFun (sw_it es176) 5) qt0_1) (Eq.trans (congrFun (sw_it es176) 7) qt0_2) (Eq.trans (congrFun (sw_it es176) 9) qt0_3) (Eq.trans (congrFun (sw_it es176) 10) qt0_4) (Eq.trans (congrFun (sw_it es176) 11) qt0_5) (Eq.trans (congrFun (sw_it es176) 12) qt0_6) (Eq.trans (congrFun (sw_it es176) 13) qt0_7) (Eq.trans (congrFun (sw_it es176) 20) qt0_8) (Eq.trans (congrFun (sw_it es176) 21) qt0_9) (Eq.trans (congrFun (sw_it es176) 22) qt0_10) (Eq.trans (congrFun (sw_it es176) 26) qt0_11) (Eq.trans (congrFun (sw_it es176) 27) qt0_12) (Eq.trans (congrFun (sw_it es176) 29) qt0_13) (Eq.trans (congrFun (sw_it es176) 31) qt0_14) (Eq.trans (congrFun (sw_it es176) 33) qt0_15) hP hD hS (lv_sub hl [0] rfl) (by rw [(show s176 0 8 = z174 from (congrFun (sw_it es176) 8))]; have _c2 : (1 : Int32).toInt = 1 := rfl; have _ez174 := ti_add ez174 h173 (iv_c (by decide) : Iv 1 1 1) (by decide) (by decide); obtain ⟨y1, y2⟩ := id (h173); omega)
  exact lp0 1002 st _ _ _ (Int.le_refl _) hB fr_rf rfl rfl rfl rfl rfl rfl rfl rfl rfl rfl rfl rfl rfl rfl rfl rfl hP hD hS (lv_sub hl [0] rfl) (by have y9 := (rm_0_8 hB); obtain ⟨y1, y2⟩ := y9; omega)
