theorem or_ge {a b z : Int32} {p q : Int} (e : z = a ||| b) (ha : Iv 0 p a) (hb : Iv 0 q b) (hz : Iv 0 2147483647 z) : a.toInt ≤ z.toInt ∧ b.toInt ≤ z.toInt := by
  obtain ⟨n, e1, h1, h2, t1⟩ := iv_of ha
  obtain ⟨m, e2, h3, h4, t2⟩ := iv_of hb
  obtain ⟨k, e3, h5, h6, t3⟩ := iv_of hz
  have t : k = n ||| m := by rw [← t1, ← t2, ← t3, e, Int32.toBitVec_or, BitVec.toNat_or]
  have g1 : n ≤ n ||| m := Nat.left_le_or
  have g2 : m ≤ n ||| m := Nat.right_le_or
  rw [e1, e2, e3, nI_toInt h2, nI_toInt h4, nI_toInt h6]
  omega
theorem wo_y {st : CT} {p s k k2 z1 z2 : Int32} (h : ∀ w : Int32, 0 ≤ w.toInt → w.toInt < k.toInt → st 9 w.toNatClampNeg = p → 1 ≤ s.toInt) (g : s.toInt ≤ z2.toInt ∧ z1.toInt ≤ z2.toInt) (h1 : 1 ≤ z1.toInt) (e : k2.toInt = k.toInt + 1) : ∀ w : Int32, 0 ≤ w.toInt → w.toInt < k2.toInt → st 9 w.toNatClampNeg = p → 1 ≤ z2.toInt := fun w a b c => by omega
theorem wo_n {st : CT} {p s k k2 z2 : Int32} (h : ∀ w : Int32, 0 ≤ w.toInt → w.toInt < k.toInt → st 9 w.toNatClampNeg = p → 1 ≤ s.toInt) (g : s.toInt ≤ z2.toInt) (hn : ¬ st 9 k.toNatClampNeg = p) (e : k2.toInt = k.toInt + 1) : ∀ w : Int32, 0 ≤ w.toInt → w.toInt < k2.toInt → st 9 w.toNatClampNeg = p → 1 ≤ z2.toInt := fun w a b c => by
  by_cases q : w.toInt < k.toInt
  · have := h w a q c
    omega
  · have e2 : w = k := Int32.toInt_inj.mp (by omega)
    rw [e2] at c
    exact absurd c hn
set_option maxHeartbeats 4000000 in
set_option maxRecDepth 100000 in
theorem m_X10_feed (l : Launch) (D : va_G) (k : Nat → ClassId) (a : Nat → Nat) (st : CT) (sl : CL) (p0 : Int32) (p1 : Int32) (p2 : Int32) (p3 : Int32) (p4 : Int32) (sz : Nat) (hB : MB st)  : Met l yX10_feed (.code yX10_feed cX10_feed 7 (some .int) :: TB) (rmw 1 0 0) (va_Pc [.ref (a 0), .int p0, .int p1, .int p2, .int p3, .int p4] (PW D k sz (MWS k a st sl))) (QI D (S := CT) (fun r u => MB u ∧ FR [5, 4, 0] st u ∧ u 0 0 = st 0 0 ∧ u 0 7 = st 0 7 ∧ u 0 8 = st 0 8 ∧ u 0 9 = st 0 9 ∧ u 0 10 = st 0 10 ∧ u 0 11 = st 0 11 ∧ u 0 12 = st 0 12 ∧ u 0 13 = st 0 13 ∧ u 0 20 = st 0 20 ∧ u 0 21 = st 0 21 ∧ u 0 22 = st 0 22 ∧ u 0 26 = st 0 26 ∧ u 0 27 = st 0 27 ∧ u 0 29 = st 0 29 ∧ u 0 31 = st 0 31 ∧ u 0 33 = st 0 33 ∧ (Iv (-1) 1000 r ∧ (True))) (fun u => MWS k a u sl) (fun _ => []) (MWS k a st sl) sz) 0 0 (va_A (MWS k a st sl) sz) := by
  refine Met.ofW (cc := cX10_feed) (maxL := 7) (ret := (some .int)) (by decide) rfl ?_
  intro p e s m args below meth c s₁ B hml hv
  obtain ⟨rfl, hsz, hP, hK, hD0, hN⟩ := hv
  have hx := B.exec
  have hb := B.bytes
  have hr := B.returns
  have hT : ∀ w9 ∈ TB, w9.before ([.ref (a 0), .int p0, .int p1, .int p2, .int p3, .int p4] : List Value).toArray s = true := fun w9 h => atoms_spec (ws := .code yX10_feed cX10_feed 7 (some .int) :: TB) B.pre w9 (List.mem_cons_of_mem _ h)
  have hown : s.vm.findClass RX10 = some m.cls := findClass_of_methodNamed B.named
  have S : CallFix p m c cX10_feed 7 s _ TB RX10 := ⟨hx, hb, hml, hown, hT⟩
  subst hsz
  have hD := hD0.self (sz := s.heap.size)
  generalize hAe : va_A (MWS k a st sl) s.heap.size = A at hD ⊢
  have hA : ∀ q : Nat, s.heap.size ≤ q → A q := fun q h => by rw [← hAe]; exact Or.inr h
  have hS : va_S A s.heap s.heap [] := va_S.rf
  have hl := lv_entry ([.ref (a 0), .int p0, .int p1, .int p2, .int p3, .int p4]) (n := 7) (Nat.le_of_ble_eq_true rfl)
  rw [lg_entry_eq]
  generalize (lg_sl ([.ref (a 0), .int p0, .int p1, .int p2, .int p3, .int p4]) ++ List.replicate (7 - (lg_sl ([.ref (a 0), .int p0, .int p1, .int p2, .int p3, .int p4])).length) Slot.unset).toArray = ls at hl ⊢
  have hl : lv_has ls 7 [(0, .ref (a 0)), (1, .int p0), (2, .int p1), (3, .int p2), (4, .int p3), (5, .int p4)] := hl
  refine nameQ (fun Q hQ => ?_)
  refine lv_aload_n hx hb dX10_feed_0 rfl (lv_at hl 0 rfl) ?_
  refine va_get (D := D) (ci := 10) (v := .int (st 0 5)) (C := RX10) (T := TX10) (N := 38) hx hb hT in_X10 hown hK hP 0 mw_0 rfl 5 (by decide) (hT _ t1267) (fun _ h9 => h9) rfl dX10_feed_1 ?_
  have h1 : Iv 0 1000 (st 0 5) := (rm_0_5 hB)
  refine lv_bipush (v := 20) hx hb dX10_feed_4 (by decide) ?_
  refine lv_iadd hx hb dX10_feed_6 ?_
  refine lv_topi (fun z2 ez2 => ?_)
  have h3 : Iv 20 1020 z2 := iv_add ez2 h1 (iv_c (by decide) : Iv 20 20 20) (by decide) (by decide) (by decide) (by decide)
  refine lv_sipush (v := 1000) hx hb dX10_feed_7 (by decide) ?_
  refine lv_icmp_le (tgt := 15) hx hb dX10_feed_10 (by decide) (fun c4 => ?_) (fun c4 => ?_)
  · skip
    have n5 : z2.toInt ≤ (1000 : Int32).toInt := (i_le c4)
    have h6 : Iv 20 1000 z2 := le_l h3 n5 (iv_c (by decide) : Iv 1000 1000 1000) (by decide)
    have h7 : Iv 0 980 (st 0 5) := (by have e9 := ti_add ez2 h1 (iv_c (by decide) : Iv 20 20 20) (by decide) (by decide); obtain ⟨y1, y2⟩ := id (h6); obtain ⟨y3, y4⟩ := id (h1); have y5 : (20 : Int32).toInt = 20 := rfl; exact ⟨by omega, by omega⟩)
    refine lv_aload_n hx hb dX10_feed_15 rfl (lv_at hl 0 rfl) ?_
    refine va_get (D := D) (ci := 10) (v := .ref (a 5)) (C := RX10) (T := TX10) (N := 38) hx hb hT in_X10 hown hK hP 0 mw_0 rfl 6 (by decide) (hT _ t1268) (fun _ h9 => h9) rfl dX10_feed_16 ?_
    refine lv_iconst (v := 0) hx hb dX10_feed_19 (by decide) ?_
    refine lv_iload_n hx hb dX10_feed_20 rfl (lv_at hl 1 rfl) ?_
    refine c_ist hx hb hK hP hD hS mw_5 ms_5 (by unfold vp_in; decide) dX10_feed_21 (fun s8 H9 locs9 es8 hP9 hD9 hS9 => ?_)
    clear hP hD hS
    have hS := hS9
    have hP := hP9
    have hD := hD9
    clear hP9 hD9 hS9
    have hBs8 : MB s8 := by rw [es8]; exact mb_sw hB trivial
    have hFs8 : FR [5, 4, 0] st s8 := fr_sw fr_rf (List.mem_of_getElem? (i := 0) rfl) es8
    refine lv_aload_n hx hb dX10_feed_22 rfl (lv_at hl 0 rfl) ?_
    refine va_get (D := D) (ci := 10) (v := .ref (a 5)) (C := RX10) (T := TX10) (N := 38) hx hb hT in_X10 hown hK hP 0 mw_0 rfl 6 (by decide) (hT _ t1268) (fun _ h9 => h9) rfl dX10_feed_23 ?_
    refine lv_iconst (v := 1) hx hb dX10_feed_26 (by decide) ?_
    refine lv_iload_n hx hb dX10_feed_27 rfl (lv_at hl 2 rfl) ?_
    refine c_ist hx hb hK hP hD hS mw_5 ms_5 (by unfold vp_in; decide) dX10_feed_28 (fun s9 H9 locs9 es9 hP9 hD9 hS9 => ?_)
    clear hP hD hS
    have hS := hS9
    have hP := hP9
    have hD := hD9
    clear hP9 hD9 hS9
    have hBs9 : MB s9 := by rw [es9]; exact mb_sw hBs8 trivial
    have hFs9 : FR [5, 4, 0] st s9 := fr_sw hFs8 (List.mem_of_getElem? (i := 0) rfl) es9
    refine lv_aload_n hx hb dX10_feed_29 rfl (lv_at hl 0 rfl) ?_
    refine va_get (D := D) (ci := 10) (v := .ref (a 5)) (C := RX10) (T := TX10) (N := 38) hx hb hT in_X10 hown hK hP 0 mw_0 rfl 6 (by decide) (hT _ t1268) (fun _ h9 => h9) rfl dX10_feed_30 ?_
    refine lv_iconst (v := 2) hx hb dX10_feed_33 (by decide) ?_
    refine lv_iload_n hx hb dX10_feed_34 rfl (lv_at hl 3 rfl) ?_
    refine c_ist hx hb hK hP hD hS mw_5 ms_5 (by unfold vp_in; decide) dX10_feed_35 (fun s10 H9 locs9 es10 hP9 hD9 hS9 => ?_)
    clear hP hD hS
    have hS := hS9
    have hP := hP9
    have hD := hD9
    clear hP9 hD9 hS9
    have hBs10 : MB s10 := by rw [es10]; exact mb_sw hBs9 trivial
    have hFs10 : FR [5, 4, 0] st s10 := fr_sw hFs9 (List.mem_of_getElem? (i := 0) rfl) es10
    refine lv_aload_n hx hb dX10_feed_36 rfl (lv_at hl 0 rfl) ?_
    refine va_get (D := D) (ci := 10) (v := .ref (a 5)) (C := RX10) (T := TX10) (N := 38) hx hb hT in_X10 hown hK hP 0 mw_0 rfl 6 (by decide) (hT _ t1268) (fun _ h9 => h9) rfl dX10_feed_37 ?_
    refine lv_iconst (v := 3) hx hb dX10_feed_40 (by decide) ?_
    refine lv_iload hx hb dX10_feed_41 (lv_at hl 4 rfl) ?_
    refine c_ist hx hb hK hP hD hS mw_5 ms_5 (by unfold vp_in; decide) dX10_feed_43 (fun s11 H9 locs9 es11 hP9 hD9 hS9 => ?_)
    clear hP hD hS
    have hS := hS9
    have hP := hP9
    have hD := hD9
    clear hP9 hD9 hS9
    have hBs11 : MB s11 := by rw [es11]; exact mb_sw hBs10 trivial
    have hFs11 : FR [5, 4, 0] st s11 := fr_sw hFs10 (List.mem_of_getElem? (i := 0) rfl) es11
    refine lv_aload_n hx hb dX10_feed_44 rfl (lv_at hl 0 rfl) ?_
    refine va_get (D := D) (ci := 10) (v := .ref (a 5)) (C := RX10) (T := TX10) (N := 38) hx hb hT in_X10 hown hK hP 0 mw_0 rfl 6 (by decide) (hT _ t1268) (fun _ h9 => h9) rfl dX10_feed_45 ?_
    refine lv_iconst (v := 4) hx hb dX10_feed_48 (by decide) ?_
    refine lv_iload hx hb dX10_feed_49 (lv_at hl 5 rfl) ?_
    refine c_ist hx hb hK hP hD hS mw_5 ms_5 (by unfold vp_in; decide) dX10_feed_51 (fun s12 H9 locs9 es12 hP9 hD9 hS9 => ?_)
    clear hP hD hS
    have hS := hS9
    have hP := hP9
    have hD := hD9
    clear hP9 hD9 hS9
    have hBs12 : MB s12 := by rw [es12]; exact mb_sw hBs11 trivial
    have hFs12 : FR [5, 4, 0] st s12 := fr_sw hFs11 (List.mem_of_getElem? (i := 0) rfl) es12
    refine lv_iconst (v := 0) hx hb dX10_feed_52 (by decide) ?_
    refine lv_istore (lv' := [(6, .int 0), (0, .ref (a 0)), (1, .int p0), (2, .int p1), (3, .int p2), (4, .int p3), (5, .int p4)]) hx hb dX10_feed_53 hl (by decide) rfl (fun ls hl => ?_)
    have lp55 : ∀ (n9_55 : Nat) (v6_55 : Int32) (t55 : CT) (H9 : Heap) (locs9 : List Loc) (ls : Array Slot), Iv 0 20 v6_55 → MB t55 → FR [4] s12 t55 → va_P D vwCl (MWS k a t55 sl) H9 → va_D A (MWS k a t55 sl) → va_S A s.heap H9 locs9 → lv_has ls 7 [(6, .int v6_55), (0, .ref (a 0)), (1, .int p0), (2, .int p1), (3, .int p2), (4, .int p3), (5, .int p4)] → (20 : Int) - v6_55.toInt < (n9_55 : Int) → W p l e (rmw 1 0 0) s m ([.ref (a 0), .int p0, .int p1, .int p2, .int p3, .int p4] : List Value).toArray below meth c H9 locs9 0 0 Q (F0 m 55 ls []) := by
      clear hl hP hD hS
      intro n9_55
      induction n9_55 with
      | zero =>
        intro v6_55 t55 H9 locs9 ls iv6_55 hBt55 gt55 hP hD hS hl hm55
        exact (fu_0 iv6_55 hm55).elim
      | succ n9_55 ih55 =>
        intro v6_55 t55 H9 locs9 ls iv6_55 hBt55 gt55 hP hD hS hl hm55
        have hFt55 : FR [5, 4, 0] st t55 := fr_ca hFs12 gt55 (sub_1 (List.mem_of_getElem? (i := 1) rfl) sub_0)
        refine lv_iload hx hb dX10_feed_55 (lv_at hl 0 rfl) ?_
        refine lv_bipush (v := 20) hx hb dX10_feed_57 (by decide) ?_
        refine lv_icmp_ge (tgt := 101) hx hb dX10_feed_59 (by decide) (fun c243 => ?_) (fun c243 => ?_)
        · skip
          have n244 : (20 : Int32).toInt ≤ v6_55.toInt := (i_le c243)
          have h245 : Iv 20 20 v6_55 := le_r (iv_c (by decide) : Iv 20 20 20) n244 iv6_55 (by decide)
          refine lv_aload_n hx hb dX10_feed_101 rfl (lv_at hl 1 rfl) ?_
          refine lv_dup hx hb dX10_feed_102 rfl ?_
          refine va_get (D := D) (ci := 10) (v := .int (t55 0 5)) (C := RX10) (T := TX10) (N := 38) hx hb hT in_X10 hown hK hP 0 mw_0 rfl 5 (by decide) (hT _ t1267) (fun _ h9 => h9) rfl dX10_feed_103 ?_
          refine k_top (y := (st 0 5)) (Eq.trans (congrFun (gt55 0 (nm_1 (by decide) nm_0)) 5) (Eq.trans (congrFun (sw_at es12 (by decide)) 5) (Eq.trans (congrFun (sw_at es11 (by decide)) 5) (Eq.trans (congrFun (sw_at es10 (by decide)) 5) (Eq.trans (congrFun (sw_at es9 (by decide)) 5) (congrFun (sw_at es8 (by decide)) 5)))))) ?_
          refine lv_bipush (v := 20) hx hb dX10_feed_106 (by decide) ?_
          refine lv_iadd hx hb dX10_feed_108 ?_
          refine k_top (y := z2) ez2.symm ?_
          refine c_put (ci := 10) (C := RX10) (T := TX10) (N := 38) (j := 5) (v := z2) hx hb hT in_X10 tyX10 tyX10_ok nmX10 hown hK hP hD hS mw_0 rfl (by decide) (hT _ t1267) (by decide +kernel) (by decide +kernel) rfl rfl (Nat.le_of_ble_eq_true rfl) (ms_0 (upd (t55 0) 5 z2)) dX10_feed_109 (fun s246 H9 locs9 es246 hP9 hD9 hS9 => ?_)
          clear hP hD hS
          have hS := hS9
          have hP := hP9
          have hD := hD9
          clear hP9 hD9 hS9
          have hBs246 : MB s246 := by rw [es246]; exact mb_sw hBt55 (mi_1_5 (hBt55 0) (iv_mono (c := 0) (d := 1000) h6 (by decide) (by decide)))
          have hFs246 : FR [5, 4, 0] st s246 := fr_sw hFt55 (List.mem_of_getElem? (i := 2) rfl) es246
          refine lv_aload_n hx hb dX10_feed_112 rfl (lv_at hl 1 rfl) ?_
          refine va_get (D := D) (ci := 10) (v := .int (s246 0 5)) (C := RX10) (T := TX10) (N := 38) hx hb hT in_X10 hown hK hP 0 mw_0 rfl 5 (by decide) (hT _ t1267) (fun _ h9 => h9) rfl dX10_feed_113 ?_
          refine k_top (y := z2) (congrFun (sw_it es246) 5) ?_
          rw [hQ]
          exact W.iret (v := z2) hx hb hr (fun t ht hW => ⟨⟨z2, s246, rfl, ⟨hBs246, hFs246, (Eq.trans (congrFun (sw_it es246) 0) (Eq.trans (congrFun (gt55 0 (nm_1 (by decide) nm_0)) 0) (Eq.trans (congrFun (sw_at es12 (by decide)) 0) (Eq.trans (congrFun (sw_at es11 (by decide)) 0) (Eq.trans (congrFun (sw_at es10 (by decide)) 0) (Eq.trans (congrFun (sw_at es9 (by decide)) 0) (congrFun (sw_at es8 (by decide)) 0))))))), (Eq.trans (congrFun (sw_it es246) 7) (Eq.trans (congrFun (gt55 0 (nm_1 (by decide) nm_0)) 7) (Eq.trans (congrFun (sw_at es12 (by decide)) 7) (Eq.trans (congrFun (sw_at es11 (by decide)) 7) (Eq.trans (congrFun (sw_at es10 (by decide)) 7) (Eq.trans (congrFun (sw_at es9 (by decide)) 7) (congrFun (sw_at es8 (by decide)) 7))))))), (Eq.trans (congrFun (sw_it es246) 8) (Eq.trans (congrFun (gt55 0 (nm_1 (by decide) nm_0)) 8) (Eq.trans (congrFun (sw_at es12 (by decide)) 8) (Eq.trans (congrFun (sw_at es11 (by decide)) 8) (Eq.trans (congrFun (sw_at es10 (by decide)) 8) (Eq.trans (congrFun (sw_at es9 (by decide)) 8) (congrFun (sw_at es8 (by decide)) 8))))))), (Eq.trans (congrFun (sw_it es246) 9) (Eq.trans (congrFun (gt55 0 (nm_1 (by decide) nm_0)) 9) (Eq.trans (congrFun (sw_at es12 (by decide)) 9) (Eq.trans (congrFun (sw_at es11 (by decide)) 9) (Eq.trans (congrFun (sw_at es10 (by decide)) 9) (Eq.trans (congrFun (sw_at es9 (by decide)) 9) (congrFun (sw_at es8 (by decide)) 9))))))), (Eq.trans (congrFun (sw_it es246) 10) (Eq.trans (congrFun (gt55 0 (nm_1 (by decide) nm_0)) 10) (Eq.trans (congrFun (sw_at es12 (by decide)) 10) (Eq.trans (congrFun (sw_at es11 (by decide)) 10) (Eq.trans (congrFun (sw_at es10 (by decide)) 10) (Eq.trans (congrFun (sw_at es9 (by decide)) 10) (congrFun (sw_at es8 (by decide)) 10))))))), (Eq.trans (congrFun (sw_it es246) 11) (Eq.trans (congrFun (gt55 0 (nm_1 (by decide) nm_0)) 11) (Eq.trans (congrFun (sw_at es12 (by decide)) 11) (Eq.trans (congrFun (sw_at es11 (by decide)) 11) (Eq.trans (congrFun (sw_at es10 (by decide)) 11) (Eq.trans (congrFun (sw_at es9 (by decide)) 11) (congrFun (sw_at es8 (by decide)) 11))))))), (Eq.trans (congrFun (sw_it es246) 12) (Eq.trans (congrFun (gt55 0 (nm_1 (by decide) nm_0)) 12) (Eq.trans (congrFun (sw_at es12 (by decide)) 12) (Eq.trans (congrFun (sw_at es11 (by decide)) 12) (Eq.trans (congrFun (sw_at es10 (by decide)) 12) (Eq.trans (congrFun (sw_at es9 (by decide)) 12) (congrFun (sw_at es8 (by decide)) 12))))))), (Eq.trans (congrFun (sw_it es246) 13) (Eq.trans (congrFun (gt55 0 (nm_1 (by decide) nm_0)) 13) (Eq.trans (congrFun (sw_at es12 (by decide)) 13) (Eq.trans (congrFun (sw_at es11 (by decide)) 13) (Eq.trans (congrFun (sw_at es10 (by decide)) 13) (Eq.trans (congrFun (sw_at es9 (by decide)) 13) (congrFun (sw_at es8 (by decide)) 13))))))), (Eq.trans (congrFun (sw_it es246) 20) (Eq.trans (congrFun (gt55 0 (nm_1 (by decide) nm_0)) 20) (Eq.trans (congrFun (sw_at es12 (by decide)) 20) (Eq.trans (congrFun (sw_at es11 (by decide)) 20) (Eq.trans (congrFun (sw_at es10 (by decide)) 20) (Eq.trans (congrFun (sw_at es9 (by decide)) 20) (congrFun (sw_at es8 (by decide)) 20))))))), (Eq.trans (congrFun (sw_it es246) 21) (Eq.trans (congrFun (gt55 0 (nm_1 (by decide) nm_0)) 21) (Eq.trans (congrFun (sw_at es12 (by decide)) 21) (Eq.trans (congrFun (sw_at es11 (by decide)) 21) (Eq.trans (congrFun (sw_at es10 (by decide)) 21) (Eq.trans (congrFun (sw_at es9 (by decide)) 21) (congrFun (sw_at es8 (by decide)) 21))))))), (Eq.trans (congrFun (sw_it es246) 22) (Eq.trans (congrFun (gt55 0 (nm_1 (by decide) nm_0)) 22) (Eq.trans (congrFun (sw_at es12 (by decide)) 22) (Eq.trans (congrFun (sw_at es11 (by decide)) 22) (Eq.trans (congrFun (sw_at es10 (by decide)) 22) (Eq.trans (congrFun (sw_at es9 (by decide)) 22) (congrFun (sw_at es8 (by decide)) 22))))))), (Eq.trans (congrFun (sw_it es246) 26) (Eq.trans (congrFun (gt55 0 (nm_1 (by decide) nm_0)) 26) (Eq.trans (congrFun (sw_at es12 (by decide)) 26) (Eq.trans (congrFun (sw_at es11 (by decide)) 26) (Eq.trans (congrFun (sw_at es10 (by decide)) 26) (Eq.trans (congrFun (sw_at es9 (by decide)) 26) (congrFun (sw_at es8 (by decide)) 26))))))), (Eq.trans (congrFun (sw_it es246) 27) (Eq.trans (congrFun (gt55 0 (nm_1 (by decide) nm_0)) 27) (Eq.trans (congrFun (sw_at es12 (by decide)) 27) (Eq.trans (congrFun (sw_at es11 (by decide)) 27) (Eq.trans (congrFun (sw_at es10 (by decide)) 27) (Eq.trans (congrFun (sw_at es9 (by decide)) 27) (congrFun (sw_at es8 (by decide)) 27))))))), (Eq.trans (congrFun (sw_it es246) 29) (Eq.trans (congrFun (gt55 0 (nm_1 (by decide) nm_0)) 29) (Eq.trans (congrFun (sw_at es12 (by decide)) 29) (Eq.trans (congrFun (sw_at es11 (by decide)) 29) (Eq.trans (congrFun (sw_at es10 (by decide)) 29) (Eq.trans (congrFun (sw_at es9 (by decide)) 29) (congrFun (sw_at es8 (by decide)) 29))))))), (Eq.trans (congrFun (sw_it es246) 31) (Eq.trans (congrFun (gt55 0 (nm_1 (by decide) nm_0)) 31) (Eq.trans (congrFun (sw_at es12 (by decide)) 31) (Eq.trans (congrFun (sw_at es11 (by decide)) 31) (Eq.trans (congrFun (sw_at es10 (by decide)) 31) (Eq.trans (congrFun (sw_at es9 (by decide)) 31) (congrFun (sw_at es8 (by decide)) 31))))))), (Eq.trans (congrFun (sw_it es246) 33) (Eq.trans (congrFun (gt55 0 (nm_1 (by decide) nm_0)) 33) (Eq.trans (congrFun (sw_at es12 (by decide)) 33) (Eq.trans (congrFun (sw_at es11 (by decide)) 33) (Eq.trans (congrFun (sw_at es10 (by decide)) 33) (Eq.trans (congrFun (sw_at es9 (by decide)) 33) (congrFun (sw_at es8 (by decide)) 33))))))), ⟨(iv_mono (c := (-1)) (d := 1000) h6 (by decide) (by decide)), trivial⟩⟩, by rw [ht]; exact hP, va_K.moved hW.alike (hK.sub (tys' := []) [] rfl), by rw [hAe]; exact hD⟩, by rw [hAe]; exact hS.F ht⟩) hS.2.2 dX10_feed_116
        · skip
          have n247 : v6_55.toInt < (20 : Int32).toInt := (i_nle c243)
          have h248 : Iv 0 19 v6_55 := lt_l iv6_55 n247 (iv_c (by decide) : Iv 20 20 20) (by decide)
          refine lv_aload_n hx hb dX10_feed_62 rfl (lv_at hl 1 rfl) ?_
          refine va_get (D := D) (ci := 10) (v := .ref (a 4)) (C := RX10) (T := TX10) (N := 38) hx hb hT in_X10 hown hK hP 0 mw_0 rfl 4 (by decide) (hT _ t1266) (fun _ h9 => h9) rfl dX10_feed_63 ?_
          refine lv_aload_n hx hb dX10_feed_66 rfl (lv_at hl 1 rfl) ?_
          refine va_get (D := D) (ci := 10) (v := .int (t55 0 5)) (C := RX10) (T := TX10) (N := 38) hx hb hT in_X10 hown hK hP 0 mw_0 rfl 5 (by decide) (hT _ t1267) (fun _ h9 => h9) rfl dX10_feed_67 ?_
          refine k_top (y := (st 0 5)) (Eq.trans (congrFun (gt55 0 (nm_1 (by decide) nm_0)) 5) (Eq.trans (congrFun (sw_at es12 (by decide)) 5) (Eq.trans (congrFun (sw_at es11 (by decide)) 5) (Eq.trans (congrFun (sw_at es10 (by decide)) 5) (Eq.trans (congrFun (sw_at es9 (by decide)) 5) (congrFun (sw_at es8 (by decide)) 5)))))) ?_
          refine lv_iload hx hb dX10_feed_70 (lv_at hl 0 rfl) ?_
          refine lv_iadd hx hb dX10_feed_72 ?_
          refine lv_topi (fun z249 ez249 => ?_)
          have h250 : Iv 0 999 z249 := iv_add ez249 h7 h248 (by decide) (by decide) (by decide) (by decide)
          refine lv_aload_n hx hb dX10_feed_73 rfl (lv_at hl 1 rfl) ?_
          refine va_get (D := D) (ci := 10) (v := .ref (a 5)) (C := RX10) (T := TX10) (N := 38) hx hb hT in_X10 hown hK hP 0 mw_0 rfl 6 (by decide) (hT _ t1268) (fun _ h9 => h9) rfl dX10_feed_74 ?_
          refine lv_iload hx hb dX10_feed_77 (lv_at hl 0 rfl) ?_
          refine lv_iconst (v := 4) hx hb dX10_feed_79 (by decide) ?_
          refine lv_idiv hx hb dX10_feed_80 (iv_nz (iv_c (by decide) : Iv 4 4 4) (by decide)) ?_
          refine lv_topi (fun z251 ez251 => ?_)
          have h252 : Iv 0 4 z251 := iv_div ez251 h248 (y := 4) (k := 4) (by decide) (by decide) (by decide) (by decide)
          refine va_iald hx hb hK hP 5 0 mw_5 rfl (iv_in h252 (by decide) (by decide)) dX10_feed_81 ?_
          refine lv_topi (fun z253 ez253 => ?_)
          refine lv_bipush (v := 24) hx hb dX10_feed_82 (by decide) ?_
          refine lv_bipush (v := 8) hx hb dX10_feed_84 (by decide) ?_
          refine lv_iload hx hb dX10_feed_86 (lv_at hl 0 rfl) ?_
          refine lv_iconst (v := 4) hx hb dX10_feed_88 (by decide) ?_
          refine lv_irem hx hb dX10_feed_89 (iv_nz (iv_c (by decide) : Iv 4 4 4) (by decide)) ?_
          refine lv_topi (fun z254 ez254 => ?_)
          have h255 : Iv 0 3 z254 := iv_rem ez254 h248 (y := 4) (k := 4) (by decide) (by decide) (by decide) (by decide)
          refine lv_imul hx hb dX10_feed_90 ?_
          refine lv_topi (fun z256 ez256 => ?_)
          have h257 : Iv 0 24 z256 := iv_mull ez256 h255 (k := 8) (by decide) (by decide) (by decide) (by decide) (by decide) (by decide)
          refine lv_isub hx hb dX10_feed_91 ?_
          refine lv_topi (fun z258 ez258 => ?_)
          have h259 : Iv 0 24 z258 := iv_sub ez258 (iv_c (by decide) : Iv 24 24 24) h257 (by decide) (by decide) (by decide) (by decide)
          refine lv_ishr hx hb dX10_feed_92 ?_
          refine lv_topi (fun z260 ez260 => ?_)
          refine lv_i2b hx hb dX10_feed_93 rfl ?_
          refine lv_topi (fun z261 ez261 => ?_)
          refine c_bst hx hb hK hP hD hS mw_4 ms_4 (iv_in h250 (by decide) (by decide)) dX10_feed_94 (fun s262 H9 locs9 es262 hP9 hD9 hS9 => ?_)
          clear hP hD hS
          have hS := hS9
          have hP := hP9
          have hD := hD9
          clear hP9 hD9 hS9
          have hBs262 : MB s262 := by rw [es262]; exact mb_sw hBt55 trivial
          have hFs262 : FR [5, 4, 0] st s262 := fr_sw hFt55 (List.mem_of_getElem? (i := 1) rfl) es262
          obtain ⟨z263, ez263⟩ : ∃ z9 : Int32, z9 = v6_55 + Int32.ofInt 1 := ⟨_, rfl⟩
          have h264 : Iv 1 20 z263 := iv_inc ez263 h248 (by decide) (by decide) (by decide) (by decide) (by decide) (by decide)
          refine lv_iinc (v := z263) (lv' := [(6, .int z263), (0, .ref (a 0)), (1, .int p0), (2, .int p1), (3, .int p2), (4, .int p3), (5, .int p4)]) hx hb dX10_feed_95 hl (k := 0) rfl ez263.symm (by decide) rfl (fun ls hl => ?_)
          refine lv_goto (tgt := 55) hx hb dX10_feed_98 (by decide) ?_
          exact ih55 z263 s262 _ _ _ (iv_mono (c := 0) (d := 20) h264 (by decide) (by decide)) hBs262 (fr_sw gt55 (List.mem_of_getElem? (i := 0) rfl) es262) hP hD hS (lv_sub hl [0, 1, 2, 3, 4, 5, 6] rfl) (fu_s (lo := 0) (ti_inc ez263 h248 (by decide) (by decide) (by decide) (by decide)) (by decide) hm55)
    exact lp55 21 0 s12 _ _ _ (iv_mono (c := 0) (d := 20) (iv_c (by decide) : Iv 0 0 0) (by decide) (by decide)) hBs12 fr_rf hP hD hS (lv_sub hl [0, 1, 2, 3, 4, 5, 6] rfl) (fu_i (iv_mono (c := 0) (d := 20) (iv_c (by decide) : Iv 0 0 0) (by decide) (by decide)) (by decide))
  · skip
    have n265 : (1000 : Int32).toInt < z2.toInt := (i_nle c4)
    have h266 : Iv 1001 1020 z2 := lt_r (iv_c (by decide) : Iv 1000 1000 1000) n265 h3 (by decide)
    have h267 : Iv 981 1000 (st 0 5) := (by have e9 := ti_add ez2 h1 (iv_c (by decide) : Iv 20 20 20) (by decide) (by decide); obtain ⟨y1, y2⟩ := id (h266); obtain ⟨y3, y4⟩ := id (h1); have y5 : (20 : Int32).toInt = 20 := rfl; exact ⟨by omega, by omega⟩)
    refine lv_iconst (v := (-1)) hx hb dX10_feed_13 (by decide) ?_
    rw [hQ]
    exact W.iret (v := (-1)) hx hb hr (fun t ht hW => ⟨⟨(-1), st, rfl, ⟨hB, fr_rf, rfl, rfl, rfl, rfl, rfl, rfl, rfl, rfl, rfl, rfl, rfl, rfl, rfl, rfl, rfl, rfl, ⟨(iv_mono (c := (-1)) (d := 1000) (iv_c (by decide) : Iv (-1) (-1) (-1)) (by decide) (by decide)), trivial⟩⟩, by rw [ht]; exact hP, va_K.moved hW.alike (hK.sub (tys' := []) [] rfl), by rw [hAe]; exact hD⟩, by rw [hAe]; exact hS.F ht⟩) hS.2.2 dX10_feed_14
set_option maxHeartbeats 4000000 in
set_option maxRecDepth 100000 in
theorem m_X10_end_ (l : Launch) (D : va_G) (k : Nat → ClassId) (a : Nat → Nat) (st : CT) (sl : CL) (p0 : Int32) (sz : Nat) (hB : MB st)  : Met l yX10_end_ (.code yX10_end_ cX10_end_ 2 (some .int) :: TB) (rmw 2 0 0) (va_Pc [.ref (a 0), .int p0] (PW D k sz (MWS k a st sl))) (QI D (S := CT) (fun r u => MB u ∧ FR [0] st u ∧ u 0 0 = st 0 0 ∧ u 0 7 = st 0 7 ∧ u 0 8 = st 0 8 ∧ u 0 9 = st 0 9 ∧ u 0 10 = st 0 10 ∧ u 0 11 = st 0 11 ∧ u 0 12 = st 0 12 ∧ u 0 13 = st 0 13 ∧ u 0 20 = st 0 20 ∧ u 0 21 = st 0 21 ∧ u 0 22 = st 0 22 ∧ u 0 26 = st 0 26 ∧ u 0 27 = st 0 27 ∧ u 0 29 = st 0 29 ∧ u 0 31 = st 0 31 ∧ u 0 33 = st 0 33 ∧ (Iv (-1) 1000 r ∧ (True))) (fun u => MWS k a u sl) (fun _ => []) (MWS k a st sl) sz) 0 0 (va_A (MWS k a st sl) sz) := by
  refine Met.ofW (cc := cX10_end_) (maxL := 2) (ret := (some .int)) (by decide) rfl ?_
  intro p e s m args below meth c s₁ B hml hv
  obtain ⟨rfl, hsz, hP, hK, hD0, hN⟩ := hv
  have hx := B.exec
  have hb := B.bytes
  have hr := B.returns
  have hT : ∀ w9 ∈ TB, w9.before ([.ref (a 0), .int p0] : List Value).toArray s = true := fun w9 h => atoms_spec (ws := .code yX10_end_ cX10_end_ 2 (some .int) :: TB) B.pre w9 (List.mem_cons_of_mem _ h)
  have hown : s.vm.findClass RX10 = some m.cls := findClass_of_methodNamed B.named
  have S : CallFix p m c cX10_end_ 2 s _ TB RX10 := ⟨hx, hb, hml, hown, hT⟩
  subst hsz
  have hD := hD0.self (sz := s.heap.size)
  generalize hAe : va_A (MWS k a st sl) s.heap.size = A at hD ⊢
  have hA : ∀ q : Nat, s.heap.size ≤ q → A q := fun q h => by rw [← hAe]; exact Or.inr h
  have hS : va_S A s.heap s.heap [] := va_S.rf
  have hl := lv_entry ([.ref (a 0), .int p0]) (n := 2) (Nat.le_of_ble_eq_true rfl)
  rw [lg_entry_eq]
  generalize (lg_sl ([.ref (a 0), .int p0]) ++ List.replicate (2 - (lg_sl ([.ref (a 0), .int p0])).length) Slot.unset).toArray = ls at hl ⊢
  have hl : lv_has ls 2 [(0, .ref (a 0)), (1, .int p0)] := hl
  refine nameQ (fun Q hQ => ?_)
  refine lv_iload_n hx hb dX10_end__0 rfl (lv_at hl 1 rfl) ?_
  refine lv_i2l hx hb dX10_end__1 rfl ?_
  refine lv_lconst (v := 0) hx hb dX10_end__2 (by decide) ?_
  refine lv_aload_n hx hb dX10_end__3 rfl (lv_at hl 0 rfl) ?_
  refine va_get (D := D) (ci := 10) (v := .int (st 0 5)) (C := RX10) (T := TX10) (N := 38) hx hb hT in_X10 hown hK hP 0 mw_0 rfl 5 (by decide) (hT _ t1267) (fun _ h9 => h9) rfl dX10_end__4 ?_
  have h1 : Iv 0 1000 (st 0 5) := (rm_0_5 hB)
  refine lv_i2l hx hb dX10_end__7 rfl ?_
  refine ro_S (As := [.long (p0.toInt64), .long 0, .long ((st 0 5).toInt64)]) (rest := []) S (m_X10_in l D k a st sl  (p0.toInt64) 0 ((st 0 5).toInt64) _  hB  ) lkX10_85 ok_X10_in ⟨rfl, rfl, Nat.le_of_ble_eq_true rfl, Nat.le_of_ble_eq_true rfl⟩ (pw_S hK hN hP (hD.weaken (fun _ _ _ _ => trivial))) rfl hl.1 rfl (Nat.le_of_ble_eq_true rfl) ⟨Nat.zero_le _, Nat.zero_le _⟩ dX10_end__8 (fun r2 er2 => ?_)
  rcases er2 with ⟨rfl, g9⟩ | ⟨rfl, g9⟩
  · skip
    have g3 := g9
    have k4 := g3
    have h5 : (0 : Int) ≤ (p0.toInt64).toInt ∧ (p0.toInt64).toInt ≤ (1000 : Int) := ⟨((show (0 : Int) ≤ (p0.toInt64).toInt ∧ (p0.toInt64).toInt ≤ (1000 : Int) from ⟨Int.le_trans ((⟨by decide, by decide⟩ : (0 : Int) ≤ (0 : Int64).toInt ∧ (0 : Int64).toInt ≤ (0 : Int))).1 k4.1, Int.le_trans k4.2 ((lv_iv h1)).2⟩)).1, ((show (0 : Int) ≤ (p0.toInt64).toInt ∧ (p0.toInt64).toInt ≤ (1000 : Int) from ⟨Int.le_trans ((⟨by decide, by decide⟩ : (0 : Int) ≤ (0 : Int64).toInt ∧ (0 : Int64).toInt ≤ (0 : Int))).1 k4.1, Int.le_trans k4.2 ((lv_iv h1)).2⟩)).2⟩
    have h6 : Iv 0 1000 p0 := iv_lv h5
    refine lv_if_ne (tgt := 16) hx hb dX10_end__11 (by decide) (fun c7 => ?_) (fun c7 => ?_)
    rotate_left
    · first | exact absurd c7 (by decide) | exact absurd (by decide) c7
    refine lv_aload_n hx hb dX10_end__16 rfl (lv_at hl 0 rfl) ?_
    refine lv_iload_n hx hb dX10_end__17 rfl (lv_at hl 1 rfl) ?_
    refine c_put (ci := 10) (C := RX10) (T := TX10) (N := 38) (j := 5) (v := p0) hx hb hT in_X10 tyX10 tyX10_ok nmX10 hown hK hP hD hS mw_0 rfl (by decide) (hT _ t1267) (by decide +kernel) (by decide +kernel) rfl rfl (Nat.le_of_ble_eq_true rfl) (ms_0 (upd (st 0) 5 p0)) dX10_end__18 (fun s8 H9 locs9 es8 hP9 hD9 hS9 => ?_)
    clear hP hD hS
    have hS := hS9
    have hP := hP9
    have hD := hD9
    clear hP9 hD9 hS9
    have hBs8 : MB s8 := by rw [es8]; exact mb_sw hB (mi_1_5 (hB 0) h6)
    have hFs8 : FR [0] st s8 := fr_sw fr_rf (List.mem_of_getElem? (i := 0) rfl) es8
    refine lv_iload_n hx hb dX10_end__21 rfl (lv_at hl 1 rfl) ?_
    rw [hQ]
    exact W.iret (v := p0) hx hb hr (fun t ht hW => ⟨⟨p0, s8, rfl, ⟨hBs8, hFs8, (congrFun (sw_it es8) 0), (congrFun (sw_it es8) 7), (congrFun (sw_it es8) 8), (congrFun (sw_it es8) 9), (congrFun (sw_it es8) 10), (congrFun (sw_it es8) 11), (congrFun (sw_it es8) 12), (congrFun (sw_it es8) 13), (congrFun (sw_it es8) 20), (congrFun (sw_it es8) 21), (congrFun (sw_it es8) 22), (congrFun (sw_it es8) 26), (congrFun (sw_it es8) 27), (congrFun (sw_it es8) 29), (congrFun (sw_it es8) 31), (congrFun (sw_it es8) 33), ⟨(iv_mono (c := (-1)) (d := 1000) h6 (by decide) (by decide)), trivial⟩⟩, by rw [ht]; exact hP, va_K.moved hW.alike (hK.sub (tys' := []) [] rfl), by rw [hAe]; exact hD⟩, by rw [hAe]; exact hS.F ht⟩) hS.2.2 dX10_end__22
  · skip
    have g9 := g9
    have k10 := g9
    refine lv_if_ne (tgt := 16) hx hb dX10_end__11 (by decide) (fun c11 => ?_) (fun c11 => ?_)
    · first | exact absurd c11 (by decide) | exact absurd (by decide) c11
    refine lv_iconst (v := (-1)) hx hb dX10_end__14 (by decide) ?_
    rw [hQ]
    exact W.iret (v := (-1)) hx hb hr (fun t ht hW => ⟨⟨(-1), st, rfl, ⟨hB, fr_rf, rfl, rfl, rfl, rfl, rfl, rfl, rfl, rfl, rfl, rfl, rfl, rfl, rfl, rfl, rfl, rfl, ⟨(iv_mono (c := (-1)) (d := 1000) (iv_c (by decide) : Iv (-1) (-1) (-1)) (by decide) (by decide)), trivial⟩⟩, by rw [ht]; exact hP, va_K.moved hW.alike (hK.sub (tys' := []) [] rfl), by rw [hAe]; exact hD⟩, by rw [hAe]; exact hS.F ht⟩) hS.2.2 dX10_end__15
set_option maxHeartbeats 4000000 in
set_option maxRecDepth 100000 in
theorem m_X10_fault (l : Launch) (D : va_G) (k : Nat → ClassId) (a : Nat → Nat) (st : CT) (sl : CL) (p0 : Int32) (sz : Nat) (hB : MB st)  : Met l yX10_fault (.code yX10_fault cX10_fault 2 (some .int) :: TB) (rmk 1) (va_Pc [.ref (a 0), .int p0] (PW D k sz (MWS k a st sl))) (vp_Si (fun r => (True))) 0 0 (fun _ => False) := by
  refine Met.ofW (cc := cX10_fault) (maxL := 2) (ret := (some .int)) (by decide) rfl ?_
  intro p e s m args below meth c s₁ B hml hv
  obtain ⟨rfl, hsz, hP, hK, hD0, hN⟩ := hv
  have hx := B.exec
  have hb := B.bytes
  have hr := B.returns
  have hT : ∀ w9 ∈ TB, w9.before ([.ref (a 0), .int p0] : List Value).toArray s = true := fun w9 h => atoms_spec (ws := .code yX10_fault cX10_fault 2 (some .int) :: TB) B.pre w9 (List.mem_cons_of_mem _ h)
  have hown : s.vm.findClass RX10 = some m.cls := findClass_of_methodNamed B.named
  have S : CallFix p m c cX10_fault 2 s _ TB RX10 := ⟨hx, hb, hml, hown, hT⟩
  subst hsz
  have hl := lv_entry ([.ref (a 0), .int p0]) (n := 2) (Nat.le_of_ble_eq_true rfl)
  rw [lg_entry_eq]
  generalize (lg_sl ([.ref (a 0), .int p0]) ++ List.replicate (2 - (lg_sl ([.ref (a 0), .int p0])).length) Slot.unset).toArray = ls at hl ⊢
  have hl : lv_has ls 2 [(0, .ref (a 0)), (1, .int p0)] := hl
  refine nameQ (fun Q hQ => ?_)
  refine lv_iload_n hx hb dX10_fault_0 rfl (lv_at hl 1 rfl) ?_
  refine lv_if_ne (tgt := 11) hx hb dX10_fault_1 (by decide) (fun c1 => ?_) (fun c1 => ?_)
  · skip
    refine lv_iload_n hx hb dX10_fault_11 rfl (lv_at hl 1 rfl) ?_
    refine lv_iconst (v := 1) hx hb dX10_fault_12 (by decide) ?_
    refine lv_icmp_ne (tgt := 23) hx hb dX10_fault_13 (by decide) (fun c2 => ?_) (fun c2 => ?_)
    · skip
      refine lv_iconst (v := (-1)) hx hb dX10_fault_23 (by decide) ?_
      rw [hQ]
      exact W.iret (v := (-1)) hx hb hr (fun t ht hW => ⟨(-1), rfl, trivial, ht⟩) (fun _ h9 => by cases h9) dX10_fault_24
    · skip
      have h3 : Iv 1 1 p0 := eq_l c2 (iv_c (by decide) : Iv 1 1 1)
      refine lv_aload_n hx hb dX10_fault_16 rfl (lv_at hl 0 rfl) ?_
      refine va_get (D := D) (ci := 10) (v := .int (st 0 13)) (C := RX10) (T := TX10) (N := 38) hx hb hT in_X10 hown hK hP 0 mw_0 rfl 13 (by decide) (hT _ t1275) (fun _ h9 => h9) rfl dX10_fault_17 ?_
      refine lv_goto (tgt := 24) hx hb dX10_fault_20 (by decide) ?_
      rw [hQ]
      exact W.iret (v := (st 0 13)) hx hb hr (fun t ht hW => ⟨(st 0 13), rfl, trivial, ht⟩) (fun _ h9 => by cases h9) dX10_fault_24
  · skip
    have h4 : Iv 0 0 p0 := eq_l c1 (iv_c (by decide) : Iv 0 0 0)
    refine lv_aload_n hx hb dX10_fault_4 rfl (lv_at hl 0 rfl) ?_
    refine va_get (D := D) (ci := 10) (v := .int (st 0 12)) (C := RX10) (T := TX10) (N := 38) hx hb hT in_X10 hown hK hP 0 mw_0 rfl 12 (by decide) (hT _ t1274) (fun _ h9 => h9) rfl dX10_fault_5 ?_
    refine lv_goto (tgt := 24) hx hb dX10_fault_8 (by decide) ?_
    rw [hQ]
    exact W.iret (v := (st 0 12)) hx hb hr (fun t ht hW => ⟨(st 0 12), rfl, trivial, ht⟩) (fun _ h9 => by cases h9) dX10_fault_24
set_option maxHeartbeats 4000000 in
set_option maxRecDepth 100000 in
theorem m_X10_wheelsOf (l : Launch) (D : va_G) (k : Nat → ClassId) (a : Nat → Nat) (st : CT) (sl : CL) (p0 : Int32) (sz : Nat) (hB : MB st)  (hw : WOK (st 1)) : Met l yX10_wheelsOf (.code yX10_wheelsOf cX10_wheelsOf 4 (some .int) :: TB) (rmk 1) (va_Pc [.ref (a 0), .int p0] (PW D k sz (MWS k a st sl))) (vp_Si (fun r => Iv 0 255 r ∧ ((∀ w : Int32, 0 ≤ w.toInt → w.toInt < (st 1 3).toInt → st 9 w.toNatClampNeg = p0 → 1 ≤ r.toInt)))) 0 0 (fun _ => False) := by
  refine Met.ofW (cc := cX10_wheelsOf) (maxL := 4) (ret := (some .int)) (by decide) rfl ?_
  intro p e s m args below meth c s₁ B hml hv
  obtain ⟨rfl, hsz, hP, hK, hD0, hN⟩ := hv
  have hx := B.exec
  have hb := B.bytes
  have hr := B.returns
  have hT : ∀ w9 ∈ TB, w9.before ([.ref (a 0), .int p0] : List Value).toArray s = true := fun w9 h => atoms_spec (ws := .code yX10_wheelsOf cX10_wheelsOf 4 (some .int) :: TB) B.pre w9 (List.mem_cons_of_mem _ h)
  have hown : s.vm.findClass RX10 = some m.cls := findClass_of_methodNamed B.named
  have S : CallFix p m c cX10_wheelsOf 4 s _ TB RX10 := ⟨hx, hb, hml, hown, hT⟩
  subst hsz
  have hl := lv_entry ([.ref (a 0), .int p0]) (n := 4) (Nat.le_of_ble_eq_true rfl)
  rw [lg_entry_eq]
  generalize (lg_sl ([.ref (a 0), .int p0]) ++ List.replicate (4 - (lg_sl ([.ref (a 0), .int p0])).length) Slot.unset).toArray = ls at hl ⊢
  have hl : lv_has ls 4 [(0, .ref (a 0)), (1, .int p0)] := hl
  refine nameQ (fun Q hQ => ?_)
  refine lv_iconst (v := 0) hx hb dX10_wheelsOf_0 (by decide) ?_
  refine lv_istore_n (lv' := [(2, .int 0), (0, .ref (a 0)), (1, .int p0)]) hx hb dX10_wheelsOf_1 rfl hl (by decide) rfl (fun ls hl => ?_)
  refine lv_iconst (v := 0) hx hb dX10_wheelsOf_2 (by decide) ?_
  refine lv_istore_n (lv' := [(3, .int 0), (2, .int 0), (0, .ref (a 0)), (1, .int p0)]) hx hb dX10_wheelsOf_3 rfl hl (by decide) rfl (fun ls hl => ?_)
  have lp4 : ∀ (n9_4 : Nat) (v3_4 : Int32) (v2_4 : Int32) (ls : Array Slot), Iv 0 8 v3_4 → Iv 0 255 v2_4 → (∀ w : Int32, 0 ≤ w.toInt → w.toInt < v3_4.toInt → st 9 w.toNatClampNeg = p0 → 1 ≤ v2_4.toInt) → lv_has ls 4 [(3, .int v3_4), (2, .int v2_4), (0, .ref (a 0)), (1, .int p0)] → (8 : Int) - v3_4.toInt < (n9_4 : Int) → W p l e (rmk 1) s m ([.ref (a 0), .int p0] : List Value).toArray below meth c s.heap [] 0 0 Q (F0 m 4 ls []) := by
    clear hl
    intro n9_4
    induction n9_4 with
    | zero =>
      intro v3_4 v2_4 ls iv3_4 iv2_4 rel4_0 hl hm4
      exact (fu_0 iv3_4 hm4).elim
    | succ n9_4 ih4 =>
      intro v3_4 v2_4 ls iv3_4 iv2_4 rel4_0 hl hm4
      refine lv_iload_n hx hb dX10_wheelsOf_4 rfl (lv_at hl 0 rfl) ?_
      refine lv_aload_n hx hb dX10_wheelsOf_5 rfl (lv_at hl 2 rfl) ?_
      refine va_get (D := D) (ci := 10) (v := .ref (a 1)) (C := RX10) (T := TX10) (N := 38) hx hb hT in_X10 hown hK hP 0 mw_0 rfl 1 (by decide) (hT _ t1263) (fun _ h9 => h9) rfl dX10_wheelsOf_6 ?_
      refine lv_iconst (v := 3) hx hb dX10_wheelsOf_9 (by decide) ?_
      refine va_iald hx hb hK hP 1 0 mw_1 rfl (by unfold vp_in; decide) dX10_wheelsOf_10 ?_
      refine k_top (y := (st 1 3)) rfl ?_
      have h163 : Iv 0 8 (st 1 3) := (tok_at (hw).1 3 0 8 (by decide) (by decide) (by decide))
      refine lv_icmp_ge (tgt := 40) hx hb dX10_wheelsOf_11 (by decide) (fun c164 => ?_) (fun c164 => ?_)
      · skip
        have n165 : (st 1 3).toInt ≤ v3_4.toInt := (i_le c164)
        refine lv_iload_n hx hb dX10_wheelsOf_40 rfl (lv_at hl 1 rfl) ?_
        rw [hQ]
        exact W.iret (v := v2_4) hx hb hr (fun t ht hW => ⟨v2_4, rfl, ⟨iv2_4, (fun w9 a9 b9 c9 => rel4_0 w9 a9 (Int.lt_of_lt_of_le b9 n165) c9)⟩, ht⟩) (fun _ h9 => by cases h9) dX10_wheelsOf_41
      · skip
        have n166 : v3_4.toInt < (st 1 3).toInt := (i_nle c164)
        have h167 : Iv 0 7 v3_4 := lt_l iv3_4 n166 h163 (by decide)
        have h168 : Iv 1 8 (st 1 3) := lt_r iv3_4 n166 h163 (by decide)
        refine lv_iload_n hx hb dX10_wheelsOf_14 rfl (lv_at hl 1 rfl) ?_
        refine lv_aload_n hx hb dX10_wheelsOf_15 rfl (lv_at hl 2 rfl) ?_
        refine va_get (D := D) (ci := 10) (v := .ref (a 9)) (C := RX10) (T := TX10) (N := 38) hx hb hT in_X10 hown hK hP 0 mw_0 rfl 17 (by decide) (hT _ t1279) (fun _ h9 => h9) rfl dX10_wheelsOf_16 ?_
        refine lv_iload_n hx hb dX10_wheelsOf_19 rfl (lv_at hl 0 rfl) ?_
        refine va_iald hx hb hK hP 9 0 mw_9 rfl (iv_in h167 (by decide) (by decide)) dX10_wheelsOf_20 ?_
        refine lv_topi (fun z169 ez169 => ?_)
        refine lv_iload_n hx hb dX10_wheelsOf_21 rfl (lv_at hl 3 rfl) ?_
        refine lv_icmp_ne (tgt := 31) hx hb dX10_wheelsOf_22 (by decide) (fun c170 => ?_) (fun c170 => ?_)
        · skip
          refine lv_iconst (v := 0) hx hb dX10_wheelsOf_31 (by decide) ?_
          refine lv_ior hx hb dX10_wheelsOf_32 ?_
          refine lv_topi (fun z171 ez171 => ?_)
          have h172 : Iv 0 255 z171 := iv_or 8 ez171 iv2_4 (iv_c (by decide) : Iv 0 0 0) (by decide) (by decide) (by decide) (by decide)
          refine lv_istore_n (lv' := [(2, .int z171), (3, .int v3_4), (0, .ref (a 0)), (1, .int p0)]) hx hb dX10_wheelsOf_33 rfl hl (by decide) rfl (fun ls hl => ?_)
          obtain ⟨z173, ez173⟩ : ∃ z9 : Int32, z9 = v3_4 + Int32.ofInt 1 := ⟨_, rfl⟩
          have h174 : Iv 1 8 z173 := iv_inc ez173 h167 (by decide) (by decide) (by decide) (by decide) (by decide) (by decide)
          refine lv_iinc (v := z173) (lv' := [(3, .int z173), (2, .int z171), (0, .ref (a 0)), (1, .int p0)]) hx hb dX10_wheelsOf_34 hl (k := 1) rfl ez173.symm (by decide) rfl (fun ls hl => ?_)
          refine lv_goto (tgt := 4) hx hb dX10_wheelsOf_37 (by decide) ?_
          exact ih4 z173 z171 _ (iv_mono (c := 0) (d := 8) h174 (by decide) (by decide)) h172 (wo_n rel4_0 (or_ge ez171 iv2_4 (iv_c (by decide) : Iv 0 0 0) (iv_mono (c := 0) (d := 2147483647) h172 (by decide) (by decide))).1 (by rw [← ez169]; exact c170) (ti_inc ez173 h167 (by decide) (by decide) (by decide) (by decide))) (lv_sub hl [0, 1, 2, 3] rfl) (fu_s (lo := 0) (ti_inc ez173 h167 (by decide) (by decide) (by decide) (by decide)) (by decide) hm4)
        · skip
          refine lv_iconst (v := 1) hx hb dX10_wheelsOf_25 (by decide) ?_
          refine lv_iload_n hx hb dX10_wheelsOf_26 rfl (lv_at hl 0 rfl) ?_
          refine lv_ishl hx hb dX10_wheelsOf_27 ?_
          refine lv_topi (fun z175 ez175 => ?_)
          have h176 : Iv 1 128 z175 := iv_shl 7 ez175 h167 (by decide) (by decide) (by decide)
          refine lv_goto (tgt := 32) hx hb dX10_wheelsOf_28 (by decide) ?_
          refine lv_ior hx hb dX10_wheelsOf_32 ?_
          refine lv_topi (fun z177 ez177 => ?_)
          have h178 : Iv 0 255 z177 := iv_or 8 ez177 iv2_4 (iv_mono (c := 0) (d := 128) h176 (by decide) (by decide)) (by decide) (by decide) (by decide) (by decide)
          refine lv_istore_n (lv' := [(2, .int z177), (3, .int v3_4), (0, .ref (a 0)), (1, .int p0)]) hx hb dX10_wheelsOf_33 rfl hl (by decide) rfl (fun ls hl => ?_)
          obtain ⟨z179, ez179⟩ : ∃ z9 : Int32, z9 = v3_4 + Int32.ofInt 1 := ⟨_, rfl⟩
          have h180 : Iv 1 8 z179 := iv_inc ez179 h167 (by decide) (by decide) (by decide) (by decide) (by decide) (by decide)
          refine lv_iinc (v := z179) (lv' := [(3, .int z179), (2, .int z177), (0, .ref (a 0)), (1, .int p0)]) hx hb dX10_wheelsOf_34 hl (k := 1) rfl ez179.symm (by decide) rfl (fun ls hl => ?_)
          refine lv_goto (tgt := 4) hx hb dX10_wheelsOf_37 (by decide) ?_
          exact ih4 z179 z177 _ (iv_mono (c := 0) (d := 8) h180 (by decide) (by decide)) h178 (wo_y rel4_0 (or_ge ez177 iv2_4 (iv_mono (c := 0) (d := 2147483647) h176 (by decide) (by decide)) (iv_mono (c := 0) (d := 2147483647) h178 (by decide) (by decide))) (h176).1 (ti_inc ez179 h167 (by decide) (by decide) (by decide) (by decide))) (lv_sub hl [0, 1, 2, 3] rfl) (fu_s (lo := 0) (ti_inc ez179 h167 (by decide) (by decide) (by decide) (by decide)) (by decide) hm4)
  exact lp4 9 0 0 _ (iv_mono (c := 0) (d := 8) (iv_c (by decide) : Iv 0 0 0) (by decide) (by decide)) (iv_mono (c := 0) (d := 255) (iv_c (by decide) : Iv 0 0 0) (by decide) (by decide)) (fun w9 a9 b9 _ => absurd b9 (by have z9 : (0 : Int32).toInt = 0 := rfl; omega)) (lv_sub hl [0, 1, 2, 3] rfl) (fu_i (iv_mono (c := 0) (d := 8) (iv_c (by decide) : Iv 0 0 0) (by decide) (by decide)) (by decide))
set_option maxHeartbeats 4000000 in
set_option maxRecDepth 100000 in
theorem m_X10_pullOf (l : Launch) (D : va_G) (k : Nat → ClassId) (a : Nat → Nat) (st : CT) (sl : CL) (p0 : Int32) (p1 : Int32) (sz : Nat) (hB : MB st) (hp1 : Iv 0 7 p1) (hw : WOK (st 1)) : Met l yX10_pullOf (.code yX10_pullOf cX10_pullOf 5 (some .int) :: TB) (rmk 2) (va_Pc [.ref (a 0), .int p0, .int p1] (PW D k sz (MWS k a st sl))) (vp_Si (fun r => (True))) 0 0 (fun _ => False) := by
  refine Met.ofW (cc := cX10_pullOf) (maxL := 5) (ret := (some .int)) (by decide) rfl ?_
  intro p e s m args below meth c s₁ B hml hv
  obtain ⟨rfl, hsz, hP, hK, hD0, hN⟩ := hv
  have hx := B.exec
  have hb := B.bytes
  have hr := B.returns
  have hT : ∀ w9 ∈ TB, w9.before ([.ref (a 0), .int p0, .int p1] : List Value).toArray s = true := fun w9 h => atoms_spec (ws := .code yX10_pullOf cX10_pullOf 5 (some .int) :: TB) B.pre w9 (List.mem_cons_of_mem _ h)
  have hown : s.vm.findClass RX10 = some m.cls := findClass_of_methodNamed B.named
  have S : CallFix p m c cX10_pullOf 5 s _ TB RX10 := ⟨hx, hb, hml, hown, hT⟩
  subst hsz
  have hl := lv_entry ([.ref (a 0), .int p0, .int p1]) (n := 5) (Nat.le_of_ble_eq_true rfl)
  rw [lg_entry_eq]
  generalize (lg_sl ([.ref (a 0), .int p0, .int p1]) ++ List.replicate (5 - (lg_sl ([.ref (a 0), .int p0, .int p1])).length) Slot.unset).toArray = ls at hl ⊢
  have hl : lv_has ls 5 [(0, .ref (a 0)), (1, .int p0), (2, .int p1)] := hl
  refine nameQ (fun Q hQ => ?_)
  refine lv_iconst (v := 0) hx hb dX10_pullOf_0 (by decide) ?_
  refine lv_istore_n (lv' := [(3, .int 0), (0, .ref (a 0)), (1, .int p0), (2, .int p1)]) hx hb dX10_pullOf_1 rfl hl (by decide) rfl (fun ls hl => ?_)
  refine lv_iconst (v := 0) hx hb dX10_pullOf_2 (by decide) ?_
  refine lv_istore (lv' := [(4, .int 0), (3, .int 0), (0, .ref (a 0)), (1, .int p0), (2, .int p1)]) hx hb dX10_pullOf_3 hl (by decide) rfl (fun ls hl => ?_)
  have lp5 : ∀ (n9_5 : Nat) (v4_5 : Int32) (v3_5 : Int32) (ls : Array Slot), Iv 0 8 v4_5 → lv_has ls 5 [(4, .int v4_5), (3, .int v3_5), (0, .ref (a 0)), (1, .int p0), (2, .int p1)] → (8 : Int) - v4_5.toInt < (n9_5 : Int) → W p l e (rmk 2) s m ([.ref (a 0), .int p0, .int p1] : List Value).toArray below meth c s.heap [] 0 0 Q (F0 m 5 ls []) := by
    clear hl
    intro n9_5
    induction n9_5 with
    | zero =>
      intro v4_5 v3_5 ls iv4_5 hl hm5
      exact (fu_0 iv4_5 hm5).elim
    | succ n9_5 ih5 =>
      intro v4_5 v3_5 ls iv4_5 hl hm5
      refine lv_iload hx hb dX10_pullOf_5 (lv_at hl 0 rfl) ?_
      refine lv_aload_n hx hb dX10_pullOf_7 rfl (lv_at hl 2 rfl) ?_
      refine va_get (D := D) (ci := 10) (v := .ref (a 1)) (C := RX10) (T := TX10) (N := 38) hx hb hT in_X10 hown hK hP 0 mw_0 rfl 1 (by decide) (hT _ t1263) (fun _ h9 => h9) rfl dX10_pullOf_8 ?_
      refine lv_iconst (v := 3) hx hb dX10_pullOf_11 (by decide) ?_
      refine va_iald hx hb hK hP 1 0 mw_1 rfl (by unfold vp_in; decide) dX10_pullOf_12 ?_
      refine k_top (y := (st 1 3)) rfl ?_
      have h163 : Iv 0 8 (st 1 3) := (tok_at (hw).1 3 0 8 (by decide) (by decide) (by decide))
      refine lv_icmp_ge (tgt := 44) hx hb dX10_pullOf_13 (by decide) (fun c164 => ?_) (fun c164 => ?_)
      · skip
        have n165 : (st 1 3).toInt ≤ v4_5.toInt := (i_le c164)
        refine lv_iload_n hx hb dX10_pullOf_44 rfl (lv_at hl 1 rfl) ?_
        rw [hQ]
        exact W.iret (v := v3_5) hx hb hr (fun t ht hW => ⟨v3_5, rfl, trivial, ht⟩) (fun _ h9 => by cases h9) dX10_pullOf_45
      · skip
        have n166 : v4_5.toInt < (st 1 3).toInt := (i_nle c164)
        have h167 : Iv 0 7 v4_5 := lt_l iv4_5 n166 h163 (by decide)
        have h168 : Iv 1 8 (st 1 3) := lt_r iv4_5 n166 h163 (by decide)
        refine lv_iload_n hx hb dX10_pullOf_16 rfl (lv_at hl 1 rfl) ?_
        refine lv_iload_n hx hb dX10_pullOf_17 rfl (lv_at hl 3 rfl) ?_
        refine lv_iload hx hb dX10_pullOf_18 (lv_at hl 0 rfl) ?_
        refine ro_S (As := [.int p0, .int v4_5]) (rest := [.int v3_5]) S (m_X10_bit l D k a st sl  p0 v4_5 _  hB  ) lkX10_193 ok_X10_bit ⟨rfl, rfl, Nat.le_of_ble_eq_true rfl, Nat.le_of_ble_eq_true rfl⟩ (pw_S hK hN hP hD0) rfl hl.1 rfl (Nat.le_of_ble_eq_true rfl) ⟨Nat.zero_le _, Nat.zero_le _⟩ dX10_pullOf_20 (fun r169 er169 => ?_)
        have h170 : Iv 0 1 r169 := er169.1
        have k171 := er169.2
        refine lv_aload_n hx hb dX10_pullOf_23 rfl (lv_at hl 2 rfl) ?_
        refine va_get (D := D) (ci := 10) (v := .ref (a 8)) (C := RX10) (T := TX10) (N := 38) hx hb hT in_X10 hown hK hP 0 mw_0 rfl 16 (by decide) (hT _ t1278) (fun _ h9 => h9) rfl dX10_pullOf_24 ?_
        refine lv_bipush (v := 8) hx hb dX10_pullOf_27 (by decide) ?_
        refine lv_iload hx hb dX10_pullOf_29 (lv_at hl 0 rfl) ?_
        refine lv_imul hx hb dX10_pullOf_31 ?_
        refine lv_topi (fun z172 ez172 => ?_)
        have h173 : Iv 0 56 z172 := iv_mull ez172 h167 (k := 8) (by decide) (by decide) (by decide) (by decide) (by decide) (by decide)
        refine lv_iload_n hx hb dX10_pullOf_32 rfl (lv_at hl 4 rfl) ?_
        refine lv_iadd hx hb dX10_pullOf_33 ?_
        refine lv_topi (fun z174 ez174 => ?_)
        have h175 : Iv 0 63 z174 := iv_add ez174 h173 hp1 (by decide) (by decide) (by decide) (by decide)
        refine va_iald hx hb hK hP 8 0 mw_8 rfl (iv_in h175 (by decide) (by decide)) dX10_pullOf_34 ?_
        refine lv_topi (fun z176 ez176 => ?_)
        refine lv_imul hx hb dX10_pullOf_35 ?_
        refine lv_topi (fun z177 ez177 => ?_)
        refine lv_iadd hx hb dX10_pullOf_36 ?_
        refine lv_topi (fun z178 ez178 => ?_)
        refine lv_istore_n (lv' := [(3, .int z178), (4, .int v4_5), (0, .ref (a 0)), (1, .int p0), (2, .int p1)]) hx hb dX10_pullOf_37 rfl hl (by decide) rfl (fun ls hl => ?_)
        obtain ⟨z179, ez179⟩ : ∃ z9 : Int32, z9 = v4_5 + Int32.ofInt 1 := ⟨_, rfl⟩
        have h180 : Iv 1 8 z179 := iv_inc ez179 h167 (by decide) (by decide) (by decide) (by decide) (by decide) (by decide)
        refine lv_iinc (v := z179) (lv' := [(4, .int z179), (3, .int z178), (0, .ref (a 0)), (1, .int p0), (2, .int p1)]) hx hb dX10_pullOf_38 hl (k := 1) rfl ez179.symm (by decide) rfl (fun ls hl => ?_)
        refine lv_goto (tgt := 5) hx hb dX10_pullOf_41 (by decide) ?_
        exact ih5 z179 z178 _ (iv_mono (c := 0) (d := 8) h180 (by decide) (by decide)) (lv_sub hl [0, 1, 2, 3, 4] rfl) (fu_s (lo := 0) (ti_inc ez179 h167 (by decide) (by decide) (by decide) (by decide)) (by decide) hm5)
  exact lp5 9 0 0 _ (iv_mono (c := 0) (d := 8) (iv_c (by decide) : Iv 0 0 0) (by decide) (by decide)) (lv_sub hl [0, 1, 2, 3, 4] rfl) (fu_i (iv_mono (c := 0) (d := 8) (iv_c (by decide) : Iv 0 0 0) (by decide) (by decide)) (by decide))
set_option maxHeartbeats 4000000 in
set_option maxRecDepth 100000 in
theorem m_X10_turnBy (l : Launch) (D : va_G) (k : Nat → ClassId) (a : Nat → Nat) (st : CT) (sl : CL) (p0 : Int32) (p1 : Int32) (p2 : Int32) (p3 : Int32) (sz : Nat) (hB : MB st)  (hw : WOK (st 1)) : Met l yX10_turnBy (.code yX10_turnBy cX10_turnBy 9 (some .int) :: TB) (rmk 3) (va_Pc [.ref (a 0), .int p0, .int p1, .int p2, .int p3] (PW D k sz (MWS k a st sl))) (vp_Si (fun r => Iv (-1) 7 r ∧ (True))) 0 0 (fun _ => False) := by
  refine Met.ofW (cc := cX10_turnBy) (maxL := 9) (ret := (some .int)) (by decide) rfl ?_
  intro p e s m args below meth c s₁ B hml hv
  obtain ⟨rfl, hsz, hP, hK, hD0, hN⟩ := hv
  have hx := B.exec
  have hb := B.bytes
  have hr := B.returns
  have hT : ∀ w9 ∈ TB, w9.before ([.ref (a 0), .int p0, .int p1, .int p2, .int p3] : List Value).toArray s = true := fun w9 h => atoms_spec (ws := .code yX10_turnBy cX10_turnBy 9 (some .int) :: TB) B.pre w9 (List.mem_cons_of_mem _ h)
  have hown : s.vm.findClass RX10 = some m.cls := findClass_of_methodNamed B.named
  have S : CallFix p m c cX10_turnBy 9 s _ TB RX10 := ⟨hx, hb, hml, hown, hT⟩
  subst hsz
  have hl := lv_entry ([.ref (a 0), .int p0, .int p1, .int p2, .int p3]) (n := 9) (Nat.le_of_ble_eq_true rfl)
  rw [lg_entry_eq]
  generalize (lg_sl ([.ref (a 0), .int p0, .int p1, .int p2, .int p3]) ++ List.replicate (9 - (lg_sl ([.ref (a 0), .int p0, .int p1, .int p2, .int p3])).length) Slot.unset).toArray = ls at hl ⊢
  have hl : lv_has ls 9 [(0, .ref (a 0)), (1, .int p0), (2, .int p1), (3, .int p2), (4, .int p3)] := hl
  refine nameQ (fun Q hQ => ?_)
  refine lv_iconst (v := (-1)) hx hb dX10_turnBy_0 (by decide) ?_
  refine lv_istore (lv' := [(5, .int (-1)), (0, .ref (a 0)), (1, .int p0), (2, .int p1), (3, .int p2), (4, .int p3)]) hx hb dX10_turnBy_1 hl (by decide) rfl (fun ls hl => ?_)
  refine lv_iconst (v := (-1)) hx hb dX10_turnBy_3 (by decide) ?_
  refine lv_istore (lv' := [(6, .int (-1)), (5, .int (-1)), (0, .ref (a 0)), (1, .int p0), (2, .int p1), (3, .int p2), (4, .int p3)]) hx hb dX10_turnBy_4 hl (by decide) rfl (fun ls hl => ?_)
  refine lv_iconst (v := 0) hx hb dX10_turnBy_6 (by decide) ?_
  refine lv_istore (lv' := [(7, .int 0), (6, .int (-1)), (5, .int (-1)), (0, .ref (a 0)), (1, .int p0), (2, .int p1), (3, .int p2), (4, .int p3)]) hx hb dX10_turnBy_7 hl (by decide) rfl (fun ls hl => ?_)
  have lp9 : ∀ (n9_9 : Nat) (v7_9 : Int32) (v6_9 : Int32) (v5_9 : Int32) (ls : Array Slot), Iv 0 8 v7_9 → Iv (-1) 2147483647 v6_9 → Iv (-1) 7 v5_9 → lv_has ls 9 [(7, .int v7_9), (6, .int v6_9), (5, .int v5_9), (0, .ref (a 0)), (1, .int p0), (2, .int p1), (3, .int p2), (4, .int p3)] → (8 : Int) - v7_9.toInt < (n9_9 : Int) → W p l e (rmk 3) s m ([.ref (a 0), .int p0, .int p1, .int p2, .int p3] : List Value).toArray below meth c s.heap [] 0 0 Q (F0 m 9 ls []) := by
    clear hl
    intro n9_9
    induction n9_9 with
    | zero =>
      intro v7_9 v6_9 v5_9 ls iv7_9 iv6_9 iv5_9 hl hm9
      exact (fu_0 iv7_9 hm9).elim
    | succ n9_9 ih9 =>
      intro v7_9 v6_9 v5_9 ls iv7_9 iv6_9 iv5_9 hl hm9
      refine lv_iload hx hb dX10_turnBy_9 (lv_at hl 0 rfl) ?_
      refine lv_aload_n hx hb dX10_turnBy_11 rfl (lv_at hl 3 rfl) ?_
      refine va_get (D := D) (ci := 10) (v := .ref (a 1)) (C := RX10) (T := TX10) (N := 38) hx hb hT in_X10 hown hK hP 0 mw_0 rfl 1 (by decide) (hT _ t1263) (fun _ h9 => h9) rfl dX10_turnBy_12 ?_
      refine lv_iconst (v := 2) hx hb dX10_turnBy_15 (by decide) ?_
      refine va_iald hx hb hK hP 1 0 mw_1 rfl (by unfold vp_in; decide) dX10_turnBy_16 ?_
      refine k_top (y := (st 1 2)) rfl ?_
      have h490 : Iv 0 8 (st 1 2) := (tok_at (hw).1 2 0 8 (by decide) (by decide) (by decide))
      refine lv_icmp_ge (tgt := 92) hx hb dX10_turnBy_17 (by decide) (fun c491 => ?_) (fun c491 => ?_)
      · skip
        have n492 : (st 1 2).toInt ≤ v7_9.toInt := (i_le c491)
        refine lv_iload hx hb dX10_turnBy_92 (lv_at hl 2 rfl) ?_
        rw [hQ]
        exact W.iret (v := v5_9) hx hb hr (fun t ht hW => ⟨v5_9, rfl, ⟨iv5_9, trivial⟩, ht⟩) (fun _ h9 => by cases h9) dX10_turnBy_94
      · skip
        have n493 : v7_9.toInt < (st 1 2).toInt := (i_nle c491)
        have h494 : Iv 0 7 v7_9 := lt_l iv7_9 n493 h490 (by decide)
        have h495 : Iv 1 8 (st 1 2) := lt_r iv7_9 n493 h490 (by decide)
        refine lv_aload_n hx hb dX10_turnBy_20 rfl (lv_at hl 3 rfl) ?_
        refine lv_iload hx hb dX10_turnBy_21 (lv_at hl 0 rfl) ?_
        refine lv_iload_n hx hb dX10_turnBy_23 rfl (lv_at hl 5 rfl) ?_
        refine ro_V (As := [.int v7_9, .int p1]) (rest := []) S (m_X10_isOf l D k a st sl  v7_9 p1 _  hB h494 hw) lkX10_93 ok_X10_isOf ⟨rfl, rfl, Nat.le_of_ble_eq_true rfl, Nat.le_of_ble_eq_true rfl⟩ (pw_V (ci := 10) (q0 := 0) hK hN rfl mw_0 hP hD0) rfl hl.1 rfl (Nat.le_of_ble_eq_true rfl) ⟨Nat.zero_le _, Nat.zero_le _⟩ dX10_turnBy_24 (fun r496 er496 => ?_)
        rcases er496 with ⟨rfl, g9⟩ | ⟨rfl, g9⟩
        · skip
          have g497 := g9
          have h498 : Iv 0 5 p1 := g497.1
          have k499 := g497.2
          refine lv_if_ne (tgt := 33) hx hb dX10_turnBy_27 (by decide) (fun c500 => ?_) (fun c500 => ?_)
          rotate_left
          · first | exact absurd c500 (by decide) | exact absurd (by decide) c500
          refine lv_aload_n hx hb dX10_turnBy_33 rfl (lv_at hl 3 rfl) ?_
          refine lv_iload_n hx hb dX10_turnBy_34 rfl (lv_at hl 4 rfl) ?_
          refine lv_iload hx hb dX10_turnBy_35 (lv_at hl 0 rfl) ?_
          refine ro_V (As := [.int p0, .int v7_9]) (rest := []) S (m_X10_pullOf l D k a st sl  p0 v7_9 _  hB h494 hw) lkX10_243 ok_X10_pullOf ⟨rfl, rfl, Nat.le_of_ble_eq_true rfl, Nat.le_of_ble_eq_true rfl⟩ (pw_V (ci := 10) (q0 := 0) hK hN rfl mw_0 hP hD0) rfl hl.1 rfl (Nat.le_of_ble_eq_true rfl) ⟨Nat.zero_le _, Nat.zero_le _⟩ dX10_turnBy_37 (fun r501 er501 => ?_)
          refine lv_iload hx hb dX10_turnBy_40 (lv_at hl 0 rfl) ?_
          refine lv_iload_n hx hb dX10_turnBy_42 rfl (lv_at hl 6 rfl) ?_
          refine lv_icmp_ne (tgt := 51) hx hb dX10_turnBy_43 (by decide) (fun c502 => ?_) (fun c502 => ?_)
          · skip
            refine lv_iconst (v := 0) hx hb dX10_turnBy_51 (by decide) ?_
            refine lv_iadd hx hb dX10_turnBy_52 ?_
            refine lv_topi (fun z503 ez503 => ?_)
            refine lv_istore (lv' := [(8, .int z503), (7, .int v7_9), (6, .int v6_9), (5, .int v5_9), (0, .ref (a 0)), (1, .int p0), (2, .int p1), (3, .int p2), (4, .int p3)]) hx hb dX10_turnBy_53 hl (by decide) rfl (fun ls hl => ?_)
            refine lv_iload hx hb dX10_turnBy_55 (lv_at hl 0 rfl) ?_
            refine lv_iload hx hb dX10_turnBy_57 (lv_at hl 2 rfl) ?_
            refine lv_icmp_lt (tgt := 86) hx hb dX10_turnBy_59 (by decide) (fun c504 => ?_) (fun c504 => ?_)
            · skip
              have n505 : z503.toInt < v6_9.toInt := (i_lt c504)
              have h506 : Iv (-2147483648) 2147483646 z503 := lt_l (iv_full z503) n505 iv6_9 (by decide)
              have h507 : Iv (-2147483648) 2147483646 r501 := (by have e9 := ti_add ez503 (iv_full r501) (iv_c (by decide) : Iv 0 0 0) (by decide) (by decide); obtain ⟨y1, y2⟩ := id (h506); obtain ⟨y3, y4⟩ := id ((iv_full r501)); have y5 : (0 : Int32).toInt = 0 := rfl; exact ⟨by omega, by omega⟩)
              obtain ⟨z508, ez508⟩ : ∃ z9 : Int32, z9 = v7_9 + Int32.ofInt 1 := ⟨_, rfl⟩
              have h509 : Iv 1 8 z508 := iv_inc ez508 h494 (by decide) (by decide) (by decide) (by decide) (by decide) (by decide)
              refine lv_iinc (v := z508) (lv' := [(7, .int z508), (8, .int z503), (6, .int v6_9), (5, .int v5_9), (0, .ref (a 0)), (1, .int p0), (2, .int p1), (3, .int p2), (4, .int p3)]) hx hb dX10_turnBy_86 hl (k := 1) rfl ez508.symm (by decide) rfl (fun ls hl => ?_)
              refine lv_goto (tgt := 9) hx hb dX10_turnBy_89 (by decide) ?_
              exact ih9 z508 v6_9 v5_9 _ (iv_mono (c := 0) (d := 8) h509 (by decide) (by decide)) iv6_9 iv5_9 (lv_sub hl [0, 2, 3, 4, 5, 6, 7, 8] rfl) (fu_s (lo := 0) (ti_inc ez508 h494 (by decide) (by decide) (by decide) (by decide)) (by decide) hm9)
            · skip
              have n510 : v6_9.toInt ≤ z503.toInt := (i_nlt c504)
              have h511 : Iv (-1) 2147483647 z503 := le_r iv6_9 n510 (iv_full z503) (by decide)
              have h512 : Iv (-1) 2147483647 r501 := (by have e9 := ti_add ez503 (iv_full r501) (iv_c (by decide) : Iv 0 0 0) (by decide) (by decide); obtain ⟨y1, y2⟩ := id (h511); obtain ⟨y3, y4⟩ := id ((iv_full r501)); have y5 : (0 : Int32).toInt = 0 := rfl; exact ⟨by omega, by omega⟩)
              refine lv_iload hx hb dX10_turnBy_62 (lv_at hl 0 rfl) ?_
              refine lv_iload hx hb dX10_turnBy_64 (lv_at hl 2 rfl) ?_
              refine lv_icmp_ne (tgt := 78) hx hb dX10_turnBy_66 (by decide) (fun c513 => ?_) (fun c513 => ?_)
              · skip
                refine lv_iload hx hb dX10_turnBy_78 (lv_at hl 0 rfl) ?_
                refine lv_istore (lv' := [(6, .int z503), (8, .int z503), (7, .int v7_9), (5, .int v5_9), (0, .ref (a 0)), (1, .int p0), (2, .int p1), (3, .int p2), (4, .int p3)]) hx hb dX10_turnBy_80 hl (by decide) rfl (fun ls hl => ?_)
                refine lv_iload hx hb dX10_turnBy_82 (lv_at hl 2 rfl) ?_
                refine lv_istore (lv' := [(5, .int v7_9), (6, .int z503), (8, .int z503), (7, .int v7_9), (0, .ref (a 0)), (1, .int p0), (2, .int p1), (3, .int p2), (4, .int p3)]) hx hb dX10_turnBy_84 hl (by decide) rfl (fun ls hl => ?_)
                obtain ⟨z514, ez514⟩ : ∃ z9 : Int32, z9 = v7_9 + Int32.ofInt 1 := ⟨_, rfl⟩
                have h515 : Iv 1 8 z514 := iv_inc ez514 h494 (by decide) (by decide) (by decide) (by decide) (by decide) (by decide)
                refine lv_iinc (v := z514) (lv' := [(7, .int z514), (5, .int v7_9), (6, .int z503), (8, .int z503), (0, .ref (a 0)), (1, .int p0), (2, .int p1), (3, .int p2), (4, .int p3)]) hx hb dX10_turnBy_86 hl (k := 3) rfl ez514.symm (by decide) rfl (fun ls hl => ?_)
                refine lv_goto (tgt := 9) hx hb dX10_turnBy_89 (by decide) ?_
                exact ih9 z514 z503 v7_9 _ (iv_mono (c := 0) (d := 8) h515 (by decide) (by decide)) h511 (iv_mono (c := (-1)) (d := 7) h494 (by decide) (by decide)) (lv_sub hl [0, 2, 1, 4, 5, 6, 7, 8] rfl) (fu_s (lo := 0) (ti_inc ez514 h494 (by decide) (by decide) (by decide) (by decide)) (by decide) hm9)
              · skip
                refine lv_iload hx hb dX10_turnBy_69 (lv_at hl 1 rfl) ?_
                refine lv_iload_n hx hb dX10_turnBy_71 rfl (lv_at hl 7 rfl) ?_
                refine lv_icmp_eq (tgt := 78) hx hb dX10_turnBy_72 (by decide) (fun c516 => ?_) (fun c516 => ?_)
                · skip
                  have h517 : Iv 0 7 p2 := eq_l c516.symm h494
                  refine lv_iload hx hb dX10_turnBy_78 (lv_at hl 0 rfl) ?_
                  refine lv_istore (lv' := [(6, .int z503), (8, .int z503), (7, .int v7_9), (5, .int v5_9), (0, .ref (a 0)), (1, .int p0), (2, .int p1), (3, .int p2), (4, .int p3)]) hx hb dX10_turnBy_80 hl (by decide) rfl (fun ls hl => ?_)
                  refine lv_iload hx hb dX10_turnBy_82 (lv_at hl 2 rfl) ?_
                  refine lv_istore (lv' := [(5, .int v7_9), (6, .int z503), (8, .int z503), (7, .int v7_9), (0, .ref (a 0)), (1, .int p0), (2, .int p1), (3, .int p2), (4, .int p3)]) hx hb dX10_turnBy_84 hl (by decide) rfl (fun ls hl => ?_)
                  obtain ⟨z518, ez518⟩ : ∃ z9 : Int32, z9 = v7_9 + Int32.ofInt 1 := ⟨_, rfl⟩
                  have h519 : Iv 1 8 z518 := iv_inc ez518 h494 (by decide) (by decide) (by decide) (by decide) (by decide) (by decide)
                  refine lv_iinc (v := z518) (lv' := [(7, .int z518), (5, .int v7_9), (6, .int z503), (8, .int z503), (0, .ref (a 0)), (1, .int p0), (2, .int p1), (3, .int p2), (4, .int p3)]) hx hb dX10_turnBy_86 hl (k := 3) rfl ez518.symm (by decide) rfl (fun ls hl => ?_)
                  refine lv_goto (tgt := 9) hx hb dX10_turnBy_89 (by decide) ?_
                  exact ih9 z518 z503 v7_9 _ (iv_mono (c := 0) (d := 8) h519 (by decide) (by decide)) h511 (iv_mono (c := (-1)) (d := 7) h494 (by decide) (by decide)) (lv_sub hl [0, 2, 1, 4, 5, 6, 7, 8] rfl) (fu_s (lo := 0) (ti_inc ez518 h494 (by decide) (by decide) (by decide) (by decide)) (by decide) hm9)
                · skip
                  refine lv_goto (tgt := 86) hx hb dX10_turnBy_75 (by decide) ?_
                  obtain ⟨z520, ez520⟩ : ∃ z9 : Int32, z9 = v7_9 + Int32.ofInt 1 := ⟨_, rfl⟩
                  have h521 : Iv 1 8 z520 := iv_inc ez520 h494 (by decide) (by decide) (by decide) (by decide) (by decide) (by decide)
                  refine lv_iinc (v := z520) (lv' := [(7, .int z520), (8, .int z503), (6, .int v6_9), (5, .int v5_9), (0, .ref (a 0)), (1, .int p0), (2, .int p1), (3, .int p2), (4, .int p3)]) hx hb dX10_turnBy_86 hl (k := 1) rfl ez520.symm (by decide) rfl (fun ls hl => ?_)
                  refine lv_goto (tgt := 9) hx hb dX10_turnBy_89 (by decide) ?_
                  exact ih9 z520 v6_9 v5_9 _ (iv_mono (c := 0) (d := 8) h521 (by decide) (by decide)) iv6_9 iv5_9 (lv_sub hl [0, 2, 3, 4, 5, 6, 7, 8] rfl) (fu_s (lo := 0) (ti_inc ez520 h494 (by decide) (by decide) (by decide) (by decide)) (by decide) hm9)
          · skip
            have h522 : Iv 0 7 p2 := eq_l c502.symm h494
            refine lv_iload hx hb dX10_turnBy_46 (lv_at hl 7 rfl) ?_
            refine lv_goto (tgt := 52) hx hb dX10_turnBy_48 (by decide) ?_
            refine lv_iadd hx hb dX10_turnBy_52 ?_
            refine lv_topi (fun z523 ez523 => ?_)
            refine lv_istore (lv' := [(8, .int z523), (7, .int v7_9), (6, .int v6_9), (5, .int v5_9), (0, .ref (a 0)), (1, .int p0), (2, .int p1), (3, .int p2), (4, .int p3)]) hx hb dX10_turnBy_53 hl (by decide) rfl (fun ls hl => ?_)
            refine lv_iload hx hb dX10_turnBy_55 (lv_at hl 0 rfl) ?_
            refine lv_iload hx hb dX10_turnBy_57 (lv_at hl 2 rfl) ?_
            refine lv_icmp_lt (tgt := 86) hx hb dX10_turnBy_59 (by decide) (fun c524 => ?_) (fun c524 => ?_)
            · skip
              have n525 : z523.toInt < v6_9.toInt := (i_lt c524)
              have h526 : Iv (-2147483648) 2147483646 z523 := lt_l (iv_full z523) n525 iv6_9 (by decide)
              obtain ⟨z527, ez527⟩ : ∃ z9 : Int32, z9 = v7_9 + Int32.ofInt 1 := ⟨_, rfl⟩
              have h528 : Iv 1 8 z527 := iv_inc ez527 h494 (by decide) (by decide) (by decide) (by decide) (by decide) (by decide)
              refine lv_iinc (v := z527) (lv' := [(7, .int z527), (8, .int z523), (6, .int v6_9), (5, .int v5_9), (0, .ref (a 0)), (1, .int p0), (2, .int p1), (3, .int p2), (4, .int p3)]) hx hb dX10_turnBy_86 hl (k := 1) rfl ez527.symm (by decide) rfl (fun ls hl => ?_)
              refine lv_goto (tgt := 9) hx hb dX10_turnBy_89 (by decide) ?_
              exact ih9 z527 v6_9 v5_9 _ (iv_mono (c := 0) (d := 8) h528 (by decide) (by decide)) iv6_9 iv5_9 (lv_sub hl [0, 2, 3, 4, 5, 6, 7, 8] rfl) (fu_s (lo := 0) (ti_inc ez527 h494 (by decide) (by decide) (by decide) (by decide)) (by decide) hm9)
            · skip
              have n529 : v6_9.toInt ≤ z523.toInt := (i_nlt c524)
              have h530 : Iv (-1) 2147483647 z523 := le_r iv6_9 n529 (iv_full z523) (by decide)
              refine lv_iload hx hb dX10_turnBy_62 (lv_at hl 0 rfl) ?_
              refine lv_iload hx hb dX10_turnBy_64 (lv_at hl 2 rfl) ?_
              refine lv_icmp_ne (tgt := 78) hx hb dX10_turnBy_66 (by decide) (fun c531 => ?_) (fun c531 => ?_)
              · skip
                refine lv_iload hx hb dX10_turnBy_78 (lv_at hl 0 rfl) ?_
                refine lv_istore (lv' := [(6, .int z523), (8, .int z523), (7, .int v7_9), (5, .int v5_9), (0, .ref (a 0)), (1, .int p0), (2, .int p1), (3, .int p2), (4, .int p3)]) hx hb dX10_turnBy_80 hl (by decide) rfl (fun ls hl => ?_)
                refine lv_iload hx hb dX10_turnBy_82 (lv_at hl 2 rfl) ?_
                refine lv_istore (lv' := [(5, .int v7_9), (6, .int z523), (8, .int z523), (7, .int v7_9), (0, .ref (a 0)), (1, .int p0), (2, .int p1), (3, .int p2), (4, .int p3)]) hx hb dX10_turnBy_84 hl (by decide) rfl (fun ls hl => ?_)
                obtain ⟨z532, ez532⟩ : ∃ z9 : Int32, z9 = v7_9 + Int32.ofInt 1 := ⟨_, rfl⟩
                have h533 : Iv 1 8 z532 := iv_inc ez532 h494 (by decide) (by decide) (by decide) (by decide) (by decide) (by decide)
                refine lv_iinc (v := z532) (lv' := [(7, .int z532), (5, .int v7_9), (6, .int z523), (8, .int z523), (0, .ref (a 0)), (1, .int p0), (2, .int p1), (3, .int p2), (4, .int p3)]) hx hb dX10_turnBy_86 hl (k := 3) rfl ez532.symm (by decide) rfl (fun ls hl => ?_)
                refine lv_goto (tgt := 9) hx hb dX10_turnBy_89 (by decide) ?_
                exact ih9 z532 z523 v7_9 _ (iv_mono (c := 0) (d := 8) h533 (by decide) (by decide)) h530 (iv_mono (c := (-1)) (d := 7) h494 (by decide) (by decide)) (lv_sub hl [0, 2, 1, 4, 5, 6, 7, 8] rfl) (fu_s (lo := 0) (ti_inc ez532 h494 (by decide) (by decide) (by decide) (by decide)) (by decide) hm9)
              · skip
                refine lv_iload hx hb dX10_turnBy_69 (lv_at hl 1 rfl) ?_
                refine lv_iload_n hx hb dX10_turnBy_71 rfl (lv_at hl 7 rfl) ?_
                refine lv_icmp_eq (tgt := 78) hx hb dX10_turnBy_72 (by decide) (fun c534 => ?_) (fun c534 => ?_)
                · skip
                  refine lv_iload hx hb dX10_turnBy_78 (lv_at hl 0 rfl) ?_
                  refine lv_istore (lv' := [(6, .int z523), (8, .int z523), (7, .int v7_9), (5, .int v5_9), (0, .ref (a 0)), (1, .int p0), (2, .int p1), (3, .int p2), (4, .int p3)]) hx hb dX10_turnBy_80 hl (by decide) rfl (fun ls hl => ?_)
                  refine lv_iload hx hb dX10_turnBy_82 (lv_at hl 2 rfl) ?_
                  refine lv_istore (lv' := [(5, .int v7_9), (6, .int z523), (8, .int z523), (7, .int v7_9), (0, .ref (a 0)), (1, .int p0), (2, .int p1), (3, .int p2), (4, .int p3)]) hx hb dX10_turnBy_84 hl (by decide) rfl (fun ls hl => ?_)
                  obtain ⟨z535, ez535⟩ : ∃ z9 : Int32, z9 = v7_9 + Int32.ofInt 1 := ⟨_, rfl⟩
                  have h536 : Iv 1 8 z535 := iv_inc ez535 h494 (by decide) (by decide) (by decide) (by decide) (by decide) (by decide)
                  refine lv_iinc (v := z535) (lv' := [(7, .int z535), (5, .int v7_9), (6, .int z523), (8, .int z523), (0, .ref (a 0)), (1, .int p0), (2, .int p1), (3, .int p2), (4, .int p3)]) hx hb dX10_turnBy_86 hl (k := 3) rfl ez535.symm (by decide) rfl (fun ls hl => ?_)
                  refine lv_goto (tgt := 9) hx hb dX10_turnBy_89 (by decide) ?_
                  exact ih9 z535 z523 v7_9 _ (iv_mono (c := 0) (d := 8) h536 (by decide) (by decide)) h530 (iv_mono (c := (-1)) (d := 7) h494 (by decide) (by decide)) (lv_sub hl [0, 2, 1, 4, 5, 6, 7, 8] rfl) (fu_s (lo := 0) (ti_inc ez535 h494 (by decide) (by decide) (by decide) (by decide)) (by decide) hm9)
                · skip
                  refine lv_goto (tgt := 86) hx hb dX10_turnBy_75 (by decide) ?_
                  obtain ⟨z537, ez537⟩ : ∃ z9 : Int32, z9 = v7_9 + Int32.ofInt 1 := ⟨_, rfl⟩
                  have h538 : Iv 1 8 z537 := iv_inc ez537 h494 (by decide) (by decide) (by decide) (by decide) (by decide) (by decide)
                  refine lv_iinc (v := z537) (lv' := [(7, .int z537), (8, .int z523), (6, .int v6_9), (5, .int v5_9), (0, .ref (a 0)), (1, .int p0), (2, .int p1), (3, .int p2), (4, .int p3)]) hx hb dX10_turnBy_86 hl (k := 1) rfl ez537.symm (by decide) rfl (fun ls hl => ?_)
                  refine lv_goto (tgt := 9) hx hb dX10_turnBy_89 (by decide) ?_
                  exact ih9 z537 v6_9 v5_9 _ (iv_mono (c := 0) (d := 8) h538 (by decide) (by decide)) iv6_9 iv5_9 (lv_sub hl [0, 2, 3, 4, 5, 6, 7, 8] rfl) (fu_s (lo := 0) (ti_inc ez537 h494 (by decide) (by decide) (by decide) (by decide)) (by decide) hm9)
        · skip
          have g539 := g9
          have k540 := g539
          refine lv_if_ne (tgt := 33) hx hb dX10_turnBy_27 (by decide) (fun c541 => ?_) (fun c541 => ?_)
          · first | exact absurd c541 (by decide) | exact absurd (by decide) c541
          refine lv_goto (tgt := 86) hx hb dX10_turnBy_30 (by decide) ?_
          obtain ⟨z542, ez542⟩ : ∃ z9 : Int32, z9 = v7_9 + Int32.ofInt 1 := ⟨_, rfl⟩
          have h543 : Iv 1 8 z542 := iv_inc ez542 h494 (by decide) (by decide) (by decide) (by decide) (by decide) (by decide)
          refine lv_iinc (v := z542) (lv' := [(7, .int z542), (6, .int v6_9), (5, .int v5_9), (0, .ref (a 0)), (1, .int p0), (2, .int p1), (3, .int p2), (4, .int p3)]) hx hb dX10_turnBy_86 hl (k := 0) rfl ez542.symm (by decide) rfl (fun ls hl => ?_)
          refine lv_goto (tgt := 9) hx hb dX10_turnBy_89 (by decide) ?_
          exact ih9 z542 v6_9 v5_9 _ (iv_mono (c := 0) (d := 8) h543 (by decide) (by decide)) iv6_9 iv5_9 (lv_sub hl [0, 1, 2, 3, 4, 5, 6, 7] rfl) (fu_s (lo := 0) (ti_inc ez542 h494 (by decide) (by decide) (by decide) (by decide)) (by decide) hm9)
  exact lp9 9 0 (-1) (-1) _ (iv_mono (c := 0) (d := 8) (iv_c (by decide) : Iv 0 0 0) (by decide) (by decide)) (iv_mono (c := (-1)) (d := 2147483647) (iv_c (by decide) : Iv (-1) (-1) (-1)) (by decide) (by decide)) (iv_mono (c := (-1)) (d := 7) (iv_c (by decide) : Iv (-1) (-1) (-1)) (by decide) (by decide)) (lv_sub hl [0, 1, 2, 3, 4, 5, 6, 7] rfl) (fu_i (iv_mono (c := 0) (d := 8) (iv_c (by decide) : Iv 0 0 0) (by decide) (by decide)) (by decide))
set_option maxHeartbeats 4000000 in
set_option maxRecDepth 100000 in
theorem m_X10_turnOf (l : Launch) (D : va_G) (k : Nat → ClassId) (a : Nat → Nat) (st : CT) (sl : CL) (p0 : Int32) (p1 : Int32) (sz : Nat) (hB : MB st) (hp0 : Iv 0 2 p0) (hw : WOK (st 1)) : Met l yX10_turnOf (.code yX10_turnOf cX10_turnOf 3 (some .int) :: TB) (rmk 4) (va_Pc [.ref (a 0), .int p0, .int p1] (PW D k sz (MWS k a st sl))) (vp_Si (fun r => Iv (-1) 7 r ∧ (True))) 0 0 (fun _ => False) := by
  refine Met.ofW (cc := cX10_turnOf) (maxL := 3) (ret := (some .int)) (by decide) rfl ?_
  intro p e s m args below meth c s₁ B hml hv
  obtain ⟨rfl, hsz, hP, hK, hD0, hN⟩ := hv
  have hx := B.exec
  have hb := B.bytes
  have hr := B.returns
  have hT : ∀ w9 ∈ TB, w9.before ([.ref (a 0), .int p0, .int p1] : List Value).toArray s = true := fun w9 h => atoms_spec (ws := .code yX10_turnOf cX10_turnOf 3 (some .int) :: TB) B.pre w9 (List.mem_cons_of_mem _ h)
  have hown : s.vm.findClass RX10 = some m.cls := findClass_of_methodNamed B.named
  have S : CallFix p m c cX10_turnOf 3 s _ TB RX10 := ⟨hx, hb, hml, hown, hT⟩
  subst hsz
  have hl := lv_entry ([.ref (a 0), .int p0, .int p1]) (n := 3) (Nat.le_of_ble_eq_true rfl)
  rw [lg_entry_eq]
  generalize (lg_sl ([.ref (a 0), .int p0, .int p1]) ++ List.replicate (3 - (lg_sl ([.ref (a 0), .int p0, .int p1])).length) Slot.unset).toArray = ls at hl ⊢
  have hl : lv_has ls 3 [(0, .ref (a 0)), (1, .int p0), (2, .int p1)] := hl
  refine nameQ (fun Q hQ => ?_)
  refine lv_aload_n hx hb dX10_turnOf_0 rfl (lv_at hl 0 rfl) ?_
  refine lv_aload_n hx hb dX10_turnOf_1 rfl (lv_at hl 0 rfl) ?_
  refine lv_iload_n hx hb dX10_turnOf_2 rfl (lv_at hl 1 rfl) ?_
  refine ro_V (As := [.int p0]) (rest := [.ref (a 0)]) S (m_X10_wheelsOf l D k a st sl  p0 _  hB  hw) lkX10_246 ok_X10_wheelsOf ⟨rfl, rfl, Nat.le_of_ble_eq_true rfl, Nat.le_of_ble_eq_true rfl⟩ (pw_V (ci := 10) (q0 := 0) hK hN rfl mw_0 hP hD0) rfl hl.1 rfl (Nat.le_of_ble_eq_true rfl) ⟨Nat.zero_le _, Nat.zero_le _⟩ dX10_turnOf_3 (fun r1 er1 => ?_)
  have h2 : Iv 0 255 r1 := er1.1
  have k3 := er1.2
  refine lv_aload_n hx hb dX10_turnOf_6 rfl (lv_at hl 0 rfl) ?_
  refine va_get (D := D) (ci := 10) (v := .ref (a 10)) (C := RX10) (T := TX10) (N := 38) hx hb hT in_X10 hown hK hP 0 mw_0 rfl 18 (by decide) (hT _ t1280) (fun _ h9 => h9) rfl dX10_turnOf_7 ?_
  refine lv_iload_n hx hb dX10_turnOf_10 rfl (lv_at hl 1 rfl) ?_
  refine va_iald hx hb hK hP 10 0 mw_10 rfl (iv_in hp0 (by decide) (by decide)) dX10_turnOf_11 ?_
  refine lv_topi (fun z4 ez4 => ?_)
  refine lv_iload_n hx hb dX10_turnOf_12 rfl (lv_at hl 2 rfl) ?_
  refine lv_aload_n hx hb dX10_turnOf_13 rfl (lv_at hl 0 rfl) ?_
  refine va_get (D := D) (ci := 10) (v := .ref (a 1)) (C := RX10) (T := TX10) (N := 38) hx hb hT in_X10 hown hK hP 0 mw_0 rfl 1 (by decide) (hT _ t1263) (fun _ h9 => h9) rfl dX10_turnOf_14 ?_
  refine lv_iconst (v := 1) hx hb dX10_turnOf_17 (by decide) ?_
  refine va_iald hx hb hK hP 1 0 mw_1 rfl (by unfold vp_in; decide) dX10_turnOf_18 ?_
  refine k_top (y := (st 1 1)) rfl ?_
  refine ro_V (As := [.int r1, .int z4, .int p1, .int (st 1 1)]) (rest := []) S (m_X10_turnBy l D k a st sl  r1 z4 p1 (st 1 1) _  hB  hw) lkX10_249 ok_X10_turnBy ⟨rfl, rfl, Nat.le_of_ble_eq_true rfl, Nat.le_of_ble_eq_true rfl⟩ (pw_V (ci := 10) (q0 := 0) hK hN rfl mw_0 hP hD0) rfl hl.1 rfl (Nat.le_of_ble_eq_true rfl) ⟨Nat.zero_le _, Nat.zero_le _⟩ dX10_turnOf_19 (fun r5 er5 => ?_)
  have h6 : Iv (-1) 7 r5 := er5.1
  rw [hQ]
  exact W.iret (v := r5) hx hb hr (fun t ht hW => ⟨r5, rfl, ⟨h6, trivial⟩, ht⟩) (fun _ h9 => by cases h9) dX10_turnOf_22
set_option maxHeartbeats 4000000 in
set_option maxRecDepth 100000 in
theorem m_X10_aloneIn (l : Launch) (D : va_G) (k : Nat → ClassId) (a : Nat → Nat) (st : CT) (sl : CL) (p0 : Int32) (p1 : Int32) (sz : Nat) (hB : MB st)  (hw : WOK (st 1)) : Met l yX10_aloneIn (.code yX10_aloneIn cX10_aloneIn 3 (some .int) :: TB) (rmk 4) (va_Pc [.ref (a 0), .int p0, .int p1] (PW D k sz (MWS k a st sl))) (vp_Si (fun r => Iv (-1) 7 r ∧ (True))) 0 0 (fun _ => False) := by
  refine Met.ofW (cc := cX10_aloneIn) (maxL := 3) (ret := (some .int)) (by decide) rfl ?_
  intro p e s m args below meth c s₁ B hml hv
  obtain ⟨rfl, hsz, hP, hK, hD0, hN⟩ := hv
  have hx := B.exec
  have hb := B.bytes
  have hr := B.returns
  have hT : ∀ w9 ∈ TB, w9.before ([.ref (a 0), .int p0, .int p1] : List Value).toArray s = true := fun w9 h => atoms_spec (ws := .code yX10_aloneIn cX10_aloneIn 3 (some .int) :: TB) B.pre w9 (List.mem_cons_of_mem _ h)
  have hown : s.vm.findClass RX10 = some m.cls := findClass_of_methodNamed B.named
  have S : CallFix p m c cX10_aloneIn 3 s _ TB RX10 := ⟨hx, hb, hml, hown, hT⟩
  subst hsz
  have hl := lv_entry ([.ref (a 0), .int p0, .int p1]) (n := 3) (Nat.le_of_ble_eq_true rfl)
  rw [lg_entry_eq]
  generalize (lg_sl ([.ref (a 0), .int p0, .int p1]) ++ List.replicate (3 - (lg_sl ([.ref (a 0), .int p0, .int p1])).length) Slot.unset).toArray = ls at hl ⊢
  have hl : lv_has ls 3 [(0, .ref (a 0)), (1, .int p0), (2, .int p1)] := hl
  refine nameQ (fun Q hQ => ?_)
  refine lv_aload_n hx hb dX10_aloneIn_0 rfl (lv_at hl 0 rfl) ?_
  refine lv_iconst (v := 1) hx hb dX10_aloneIn_1 (by decide) ?_
  refine lv_iload_n hx hb dX10_aloneIn_2 rfl (lv_at hl 1 rfl) ?_
  refine lv_ishl hx hb dX10_aloneIn_3 ?_
  refine lv_topi (fun z1 ez1 => ?_)
  refine lv_iload_n hx hb dX10_aloneIn_4 rfl (lv_at hl 2 rfl) ?_
  refine lv_iconst (v := (-1)) hx hb dX10_aloneIn_5 (by decide) ?_
  refine lv_iconst (v := 0) hx hb dX10_aloneIn_6 (by decide) ?_
  refine ro_V (As := [.int z1, .int p1, .int (-1), .int 0]) (rest := []) S (m_X10_turnBy l D k a st sl  z1 p1 (-1) 0 _  hB  hw) lkX10_249 ok_X10_turnBy ⟨rfl, rfl, Nat.le_of_ble_eq_true rfl, Nat.le_of_ble_eq_true rfl⟩ (pw_V (ci := 10) (q0 := 0) hK hN rfl mw_0 hP hD0) rfl hl.1 rfl (Nat.le_of_ble_eq_true rfl) ⟨Nat.zero_le _, Nat.zero_le _⟩ dX10_aloneIn_7 (fun r2 er2 => ?_)
  have h3 : Iv (-1) 7 r2 := er2.1
  rw [hQ]
  exact W.iret (v := r2) hx hb hr (fun t ht hW => ⟨r2, rfl, ⟨h3, trivial⟩, ht⟩) (fun _ h9 => by cases h9) dX10_aloneIn_10
set_option maxHeartbeats 4000000 in
set_option maxRecDepth 100000 in
theorem m_X10_forget (l : Launch) (D : va_G) (k : Nat → ClassId) (a : Nat → Nat) (st : CT) (sl : CL) (p0 : Int32) (sz : Nat) (hB : MB st) (hp0 : Iv 0 7 p0) : Met l yX10_forget (.code yX10_forget cX10_forget 3 none :: TB) (rmw 1 0 0) (va_Pc [.ref (a 0), .int p0] (PW D k sz (MWS k a st sl))) (QV D (S := CT) (fun u => MB u ∧ FR [8] st u ∧ (True)) (fun u => MWS k a u sl) (fun _ => []) (MWS k a st sl) sz) 0 0 (va_A (MWS k a st sl) sz) := by
  refine Met.ofW (cc := cX10_forget) (maxL := 3) (ret := none) (by decide) rfl ?_
  intro p e s m args below meth c s₁ B hml hv
  obtain ⟨rfl, hsz, hP, hK, hD0, hN⟩ := hv
  have hx := B.exec
  have hb := B.bytes
  have hr := B.returns
  have hT : ∀ w9 ∈ TB, w9.before ([.ref (a 0), .int p0] : List Value).toArray s = true := fun w9 h => atoms_spec (ws := .code yX10_forget cX10_forget 3 none :: TB) B.pre w9 (List.mem_cons_of_mem _ h)
  have hown : s.vm.findClass RX10 = some m.cls := findClass_of_methodNamed B.named
  have S : CallFix p m c cX10_forget 3 s _ TB RX10 := ⟨hx, hb, hml, hown, hT⟩
  subst hsz
  have hD := hD0.self (sz := s.heap.size)
  generalize hAe : va_A (MWS k a st sl) s.heap.size = A at hD ⊢
  have hA : ∀ q : Nat, s.heap.size ≤ q → A q := fun q h => by rw [← hAe]; exact Or.inr h
  have hS : va_S A s.heap s.heap [] := va_S.rf
  have hl := lv_entry ([.ref (a 0), .int p0]) (n := 3) (Nat.le_of_ble_eq_true rfl)
  rw [lg_entry_eq]
  generalize (lg_sl ([.ref (a 0), .int p0]) ++ List.replicate (3 - (lg_sl ([.ref (a 0), .int p0])).length) Slot.unset).toArray = ls at hl ⊢
  have hl : lv_has ls 3 [(0, .ref (a 0)), (1, .int p0)] := hl
  refine nameQ (fun Q hQ => ?_)
  refine lv_iconst (v := 0) hx hb dX10_forget_0 (by decide) ?_
  refine lv_istore_n (lv' := [(2, .int 0), (0, .ref (a 0)), (1, .int p0)]) hx hb dX10_forget_1 rfl hl (by decide) rfl (fun ls hl => ?_)
  have lp2 : ∀ (n9_2 : Nat) (v2_2 : Int32) (t2 : CT) (H9 : Heap) (locs9 : List Loc) (ls : Array Slot), Iv 0 8 v2_2 → MB t2 → FR [8] st t2 → va_P D vwCl (MWS k a t2 sl) H9 → va_D A (MWS k a t2 sl) → va_S A s.heap H9 locs9 → lv_has ls 3 [(2, .int v2_2), (0, .ref (a 0)), (1, .int p0)] → (8 : Int) - v2_2.toInt < (n9_2 : Int) → W p l e (rmw 1 0 0) s m ([.ref (a 0), .int p0] : List Value).toArray below meth c H9 locs9 0 0 Q (F0 m 2 ls []) := by
    clear hl hP hD hS
    intro n9_2
    induction n9_2 with
    | zero =>
      intro v2_2 t2 H9 locs9 ls iv2_2 hBt2 gt2 hP hD hS hl hm2
      exact (fu_0 iv2_2 hm2).elim
    | succ n9_2 ih2 =>
      intro v2_2 t2 H9 locs9 ls iv2_2 hBt2 gt2 hP hD hS hl hm2
      have hFt2 : FR [8] st t2 := fr_ca fr_rf gt2 (sub_1 (List.mem_of_getElem? (i := 0) rfl) sub_0)
      refine lv_iload_n hx hb dX10_forget_2 rfl (lv_at hl 0 rfl) ?_
      refine lv_bipush (v := 8) hx hb dX10_forget_3 (by decide) ?_
      refine lv_icmp_ge (tgt := 26) hx hb dX10_forget_5 (by decide) (fun c93 => ?_) (fun c93 => ?_)
      · skip
        have n94 : (8 : Int32).toInt ≤ v2_2.toInt := (i_le c93)
        have h95 : Iv 8 8 v2_2 := le_r (iv_c (by decide) : Iv 8 8 8) n94 iv2_2 (by decide)
        rw [hQ]
        exact W.vret hx hb hr (fun t ht hW => ⟨⟨t2, rfl, ⟨hBt2, hFt2, trivial⟩, by rw [ht]; exact hP, va_K.moved hW.alike (hK.sub (tys' := []) [] rfl), by rw [hAe]; exact hD⟩, by rw [hAe]; exact hS.F ht⟩) hS.2.2 dX10_forget_26
      · skip
        have n96 : v2_2.toInt < (8 : Int32).toInt := (i_nle c93)
        have h97 : Iv 0 7 v2_2 := lt_l iv2_2 n96 (iv_c (by decide) : Iv 8 8 8) (by decide)
        refine lv_aload_n hx hb dX10_forget_8 rfl (lv_at hl 1 rfl) ?_
        refine va_get (D := D) (ci := 10) (v := .ref (a 8)) (C := RX10) (T := TX10) (N := 38) hx hb hT in_X10 hown hK hP 0 mw_0 rfl 16 (by decide) (hT _ t1278) (fun _ h9 => h9) rfl dX10_forget_9 ?_
        refine lv_bipush (v := 8) hx hb dX10_forget_12 (by decide) ?_
        refine lv_iload_n hx hb dX10_forget_14 rfl (lv_at hl 2 rfl) ?_
        refine lv_imul hx hb dX10_forget_15 ?_
        refine lv_topi (fun z98 ez98 => ?_)
        have h99 : Iv 0 56 z98 := iv_mull ez98 hp0 (k := 8) (by decide) (by decide) (by decide) (by decide) (by decide) (by decide)
        refine lv_iload_n hx hb dX10_forget_16 rfl (lv_at hl 0 rfl) ?_
        refine lv_iadd hx hb dX10_forget_17 ?_
        refine lv_topi (fun z100 ez100 => ?_)
        have h101 : Iv 0 63 z100 := iv_add ez100 h99 h97 (by decide) (by decide) (by decide) (by decide)
        refine lv_iconst (v := 0) hx hb dX10_forget_18 (by decide) ?_
        refine c_ist hx hb hK hP hD hS mw_8 ms_8 (iv_in h101 (by decide) (by decide)) dX10_forget_19 (fun s102 H9 locs9 es102 hP9 hD9 hS9 => ?_)
        clear hP hD hS
        have hS := hS9
        have hP := hP9
        have hD := hD9
        clear hP9 hD9 hS9
        have hBs102 : MB s102 := by rw [es102]; exact mb_sw hBt2 trivial
        have hFs102 : FR [8] st s102 := fr_sw hFt2 (List.mem_of_getElem? (i := 0) rfl) es102
        obtain ⟨z103, ez103⟩ : ∃ z9 : Int32, z9 = v2_2 + Int32.ofInt 1 := ⟨_, rfl⟩
        have h104 : Iv 1 8 z103 := iv_inc ez103 h97 (by decide) (by decide) (by decide) (by decide) (by decide) (by decide)
        refine lv_iinc (v := z103) (lv' := [(2, .int z103), (0, .ref (a 0)), (1, .int p0)]) hx hb dX10_forget_20 hl (k := 0) rfl ez103.symm (by decide) rfl (fun ls hl => ?_)
        refine lv_goto (tgt := 2) hx hb dX10_forget_23 (by decide) ?_
        exact ih2 z103 s102 _ _ _ (iv_mono (c := 0) (d := 8) h104 (by decide) (by decide)) hBs102 (fr_sw gt2 (List.mem_of_getElem? (i := 0) rfl) es102) hP hD hS (lv_sub hl [0, 1, 2] rfl) (fu_s (lo := 0) (ti_inc ez103 h97 (by decide) (by decide) (by decide) (by decide)) (by decide) hm2)
  exact lp2 9 0 st _ _ _ (iv_mono (c := 0) (d := 8) (iv_c (by decide) : Iv 0 0 0) (by decide) (by decide)) hB fr_rf hP hD hS (lv_sub hl [0, 1, 2] rfl) (fu_i (iv_mono (c := 0) (d := 8) (iv_c (by decide) : Iv 0 0 0) (by decide) (by decide)) (by decide))
set_option maxHeartbeats 4000000 in
set_option maxRecDepth 100000 in
theorem m_X10_run (l : Launch) (D : va_G) (k : Nat → ClassId) (a : Nat → Nat) (st : CT) (sl : CL) (p0 : Int32) (p1 : Int32) (sz : Nat) (hB : MB st) (hp0 : Iv 0 7 p0) (hp1 : Iv 0 7 p1) (hw : WOK (st 1)) : Met l yX10_run (.code yX10_run cX10_run 3 none :: TB) (rmw 2 0 0) (va_Pc [.ref (a 0), .int p0, .int p1] (PW D k sz (MWS k a st sl))) (QV D (S := CT) (fun u => MB u ∧ FR [8, 7] st u ∧ (True)) (fun u => MWS k a u sl) (fun _ => []) (MWS k a st sl) sz) 0 0 (va_A (MWS k a st sl) sz) := by
  refine Met.ofW (cc := cX10_run) (maxL := 3) (ret := none) (by decide) rfl ?_
  intro p e s m args below meth c s₁ B hml hv
  obtain ⟨rfl, hsz, hP, hK, hD0, hN⟩ := hv
  have hx := B.exec
  have hb := B.bytes
  have hr := B.returns
  have hT : ∀ w9 ∈ TB, w9.before ([.ref (a 0), .int p0, .int p1] : List Value).toArray s = true := fun w9 h => atoms_spec (ws := .code yX10_run cX10_run 3 none :: TB) B.pre w9 (List.mem_cons_of_mem _ h)
  have hown : s.vm.findClass RX10 = some m.cls := findClass_of_methodNamed B.named
  have S : CallFix p m c cX10_run 3 s _ TB RX10 := ⟨hx, hb, hml, hown, hT⟩
  subst hsz
  have hD := hD0.self (sz := s.heap.size)
  generalize hAe : va_A (MWS k a st sl) s.heap.size = A at hD ⊢
  have hA : ∀ q : Nat, s.heap.size ≤ q → A q := fun q h => by rw [← hAe]; exact Or.inr h
  have hS : va_S A s.heap s.heap [] := va_S.rf
  have hl := lv_entry ([.ref (a 0), .int p0, .int p1]) (n := 3) (Nat.le_of_ble_eq_true rfl)
  rw [lg_entry_eq]
  generalize (lg_sl ([.ref (a 0), .int p0, .int p1]) ++ List.replicate (3 - (lg_sl ([.ref (a 0), .int p0, .int p1])).length) Slot.unset).toArray = ls at hl ⊢
  have hl : lv_has ls 3 [(0, .ref (a 0)), (1, .int p0), (2, .int p1)] := hl
  refine nameQ (fun Q hQ => ?_)
  refine lv_aload_n hx hb dX10_run_0 rfl (lv_at hl 0 rfl) ?_
  refine va_get (D := D) (ci := 10) (v := .ref (a 8)) (C := RX10) (T := TX10) (N := 38) hx hb hT in_X10 hown hK hP 0 mw_0 rfl 16 (by decide) (hT _ t1278) (fun _ h9 => h9) rfl dX10_run_1 ?_
  refine lv_bipush (v := 8) hx hb dX10_run_4 (by decide) ?_
  refine lv_iload_n hx hb dX10_run_6 rfl (lv_at hl 1 rfl) ?_
  refine lv_imul hx hb dX10_run_7 ?_
  refine lv_topi (fun z1 ez1 => ?_)
  have h2 : Iv 0 56 z1 := iv_mull ez1 hp0 (k := 8) (by decide) (by decide) (by decide) (by decide) (by decide) (by decide)
  refine lv_iload_n hx hb dX10_run_8 rfl (lv_at hl 2 rfl) ?_
  refine lv_iadd hx hb dX10_run_9 ?_
  refine lv_topi (fun z3 ez3 => ?_)
  have h4 : Iv 0 63 z3 := iv_add ez3 h2 hp1 (by decide) (by decide) (by decide) (by decide)
  refine lv_bipush (v := 9) hx hb dX10_run_10 (by decide) ?_
  refine lv_aload_n hx hb dX10_run_12 rfl (lv_at hl 0 rfl) ?_
  refine va_get (D := D) (ci := 10) (v := .ref (a 8)) (C := RX10) (T := TX10) (N := 38) hx hb hT in_X10 hown hK hP 0 mw_0 rfl 16 (by decide) (hT _ t1278) (fun _ h9 => h9) rfl dX10_run_13 ?_
  refine lv_bipush (v := 8) hx hb dX10_run_16 (by decide) ?_
  refine lv_iload_n hx hb dX10_run_18 rfl (lv_at hl 1 rfl) ?_
  refine lv_imul hx hb dX10_run_19 ?_
  refine k_top (y := z1) ez1.symm ?_
  refine lv_iload_n hx hb dX10_run_20 rfl (lv_at hl 2 rfl) ?_
  refine lv_iadd hx hb dX10_run_21 ?_
  refine k_top (y := z3) ez3.symm ?_
  refine va_iald hx hb hK hP 8 0 mw_8 rfl (iv_in h4 (by decide) (by decide)) dX10_run_22 ?_
  refine lv_topi (fun z5 ez5 => ?_)
  refine lv_iconst (v := 1) hx hb dX10_run_23 (by decide) ?_
  refine lv_iadd hx hb dX10_run_24 ?_
  refine lv_topi (fun z6 ez6 => ?_)
  refine va_mmin hx hb (hml.trans hl.1.symm) hown (hT _ t1418) (hT _ t544) (hT _ t116) (hT _ t545) (Nat.le_of_ble_eq_true rfl) (Nat.le_of_ble_eq_true rfl) (Nat.zero_le _) (Nat.zero_le _) dX10_run_25 ?_
  refine lv_topi (fun z7 ez7 => ?_)
  have h8 : Iv (-2147483648) 9 z7 := iv_min ez7 (iv_c (by decide) : Iv 9 9 9) (iv_full z6) (by decide) (by decide) (by decide)
  refine c_ist hx hb hK hP hD hS mw_8 ms_8 (iv_in h4 (by decide) (by decide)) dX10_run_28 (fun s9 H9 locs9 es9 hP9 hD9 hS9 => ?_)
  clear hP hD hS
  have hS := hS9
  have hP := hP9
  have hD := hD9
  clear hP9 hD9 hS9
  have hBs9 : MB s9 := by rw [es9]; exact mb_sw hB trivial
  have hFs9 : FR [8, 7] st s9 := fr_sw fr_rf (List.mem_of_getElem? (i := 0) rfl) es9
  refine lv_aload_n hx hb dX10_run_29 rfl (lv_at hl 0 rfl) ?_
  refine va_get (D := D) (ci := 10) (v := .ref (a 7)) (C := RX10) (T := TX10) (N := 38) hx hb hT in_X10 hown hK hP 0 mw_0 rfl 15 (by decide) (hT _ t1277) (fun _ h9 => h9) rfl dX10_run_30 ?_
  refine lv_iload_n hx hb dX10_run_33 rfl (lv_at hl 1 rfl) ?_
  refine lv_dup2_11 hx hb dX10_run_34 rfl rfl ?_
  refine va_iald hx hb hK hP 7 0 mw_7 rfl (iv_in hp0 (by decide) (by decide)) dX10_run_35 ?_
  refine lv_topi (fun z10 ez10 => ?_)
  refine lv_aload_n hx hb dX10_run_36 rfl (lv_at hl 0 rfl) ?_
  refine lv_iload_n hx hb dX10_run_37 rfl (lv_at hl 2 rfl) ?_
  refine ro_V (As := [.int p1]) (rest := [.int z10, .int p0, .ref (a 7)]) S (m_X10_milesOf l D k a s9 sl  p1 _  hBs9 hp1 (wok_of (hFs9 1 (nm_1 (by decide) (nm_1 (by decide) nm_0))) hw)) lkX10_253 ok_X10_milesOf ⟨rfl, rfl, Nat.le_of_ble_eq_true rfl, Nat.le_of_ble_eq_true rfl⟩ (pw_V (ci := 10) (q0 := 0) hK hN rfl mw_0 hP (hD.weaken (fun _ _ _ _ => trivial))) rfl hl.1 rfl (Nat.le_of_ble_eq_true rfl) ⟨Nat.zero_le _, Nat.zero_le _⟩ dX10_run_38 (fun r11 er11 => ?_)
  have h12 : Iv 0 20 r11 := er11.1
  refine lv_isub hx hb dX10_run_41 ?_
  refine lv_topi (fun z13 ez13 => ?_)
  refine c_ist hx hb hK hP hD hS mw_7 ms_7 (iv_in hp0 (by decide) (by decide)) dX10_run_42 (fun s14 H9 locs9 es14 hP9 hD9 hS9 => ?_)
  clear hP hD hS
  have hS := hS9
  have hP := hP9
  have hD := hD9
  clear hP9 hD9 hS9
  have hBs14 : MB s14 := by rw [es14]; exact mb_sw hBs9 trivial
  have hFs14 : FR [8, 7] st s14 := fr_sw hFs9 (List.mem_of_getElem? (i := 1) rfl) es14
  refine lv_aload_n hx hb dX10_run_43 rfl (lv_at hl 0 rfl) ?_
  refine va_get (D := D) (ci := 10) (v := .ref (a 7)) (C := RX10) (T := TX10) (N := 38) hx hb hT in_X10 hown hK hP 0 mw_0 rfl 15 (by decide) (hT _ t1277) (fun _ h9 => h9) rfl dX10_run_44 ?_
  refine lv_iload_n hx hb dX10_run_47 rfl (lv_at hl 1 rfl) ?_
  refine va_iald hx hb hK hP 7 0 mw_7 rfl (iv_in hp0 (by decide) (by decide)) dX10_run_48 ?_
  refine lv_topi (fun z15 ez15 => ?_)
  refine lv_if_lt (tgt := 53) hx hb dX10_run_49 (by decide) (fun c16 => ?_) (fun c16 => ?_)
  · skip
    have n17 : z15.toInt < (0 : Int32).toInt := (i_lt c16)
    have h18 : Iv (-2147483648) (-1) z15 := lt_l (iv_full z15) n17 (iv_c (by decide) : Iv 0 0 0) (by decide)
    refine lv_aload_n hx hb dX10_run_53 rfl (lv_at hl 0 rfl) ?_
    refine va_get (D := D) (ci := 10) (v := .ref (a 7)) (C := RX10) (T := TX10) (N := 38) hx hb hT in_X10 hown hK hP 0 mw_0 rfl 15 (by decide) (hT _ t1277) (fun _ h9 => h9) rfl dX10_run_54 ?_
    refine lv_iload_n hx hb dX10_run_57 rfl (lv_at hl 1 rfl) ?_
    refine lv_iconst (v := 0) hx hb dX10_run_58 (by decide) ?_
    refine c_ist hx hb hK hP hD hS mw_7 ms_7 (iv_in hp0 (by decide) (by decide)) dX10_run_59 (fun s19 H9 locs9 es19 hP9 hD9 hS9 => ?_)
    clear hP hD hS
    have hS := hS9
    have hP := hP9
    have hD := hD9
    clear hP9 hD9 hS9
    have hBs19 : MB s19 := by rw [es19]; exact mb_sw hBs14 trivial
    have hFs19 : FR [8, 7] st s19 := fr_sw hFs14 (List.mem_of_getElem? (i := 1) rfl) es19
    refine lv_aload_n hx hb dX10_run_60 rfl (lv_at hl 0 rfl) ?_
    refine lv_iload_n hx hb dX10_run_61 rfl (lv_at hl 1 rfl) ?_
    refine ca_v hP hD hS hA (fun hDc => run_V (mc := 0) (ms := 0) (As := [.int p0]) (rest := []) S (m_X10_forget l D k a s19 sl  p0 _  hBs19 hp0 ) lkX10_240 ok_X10_forget ⟨rfl, rfl, Nat.le_of_ble_eq_true rfl, Nat.le_of_ble_eq_true rfl⟩ (pw_V (ci := 10) (q0 := 0) hK hN rfl mw_0 hP hDc) rfl hl.1 rfl (Nat.le_of_ble_eq_true rfl) ⟨Nat.zero_le _, Nat.zero_le _⟩ dX10_run_62) (fun s20 H9 locs9 hs20 hP9 hD9 hS9 => ?_)
    clear hP hD hS
    have hS := hS9
    have hP := hP9
    have hD := hD9
    clear hP9 hD9 hS9
    obtain ⟨hBs20, gs20, fs20⟩ := hs20
    have hFs20 : FR [8, 7] st s20 := fr_ca hFs19 gs20 (sub_1 (List.mem_of_getElem? (i := 0) rfl) sub_0)
    rw [hQ]
    exact W.vret hx hb hr (fun t ht hW => ⟨⟨s20, rfl, ⟨hBs20, hFs20, trivial⟩, by rw [ht]; exact hP, va_K.moved hW.alike (hK.sub (tys' := []) [] rfl), by rw [hAe]; exact hD⟩, by rw [hAe]; exact hS.F ht⟩) hS.2.2 dX10_run_65
  · skip
    have n22 : (0 : Int32).toInt ≤ z15.toInt := (i_nlt c16)
    have h23 : Iv 0 2147483647 z15 := le_r (iv_c (by decide) : Iv 0 0 0) n22 (iv_full z15) (by decide)
    rw [hQ]
    exact W.vret hx hb hr (fun t ht hW => ⟨⟨s14, rfl, ⟨hBs14, hFs14, trivial⟩, by rw [ht]; exact hP, va_K.moved hW.alike (hK.sub (tys' := []) [] rfl), by rw [hAe]; exact hD⟩, by rw [hAe]; exact hS.F ht⟩) hS.2.2 dX10_run_52
set_option maxHeartbeats 4000000 in
set_option maxRecDepth 100000 in
theorem m_X10_driveBy (l : Launch) (D : va_G) (k : Nat → ClassId) (a : Nat → Nat) (st : CT) (sl : CL) (p0 : Int32) (p1 : Int32) (sz : Nat) (hB : MB st) (hp0 : Iv 0 2 p0) (hw : WOK (st 1)) : Met l yX10_driveBy (.code yX10_driveBy cX10_driveBy 5 (some .int) :: TB) (rmw 5 0 0) (va_Pc [.ref (a 0), .int p0, .int p1] (PW D k sz (MWS k a st sl))) (QI D (S := CT) (fun r u => MB u ∧ FR [8, 7, 10, 11] st u ∧ (Iv (-1) 7 r ∧ (True))) (fun u => MWS k a u sl) (fun _ => []) (MWS k a st sl) sz) 0 0 (va_A (MWS k a st sl) sz) := by
  refine Met.ofW (cc := cX10_driveBy) (maxL := 5) (ret := (some .int)) (by decide) rfl ?_
  intro p e s m args below meth c s₁ B hml hv
  obtain ⟨rfl, hsz, hP, hK, hD0, hN⟩ := hv
  have hx := B.exec
  have hb := B.bytes
  have hr := B.returns
  have hT : ∀ w9 ∈ TB, w9.before ([.ref (a 0), .int p0, .int p1] : List Value).toArray s = true := fun w9 h => atoms_spec (ws := .code yX10_driveBy cX10_driveBy 5 (some .int) :: TB) B.pre w9 (List.mem_cons_of_mem _ h)
  have hown : s.vm.findClass RX10 = some m.cls := findClass_of_methodNamed B.named
  have S : CallFix p m c cX10_driveBy 5 s _ TB RX10 := ⟨hx, hb, hml, hown, hT⟩
  subst hsz
  have hD := hD0.self (sz := s.heap.size)
  generalize hAe : va_A (MWS k a st sl) s.heap.size = A at hD ⊢
  have hA : ∀ q : Nat, s.heap.size ≤ q → A q := fun q h => by rw [← hAe]; exact Or.inr h
  have hS : va_S A s.heap s.heap [] := va_S.rf
  have hl := lv_entry ([.ref (a 0), .int p0, .int p1]) (n := 5) (Nat.le_of_ble_eq_true rfl)
  rw [lg_entry_eq]
  generalize (lg_sl ([.ref (a 0), .int p0, .int p1]) ++ List.replicate (5 - (lg_sl ([.ref (a 0), .int p0, .int p1])).length) Slot.unset).toArray = ls at hl ⊢
  have hl : lv_has ls 5 [(0, .ref (a 0)), (1, .int p0), (2, .int p1)] := hl
  refine nameQ (fun Q hQ => ?_)
  refine lv_aload_n hx hb dX10_driveBy_0 rfl (lv_at hl 0 rfl) ?_
  refine lv_iload_n hx hb dX10_driveBy_1 rfl (lv_at hl 1 rfl) ?_
  refine lv_iload_n hx hb dX10_driveBy_2 rfl (lv_at hl 2 rfl) ?_
  refine ro_V (As := [.int p0, .int p1]) (rest := []) S (m_X10_turnOf l D k a st sl  p0 p1 _  hB hp0 hw) lkX10_256 ok_X10_turnOf ⟨rfl, rfl, Nat.le_of_ble_eq_true rfl, Nat.le_of_ble_eq_true rfl⟩ (pw_V (ci := 10) (q0 := 0) hK hN rfl mw_0 hP (hD.weaken (fun _ _ _ _ => trivial))) rfl hl.1 rfl (Nat.le_of_ble_eq_true rfl) ⟨Nat.zero_le _, Nat.zero_le _⟩ dX10_driveBy_3 (fun r1 er1 => ?_)
  have h2 : Iv (-1) 7 r1 := er1.1
  refine lv_istore_n (lv' := [(3, .int r1), (0, .ref (a 0)), (1, .int p0), (2, .int p1)]) hx hb dX10_driveBy_6 rfl hl (by decide) rfl (fun ls hl => ?_)
  refine lv_iload_n hx hb dX10_driveBy_7 rfl (lv_at hl 0 rfl) ?_
  refine lv_iconst (v := (-1)) hx hb dX10_driveBy_8 (by decide) ?_
  refine lv_icmp_ne (tgt := 14) hx hb dX10_driveBy_9 (by decide) (fun c3 => ?_) (fun c3 => ?_)
  · skip
    have h4 : Iv 0 7 r1 := ne_lo h2 (show ¬ r1 = (-1) from c3) (by decide) (by decide)
    refine lv_iconst (v := 0) hx hb dX10_driveBy_14 (by decide) ?_
    refine lv_istore (lv' := [(4, .int 0), (3, .int r1), (0, .ref (a 0)), (1, .int p0), (2, .int p1)]) hx hb dX10_driveBy_15 hl (by decide) rfl (fun ls hl => ?_)
    have lp17 : ∀ (n9_17 : Nat) (v4_17 : Int32) (t17 : CT) (H9 : Heap) (locs9 : List Loc) (ls : Array Slot), Iv 0 8 v4_17 → MB t17 → FR [8, 7] st t17 → va_P D vwCl (MWS k a t17 sl) H9 → va_D A (MWS k a t17 sl) → va_S A s.heap H9 locs9 → lv_has ls 5 [(4, .int v4_17), (3, .int r1), (0, .ref (a 0)), (1, .int p0), (2, .int p1)] → (8 : Int) - v4_17.toInt < (n9_17 : Int) → W p l e (rmw 5 0 0) s m ([.ref (a 0), .int p0, .int p1] : List Value).toArray below meth c H9 locs9 0 0 Q (F0 m 17 ls []) := by
      clear hl hP hD hS
      intro n9_17
      induction n9_17 with
      | zero =>
        intro v4_17 t17 H9 locs9 ls iv4_17 hBt17 gt17 hP hD hS hl hm17
        exact (fu_0 iv4_17 hm17).elim
      | succ n9_17 ih17 =>
        intro v4_17 t17 H9 locs9 ls iv4_17 hBt17 gt17 hP hD hS hl hm17
        have hFt17 : FR [8, 7, 10, 11] st t17 := fr_ca fr_rf gt17 (sub_1 (List.mem_of_getElem? (i := 0) rfl) (sub_1 (List.mem_of_getElem? (i := 1) rfl) sub_0))
        refine lv_iload hx hb dX10_driveBy_17 (lv_at hl 0 rfl) ?_
        refine lv_aload_n hx hb dX10_driveBy_19 rfl (lv_at hl 2 rfl) ?_
        refine va_get (D := D) (ci := 10) (v := .ref (a 1)) (C := RX10) (T := TX10) (N := 38) hx hb hT in_X10 hown hK hP 0 mw_0 rfl 1 (by decide) (hT _ t1263) (fun _ h9 => h9) rfl dX10_driveBy_20 ?_
        refine lv_iconst (v := 3) hx hb dX10_driveBy_23 (by decide) ?_
        refine va_iald hx hb hK hP 1 0 mw_1 rfl (by unfold vp_in; decide) dX10_driveBy_24 ?_
        refine k_top (y := (t17 1 3)) rfl ?_
        refine k_top (y := (st 1 3)) (congrFun (hFt17 1 (nm_1 (by decide) (nm_1 (by decide) (nm_1 (by decide) (nm_1 (by decide) nm_0))))) 3) ?_
        have h140 : Iv 0 8 (st 1 3) := (tok_at (hw).1 3 0 8 (by decide) (by decide) (by decide))
        refine lv_icmp_ge (tgt := 52) hx hb dX10_driveBy_25 (by decide) (fun c141 => ?_) (fun c141 => ?_)
        · skip
          have n142 : (st 1 3).toInt ≤ v4_17.toInt := (i_le c141)
          refine lv_aload_n hx hb dX10_driveBy_52 rfl (lv_at hl 2 rfl) ?_
          refine va_get (D := D) (ci := 10) (v := .ref (a 10)) (C := RX10) (T := TX10) (N := 38) hx hb hT in_X10 hown hK hP 0 mw_0 rfl 18 (by decide) (hT _ t1280) (fun _ h9 => h9) rfl dX10_driveBy_53 ?_
          refine lv_iload_n hx hb dX10_driveBy_56 rfl (lv_at hl 3 rfl) ?_
          refine lv_aload_n hx hb dX10_driveBy_57 rfl (lv_at hl 2 rfl) ?_
          refine lv_iload_n hx hb dX10_driveBy_58 rfl (lv_at hl 1 rfl) ?_
          refine lv_aload_n hx hb dX10_driveBy_59 rfl (lv_at hl 2 rfl) ?_
          refine va_get (D := D) (ci := 10) (v := .ref (a 10)) (C := RX10) (T := TX10) (N := 38) hx hb hT in_X10 hown hK hP 0 mw_0 rfl 18 (by decide) (hT _ t1280) (fun _ h9 => h9) rfl dX10_driveBy_60 ?_
          refine lv_iload_n hx hb dX10_driveBy_63 rfl (lv_at hl 3 rfl) ?_
          refine va_iald hx hb hK hP 10 0 mw_10 rfl (iv_in hp0 (by decide) (by decide)) dX10_driveBy_64 ?_
          refine lv_topi (fun z143 ez143 => ?_)
          refine ro_V (As := [.int r1, .int z143]) (rest := [.int p0, .ref (a 10)]) S (m_X10_over l D k a t17 sl  r1 z143 _  hBt17 h4 (wok_of (hFt17 1 (nm_1 (by decide) (nm_1 (by decide) (nm_1 (by decide) (nm_1 (by decide) nm_0))))) hw)) lkX10_262 ok_X10_over ⟨rfl, rfl, Nat.le_of_ble_eq_true rfl, Nat.le_of_ble_eq_true rfl⟩ (pw_V (ci := 10) (q0 := 0) hK hN rfl mw_0 hP (hD.weaken (fun _ _ _ _ => trivial))) rfl hl.1 rfl (Nat.le_of_ble_eq_true rfl) ⟨Nat.zero_le _, Nat.zero_le _⟩ dX10_driveBy_65 (fun r144 er144 => ?_)
          have h145 : Iv 0 5 r144 := er144.1
          refine c_ist hx hb hK hP hD hS mw_10 ms_10 (iv_in hp0 (by decide) (by decide)) dX10_driveBy_68 (fun s146 H9 locs9 es146 hP9 hD9 hS9 => ?_)
          clear hP hD hS
          have hS := hS9
          have hP := hP9
          have hD := hD9
          clear hP9 hD9 hS9
          have hBs146 : MB s146 := by rw [es146]; exact mb_sw hBt17 trivial
          have hFs146 : FR [8, 7, 10, 11] st s146 := fr_sw hFt17 (List.mem_of_getElem? (i := 2) rfl) es146
          refine lv_aload_n hx hb dX10_driveBy_69 rfl (lv_at hl 2 rfl) ?_
          refine va_get (D := D) (ci := 10) (v := .ref (a 11)) (C := RX10) (T := TX10) (N := 38) hx hb hT in_X10 hown hK hP 0 mw_0 rfl 19 (by decide) (hT _ t1281) (fun _ h9 => h9) rfl dX10_driveBy_70 ?_
          refine lv_iload_n hx hb dX10_driveBy_73 rfl (lv_at hl 3 rfl) ?_
          refine lv_dup2_11 hx hb dX10_driveBy_74 rfl rfl ?_
          refine va_iald hx hb hK hP 11 0 mw_11 rfl (iv_in hp0 (by decide) (by decide)) dX10_driveBy_75 ?_
          refine lv_topi (fun z147 ez147 => ?_)
          refine lv_aload_n hx hb dX10_driveBy_76 rfl (lv_at hl 2 rfl) ?_
          refine lv_iload_n hx hb dX10_driveBy_77 rfl (lv_at hl 1 rfl) ?_
          refine ro_V (As := [.int r1]) (rest := [.int z147, .int p0, .ref (a 11)]) S (m_X10_milesOf l D k a s146 sl  r1 _  hBs146 h4 (wok_of (hFs146 1 (nm_1 (by decide) (nm_1 (by decide) (nm_1 (by decide) (nm_1 (by decide) nm_0))))) hw)) lkX10_253 ok_X10_milesOf ⟨rfl, rfl, Nat.le_of_ble_eq_true rfl, Nat.le_of_ble_eq_true rfl⟩ (pw_V (ci := 10) (q0 := 0) hK hN rfl mw_0 hP (hD.weaken (fun _ _ _ _ => trivial))) rfl hl.1 rfl (Nat.le_of_ble_eq_true rfl) ⟨Nat.zero_le _, Nat.zero_le _⟩ dX10_driveBy_78 (fun r148 er148 => ?_)
          have h149 : Iv 0 20 r148 := er148.1
          refine lv_iadd hx hb dX10_driveBy_81 ?_
          refine lv_topi (fun z150 ez150 => ?_)
          refine c_ist hx hb hK hP hD hS mw_11 ms_11 (iv_in hp0 (by decide) (by decide)) dX10_driveBy_82 (fun s151 H9 locs9 es151 hP9 hD9 hS9 => ?_)
          clear hP hD hS
          have hS := hS9
          have hP := hP9
          have hD := hD9
          clear hP9 hD9 hS9
          have hBs151 : MB s151 := by rw [es151]; exact mb_sw hBs146 trivial
          have hFs151 : FR [8, 7, 10, 11] st s151 := fr_sw hFs146 (List.mem_of_getElem? (i := 3) rfl) es151
          refine lv_iload_n hx hb dX10_driveBy_83 rfl (lv_at hl 1 rfl) ?_
          rw [hQ]
          exact W.iret (v := r1) hx hb hr (fun t ht hW => ⟨⟨r1, s151, rfl, ⟨hBs151, hFs151, ⟨(iv_mono (c := (-1)) (d := 7) h4 (by decide) (by decide)), trivial⟩⟩, by rw [ht]; exact hP, va_K.moved hW.alike (hK.sub (tys' := []) [] rfl), by rw [hAe]; exact hD⟩, by rw [hAe]; exact hS.F ht⟩) hS.2.2 dX10_driveBy_84
        · skip
          have n152 : v4_17.toInt < (st 1 3).toInt := (i_nle c141)
          have h153 : Iv 0 7 v4_17 := lt_l iv4_17 n152 h140 (by decide)
          have h154 : Iv 1 8 (st 1 3) := lt_r iv4_17 n152 h140 (by decide)
          refine lv_aload_n hx hb dX10_driveBy_28 rfl (lv_at hl 2 rfl) ?_
          refine va_get (D := D) (ci := 10) (v := .ref (a 9)) (C := RX10) (T := TX10) (N := 38) hx hb hT in_X10 hown hK hP 0 mw_0 rfl 17 (by decide) (hT _ t1279) (fun _ h9 => h9) rfl dX10_driveBy_29 ?_
          refine lv_iload hx hb dX10_driveBy_32 (lv_at hl 0 rfl) ?_
          refine va_iald hx hb hK hP 9 0 mw_9 rfl (iv_in h153 (by decide) (by decide)) dX10_driveBy_34 ?_
          refine lv_topi (fun z155 ez155 => ?_)
          refine lv_iload_n hx hb dX10_driveBy_35 rfl (lv_at hl 3 rfl) ?_
          refine lv_icmp_ne (tgt := 46) hx hb dX10_driveBy_36 (by decide) (fun c156 => ?_) (fun c156 => ?_)
          · skip
            obtain ⟨z157, ez157⟩ : ∃ z9 : Int32, z9 = v4_17 + Int32.ofInt 1 := ⟨_, rfl⟩
            have h158 : Iv 1 8 z157 := iv_inc ez157 h153 (by decide) (by decide) (by decide) (by decide) (by decide) (by decide)
            refine lv_iinc (v := z157) (lv' := [(4, .int z157), (3, .int r1), (0, .ref (a 0)), (1, .int p0), (2, .int p1)]) hx hb dX10_driveBy_46 hl (k := 0) rfl ez157.symm (by decide) rfl (fun ls hl => ?_)
            refine lv_goto (tgt := 17) hx hb dX10_driveBy_49 (by decide) ?_
            exact ih17 z157 t17 _ _ _ (iv_mono (c := 0) (d := 8) h158 (by decide) (by decide)) hBt17 gt17 hP hD hS (lv_sub hl [0, 1, 2, 3, 4] rfl) (fu_s (lo := 0) (ti_inc ez157 h153 (by decide) (by decide) (by decide) (by decide)) (by decide) hm17)
          · skip
            have h159 : Iv 0 2 z155 := eq_l c156 hp0
            refine lv_aload_n hx hb dX10_driveBy_39 rfl (lv_at hl 2 rfl) ?_
            refine lv_iload hx hb dX10_driveBy_40 (lv_at hl 0 rfl) ?_
            refine lv_iload_n hx hb dX10_driveBy_42 rfl (lv_at hl 1 rfl) ?_
            refine ca_v hP hD hS hA (fun hDc => run_V (mc := 0) (ms := 0) (As := [.int v4_17, .int r1]) (rest := []) S (m_X10_run l D k a t17 sl  v4_17 r1 _  hBt17 h153 h4 (wok_of (hFt17 1 (nm_1 (by decide) (nm_1 (by decide) (nm_1 (by decide) (nm_1 (by decide) nm_0))))) hw)) lkX10_259 ok_X10_run ⟨rfl, rfl, Nat.le_of_ble_eq_true rfl, Nat.le_of_ble_eq_true rfl⟩ (pw_V (ci := 10) (q0 := 0) hK hN rfl mw_0 hP hDc) rfl hl.1 rfl (Nat.le_of_ble_eq_true rfl) ⟨Nat.zero_le _, Nat.zero_le _⟩ dX10_driveBy_43) (fun s160 H9 locs9 hs160 hP9 hD9 hS9 => ?_)
            clear hP hD hS
            have hS := hS9
            have hP := hP9
            have hD := hD9
            clear hP9 hD9 hS9
            obtain ⟨hBs160, gs160, fs160⟩ := hs160
            have hFs160 : FR [8, 7, 10, 11] st s160 := fr_ca hFt17 gs160 (sub_1 (List.mem_of_getElem? (i := 0) rfl) (sub_1 (List.mem_of_getElem? (i := 1) rfl) sub_0))
            obtain ⟨z162, ez162⟩ : ∃ z9 : Int32, z9 = v4_17 + Int32.ofInt 1 := ⟨_, rfl⟩
            have h163 : Iv 1 8 z162 := iv_inc ez162 h153 (by decide) (by decide) (by decide) (by decide) (by decide) (by decide)
            refine lv_iinc (v := z162) (lv' := [(4, .int z162), (3, .int r1), (0, .ref (a 0)), (1, .int p0), (2, .int p1)]) hx hb dX10_driveBy_46 hl (k := 0) rfl ez162.symm (by decide) rfl (fun ls hl => ?_)
            refine lv_goto (tgt := 17) hx hb dX10_driveBy_49 (by decide) ?_
            exact ih17 z162 s160 _ _ _ (iv_mono (c := 0) (d := 8) h163 (by decide) (by decide)) hBs160 (fr_ca gt17 gs160 (sub_1 (List.mem_of_getElem? (i := 0) rfl) (sub_1 (List.mem_of_getElem? (i := 1) rfl) sub_0))) hP hD hS (lv_sub hl [0, 1, 2, 3, 4] rfl) (fu_s (lo := 0) (ti_inc ez162 h153 (by decide) (by decide) (by decide) (by decide)) (by decide) hm17)
    exact lp17 9 0 st _ _ _ (iv_mono (c := 0) (d := 8) (iv_c (by decide) : Iv 0 0 0) (by decide) (by decide)) hB fr_rf hP hD hS (lv_sub hl [0, 1, 2, 3, 4] rfl) (fu_i (iv_mono (c := 0) (d := 8) (iv_c (by decide) : Iv 0 0 0) (by decide) (by decide)) (by decide))
  · skip
    have h164 : Iv (-1) (-1) r1 := eq_l c3 (iv_c (by decide) : Iv (-1) (-1) (-1))
    refine lv_iconst (v := (-1)) hx hb dX10_driveBy_12 (by decide) ?_
    rw [hQ]
    exact W.iret (v := (-1)) hx hb hr (fun t ht hW => ⟨⟨(-1), st, rfl, ⟨hB, fr_rf, ⟨(iv_mono (c := (-1)) (d := 7) (iv_c (by decide) : Iv (-1) (-1) (-1)) (by decide) (by decide)), trivial⟩⟩, by rw [ht]; exact hP, va_K.moved hW.alike (hK.sub (tys' := []) [] rfl), by rw [hAe]; exact hD⟩, by rw [hAe]; exact hS.F ht⟩) hS.2.2 dX10_driveBy_13
set_option maxHeartbeats 4000000 in
set_option maxRecDepth 100000 in
theorem m_X10_swapSeats (l : Launch) (D : va_G) (k : Nat → ClassId) (a : Nat → Nat) (st : CT) (sl : CL) (p0 : Int32) (p1 : Int32) (sz : Nat) (hB : MB st) (hp0 : Iv 0 7 p0) (hp1 : Iv 0 7 p1) : Met l yX10_swapSeats (.code yX10_swapSeats cX10_swapSeats 4 none :: TB) (rmw 1 0 0) (va_Pc [.ref (a 0), .int p0, .int p1] (PW D k sz (MWS k a st sl))) (QV D (S := CT) (fun u => MB u ∧ FR [9] st u ∧ (True)) (fun u => MWS k a u sl) (fun _ => []) (MWS k a st sl) sz) 0 0 (va_A (MWS k a st sl) sz) := by
  refine Met.ofW (cc := cX10_swapSeats) (maxL := 4) (ret := none) (by decide) rfl ?_
  intro p e s m args below meth c s₁ B hml hv
  obtain ⟨rfl, hsz, hP, hK, hD0, hN⟩ := hv
  have hx := B.exec
  have hb := B.bytes
  have hr := B.returns
  have hT : ∀ w9 ∈ TB, w9.before ([.ref (a 0), .int p0, .int p1] : List Value).toArray s = true := fun w9 h => atoms_spec (ws := .code yX10_swapSeats cX10_swapSeats 4 none :: TB) B.pre w9 (List.mem_cons_of_mem _ h)
  have hown : s.vm.findClass RX10 = some m.cls := findClass_of_methodNamed B.named
  have S : CallFix p m c cX10_swapSeats 4 s _ TB RX10 := ⟨hx, hb, hml, hown, hT⟩
  subst hsz
  have hD := hD0.self (sz := s.heap.size)
  generalize hAe : va_A (MWS k a st sl) s.heap.size = A at hD ⊢
  have hA : ∀ q : Nat, s.heap.size ≤ q → A q := fun q h => by rw [← hAe]; exact Or.inr h
  have hS : va_S A s.heap s.heap [] := va_S.rf
  have hl := lv_entry ([.ref (a 0), .int p0, .int p1]) (n := 4) (Nat.le_of_ble_eq_true rfl)
  rw [lg_entry_eq]
  generalize (lg_sl ([.ref (a 0), .int p0, .int p1]) ++ List.replicate (4 - (lg_sl ([.ref (a 0), .int p0, .int p1])).length) Slot.unset).toArray = ls at hl ⊢
  have hl : lv_has ls 4 [(0, .ref (a 0)), (1, .int p0), (2, .int p1)] := hl
  refine nameQ (fun Q hQ => ?_)
  refine lv_aload_n hx hb dX10_swapSeats_0 rfl (lv_at hl 0 rfl) ?_
  refine va_get (D := D) (ci := 10) (v := .ref (a 9)) (C := RX10) (T := TX10) (N := 38) hx hb hT in_X10 hown hK hP 0 mw_0 rfl 17 (by decide) (hT _ t1279) (fun _ h9 => h9) rfl dX10_swapSeats_1 ?_
  refine lv_iload_n hx hb dX10_swapSeats_4 rfl (lv_at hl 1 rfl) ?_
  refine va_iald hx hb hK hP 9 0 mw_9 rfl (iv_in hp0 (by decide) (by decide)) dX10_swapSeats_5 ?_
  refine lv_topi (fun z1 ez1 => ?_)
  refine lv_istore_n (lv' := [(3, .int z1), (0, .ref (a 0)), (1, .int p0), (2, .int p1)]) hx hb dX10_swapSeats_6 rfl hl (by decide) rfl (fun ls hl => ?_)
  refine lv_aload_n hx hb dX10_swapSeats_7 rfl (lv_at hl 1 rfl) ?_
  refine va_get (D := D) (ci := 10) (v := .ref (a 9)) (C := RX10) (T := TX10) (N := 38) hx hb hT in_X10 hown hK hP 0 mw_0 rfl 17 (by decide) (hT _ t1279) (fun _ h9 => h9) rfl dX10_swapSeats_8 ?_
  refine lv_iload_n hx hb dX10_swapSeats_11 rfl (lv_at hl 2 rfl) ?_
  refine lv_aload_n hx hb dX10_swapSeats_12 rfl (lv_at hl 1 rfl) ?_
  refine va_get (D := D) (ci := 10) (v := .ref (a 9)) (C := RX10) (T := TX10) (N := 38) hx hb hT in_X10 hown hK hP 0 mw_0 rfl 17 (by decide) (hT _ t1279) (fun _ h9 => h9) rfl dX10_swapSeats_13 ?_
  refine lv_iload_n hx hb dX10_swapSeats_16 rfl (lv_at hl 3 rfl) ?_
  refine va_iald hx hb hK hP 9 0 mw_9 rfl (iv_in hp1 (by decide) (by decide)) dX10_swapSeats_17 ?_
  refine lv_topi (fun z2 ez2 => ?_)
  refine c_ist hx hb hK hP hD hS mw_9 ms_9 (iv_in hp0 (by decide) (by decide)) dX10_swapSeats_18 (fun s3 H9 locs9 es3 hP9 hD9 hS9 => ?_)
  clear hP hD hS
  have hS := hS9
  have hP := hP9
  have hD := hD9
  clear hP9 hD9 hS9
  have hBs3 : MB s3 := by rw [es3]; exact mb_sw hB trivial
  have hFs3 : FR [9] st s3 := fr_sw fr_rf (List.mem_of_getElem? (i := 0) rfl) es3
  refine lv_aload_n hx hb dX10_swapSeats_19 rfl (lv_at hl 1 rfl) ?_
  refine va_get (D := D) (ci := 10) (v := .ref (a 9)) (C := RX10) (T := TX10) (N := 38) hx hb hT in_X10 hown hK hP 0 mw_0 rfl 17 (by decide) (hT _ t1279) (fun _ h9 => h9) rfl dX10_swapSeats_20 ?_
  refine lv_iload_n hx hb dX10_swapSeats_23 rfl (lv_at hl 3 rfl) ?_
  refine lv_iload_n hx hb dX10_swapSeats_24 rfl (lv_at hl 0 rfl) ?_
  refine c_ist hx hb hK hP hD hS mw_9 ms_9 (iv_in hp1 (by decide) (by decide)) dX10_swapSeats_25 (fun s4 H9 locs9 es4 hP9 hD9 hS9 => ?_)
  clear hP hD hS
  have hS := hS9
  have hP := hP9
  have hD := hD9
  clear hP9 hD9 hS9
  have hBs4 : MB s4 := by rw [es4]; exact mb_sw hBs3 trivial
  have hFs4 : FR [9] st s4 := fr_sw hFs3 (List.mem_of_getElem? (i := 0) rfl) es4
  rw [hQ]
  exact W.vret hx hb hr (fun t ht hW => ⟨⟨s4, rfl, ⟨hBs4, hFs4, trivial⟩, by rw [ht]; exact hP, va_K.moved hW.alike (hK.sub (tys' := []) [] rfl), by rw [hAe]; exact hD⟩, by rw [hAe]; exact hS.F ht⟩) hS.2.2 dX10_swapSeats_26
set_option maxHeartbeats 4000000 in
set_option maxRecDepth 100000 in
theorem m_X10_likedOf (l : Launch) (D : va_G) (k : Nat → ClassId) (a : Nat → Nat) (st : CT) (sl : CL) (p0 : Int32) (sz : Nat) (hB : MB st) (hp0 : Iv 0 7 p0) : Met l yX10_likedOf (.code yX10_likedOf cX10_likedOf 4 (some .int) :: TB) (rmk 1) (va_Pc [.ref (a 0), .int p0] (PW D k sz (MWS k a st sl))) (vp_Si (fun r => (True))) 0 0 (fun _ => False) := by
  refine Met.ofW (cc := cX10_likedOf) (maxL := 4) (ret := (some .int)) (by decide) rfl ?_
  intro p e s m args below meth c s₁ B hml hv
  obtain ⟨rfl, hsz, hP, hK, hD0, hN⟩ := hv
  have hx := B.exec
  have hb := B.bytes
  have hr := B.returns
  have hT : ∀ w9 ∈ TB, w9.before ([.ref (a 0), .int p0] : List Value).toArray s = true := fun w9 h => atoms_spec (ws := .code yX10_likedOf cX10_likedOf 4 (some .int) :: TB) B.pre w9 (List.mem_cons_of_mem _ h)
  have hown : s.vm.findClass RX10 = some m.cls := findClass_of_methodNamed B.named
  have S : CallFix p m c cX10_likedOf 4 s _ TB RX10 := ⟨hx, hb, hml, hown, hT⟩
  subst hsz
  have hl := lv_entry ([.ref (a 0), .int p0]) (n := 4) (Nat.le_of_ble_eq_true rfl)
  rw [lg_entry_eq]
  generalize (lg_sl ([.ref (a 0), .int p0]) ++ List.replicate (4 - (lg_sl ([.ref (a 0), .int p0])).length) Slot.unset).toArray = ls at hl ⊢
  have hl : lv_has ls 4 [(0, .ref (a 0)), (1, .int p0)] := hl
  refine nameQ (fun Q hQ => ?_)
  refine lv_iconst (v := 0) hx hb dX10_likedOf_0 (by decide) ?_
  refine lv_istore_n (lv' := [(2, .int 0), (0, .ref (a 0)), (1, .int p0)]) hx hb dX10_likedOf_1 rfl hl (by decide) rfl (fun ls hl => ?_)
  refine lv_iconst (v := 0) hx hb dX10_likedOf_2 (by decide) ?_
  refine lv_istore_n (lv' := [(3, .int 0), (2, .int 0), (0, .ref (a 0)), (1, .int p0)]) hx hb dX10_likedOf_3 rfl hl (by decide) rfl (fun ls hl => ?_)
  have lp4 : ∀ (n9_4 : Nat) (v3_4 : Int32) (v2_4 : Int32) (ls : Array Slot), Iv 0 8 v3_4 → lv_has ls 4 [(3, .int v3_4), (2, .int v2_4), (0, .ref (a 0)), (1, .int p0)] → (8 : Int) - v3_4.toInt < (n9_4 : Int) → W p l e (rmk 1) s m ([.ref (a 0), .int p0] : List Value).toArray below meth c s.heap [] 0 0 Q (F0 m 4 ls []) := by
    clear hl
    intro n9_4
    induction n9_4 with
    | zero =>
      intro v3_4 v2_4 ls iv3_4 hl hm4
      exact (fu_0 iv3_4 hm4).elim
    | succ n9_4 ih4 =>
      intro v3_4 v2_4 ls iv3_4 hl hm4
      refine lv_iload_n hx hb dX10_likedOf_4 rfl (lv_at hl 0 rfl) ?_
      refine lv_bipush (v := 8) hx hb dX10_likedOf_5 (by decide) ?_
      refine lv_icmp_ge (tgt := 30) hx hb dX10_likedOf_7 (by decide) (fun c102 => ?_) (fun c102 => ?_)
      · skip
        have n103 : (8 : Int32).toInt ≤ v3_4.toInt := (i_le c102)
        have h104 : Iv 8 8 v3_4 := le_r (iv_c (by decide) : Iv 8 8 8) n103 iv3_4 (by decide)
        refine lv_iload_n hx hb dX10_likedOf_30 rfl (lv_at hl 1 rfl) ?_
        rw [hQ]
        exact W.iret (v := v2_4) hx hb hr (fun t ht hW => ⟨v2_4, rfl, trivial, ht⟩) (fun _ h9 => by cases h9) dX10_likedOf_31
      · skip
        have n105 : v3_4.toInt < (8 : Int32).toInt := (i_nle c102)
        have h106 : Iv 0 7 v3_4 := lt_l iv3_4 n105 (iv_c (by decide) : Iv 8 8 8) (by decide)
        refine lv_iload_n hx hb dX10_likedOf_10 rfl (lv_at hl 1 rfl) ?_
        refine lv_aload_n hx hb dX10_likedOf_11 rfl (lv_at hl 2 rfl) ?_
        refine va_get (D := D) (ci := 10) (v := .ref (a 8)) (C := RX10) (T := TX10) (N := 38) hx hb hT in_X10 hown hK hP 0 mw_0 rfl 16 (by decide) (hT _ t1278) (fun _ h9 => h9) rfl dX10_likedOf_12 ?_
        refine lv_bipush (v := 8) hx hb dX10_likedOf_15 (by decide) ?_
        refine lv_iload_n hx hb dX10_likedOf_17 rfl (lv_at hl 3 rfl) ?_
        refine lv_imul hx hb dX10_likedOf_18 ?_
        refine lv_topi (fun z107 ez107 => ?_)
        have h108 : Iv 0 56 z107 := iv_mull ez107 hp0 (k := 8) (by decide) (by decide) (by decide) (by decide) (by decide) (by decide)
        refine lv_iload_n hx hb dX10_likedOf_19 rfl (lv_at hl 0 rfl) ?_
        refine lv_iadd hx hb dX10_likedOf_20 ?_
        refine lv_topi (fun z109 ez109 => ?_)
        have h110 : Iv 0 63 z109 := iv_add ez109 h108 h106 (by decide) (by decide) (by decide) (by decide)
        refine va_iald hx hb hK hP 8 0 mw_8 rfl (iv_in h110 (by decide) (by decide)) dX10_likedOf_21 ?_
        refine lv_topi (fun z111 ez111 => ?_)
        refine lv_iadd hx hb dX10_likedOf_22 ?_
        refine lv_topi (fun z112 ez112 => ?_)
        refine lv_istore_n (lv' := [(2, .int z112), (3, .int v3_4), (0, .ref (a 0)), (1, .int p0)]) hx hb dX10_likedOf_23 rfl hl (by decide) rfl (fun ls hl => ?_)
        obtain ⟨z113, ez113⟩ : ∃ z9 : Int32, z9 = v3_4 + Int32.ofInt 1 := ⟨_, rfl⟩
        have h114 : Iv 1 8 z113 := iv_inc ez113 h106 (by decide) (by decide) (by decide) (by decide) (by decide) (by decide)
        refine lv_iinc (v := z113) (lv' := [(3, .int z113), (2, .int z112), (0, .ref (a 0)), (1, .int p0)]) hx hb dX10_likedOf_24 hl (k := 1) rfl ez113.symm (by decide) rfl (fun ls hl => ?_)
        refine lv_goto (tgt := 4) hx hb dX10_likedOf_27 (by decide) ?_
        exact ih4 z113 z112 _ (iv_mono (c := 0) (d := 8) h114 (by decide) (by decide)) (lv_sub hl [0, 1, 2, 3] rfl) (fu_s (lo := 0) (ti_inc ez113 h106 (by decide) (by decide) (by decide) (by decide)) (by decide) hm4)
  exact lp4 9 0 0 _ (iv_mono (c := 0) (d := 8) (iv_c (by decide) : Iv 0 0 0) (by decide) (by decide)) (lv_sub hl [0, 1, 2, 3] rfl) (fu_i (iv_mono (c := 0) (d := 8) (iv_c (by decide) : Iv 0 0 0) (by decide) (by decide)) (by decide))
