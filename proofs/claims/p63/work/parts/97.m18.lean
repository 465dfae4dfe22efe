def XM (st : CT) : Prop := ∀ k : Nat, k < 3 → ¬ st 3 k = 0 → WOK (fun j => st 2 (168 * k + j))
theorem wok_cong {f g : Nat → Int32} (h : WOK g) (e : ∀ j : Nat, j < 168 → f j = g j) : WOK f := by
  have b := tok_at h.1 7 0 40 (by decide) (by decide) (by decide)
  refine ⟨fun j hj => by rw [e j hj]; exact h.1 j hj, fun j hj => ?_⟩
  rw [e 7 (by decide)] at hj
  have b2 := b.2
  rw [e (128 + j) (by omega)]
  exact h.2 j hj
theorem im_idx {p i z : Int32} (hp : Iv 0 2 p) (hi : Iv 0 167 i) (e : z.toInt = 168 * p.toInt + i.toInt) : z.toNatClampNeg = 168 * p.toNatClampNeg + i.toNatClampNeg := by
  have c1 := cl_int hp (by decide)
  have c2 := cl_int hi (by decide)
  exact cl_of (by rw [e]; omega)
theorem im_a {f g w : Nat → Int32} {q : Nat} {i i2 z v : Int32} (h : ∀ j : Nat, (j : Int) < i.toInt → f (168 * q + j) = w j) (hi : Iv 0 167 i) (e : i2.toInt = i.toInt + 1) (ez : z.toNatClampNeg = 168 * q + i.toNatClampNeg) (ev : v = w i.toNatClampNeg) (eg : g = upd f z.toNatClampNeg v) : ∀ j : Nat, (j : Int) < i2.toInt → g (168 * q + j) = w j := fun j hj => by
  have c := cl_int hi (by decide)
  rw [eg, ez]
  by_cases q2 : j = i.toNatClampNeg
  · rw [q2, upd_at]; exact ev
  · rw [upd_no (by omega)]; exact h j (by omega)
theorem im_b {f g w : Nat → Int32} {q : Nat} {i z v : Int32} (h : ∀ j : Nat, (j < 168 * q ∨ 168 * q + 168 ≤ j) → f j = w j) (hi : Iv 0 167 i) (ez : z.toNatClampNeg = 168 * q + i.toNatClampNeg) (eg : g = upd f z.toNatClampNeg v) : ∀ j : Nat, (j < 168 * q ∨ 168 * q + 168 ≤ j) → g j = w j := fun j hj => by
  have c := cl_int hi (by decide)
  have c2 := hi.2
  rw [eg, ez, upd_no (by omega)]
  exact h j hj
theorem im_c {f g w : Nat → Int32} {i i2 v : Int32} {q : Nat} (h : ∀ j : Nat, (j : Int) < i.toInt → f j = w (168 * q + j)) (hi : Iv 0 167 i) (e : i2.toInt = i.toInt + 1) (ev : v = w (168 * q + i.toNatClampNeg)) (eg : g = upd f i.toNatClampNeg v) : ∀ j : Nat, (j : Int) < i2.toInt → g j = w (168 * q + j) := fun j hj => by
  have c := cl_int hi (by decide)
  rw [eg]
  by_cases q2 : j = i.toNatClampNeg
  · rw [q2, upd_at]; exact ev
  · rw [upd_no q2]; exact h j (by omega)
theorem xm_img {st u : CT} {p : Int32} (h : XM st) (hw : WOK (st 1)) (hp : Iv 0 2 p) (e1 : ∀ j : Nat, j < 168 → u 2 (168 * p.toNatClampNeg + j) = st 1 j) (e2 : ∀ j : Nat, (j < 168 * p.toNatClampNeg ∨ 168 * p.toNatClampNeg + 168 ≤ j) → u 2 j = st 2 j) (e3 : u 3 = upd (st 3) p.toNatClampNeg 1) : XM u := fun k hk hn => by
  by_cases q : k = p.toNatClampNeg
  · subst q
    exact wok_cong hw e1
  · rw [e3, upd_no q] at hn
    exact wok_cong (h k hk hn) (fun j hj => e2 _ (by omega))
theorem xm_fr {st u : CT} (h : XM st) (e2 : u 2 = st 2) (e3 : u 3 = st 3) : XM u := fun k hk hn => by
  rw [e3] at hn
  rw [e2]
  exact h k hk hn
set_option maxHeartbeats 4000000 in
set_option maxRecDepth 100000 in
theorem m_X10_image (l : Launch) (D : va_G) (k : Nat → ClassId) (a : Nat → Nat) (st : CT) (sl : CL) (p0 : Int32) (sz : Nat) (hB : MB st)  (hw : WOK (st 1)) (hM : XM st) : Met l yX10_image (.code yX10_image cX10_image 3 (some .int) :: TB) (rmw 2 0 0) (va_Pc [.ref (a 0), .int p0] (PW D k sz (MWS k a st sl))) (QI D (S := CT) (fun r u => MB u ∧ FR [2, 3] st u ∧ ((r = r_image p0 ∧ XM u ∧ u 3 = k_image (st 3) p0))) (fun u => MWS k a u sl) (fun _ => []) (MWS k a st sl) sz) 0 0 (va_A (MWS k a st sl) sz) := by
  refine Met.ofW (cc := cX10_image) (maxL := 3) (ret := (some .int)) (by decide) rfl ?_
  intro p e s m args below meth c s₁ B hml hv
  obtain ⟨rfl, hsz, hP, hK, hD0, hN⟩ := hv
  have hx := B.exec
  have hb := B.bytes
  have hr := B.returns
  have hT : ∀ w9 ∈ TB, w9.before ([.ref (a 0), .int p0] : List Value).toArray s = true := fun w9 h => atoms_spec (ws := .code yX10_image cX10_image 3 (some .int) :: TB) B.pre w9 (List.mem_cons_of_mem _ h)
  have hown : s.vm.findClass RX10 = some m.cls := findClass_of_methodNamed B.named
  have S : CallFix p m c cX10_image 3 s _ TB RX10 := ⟨hx, hb, hml, hown, hT⟩
  subst hsz
  have hD := hD0.self (sz := s.heap.size)
  generalize hAe : va_A (MWS k a st sl) s.heap.size = A at hD ⊢
  have hA : ∀ q : Nat, s.heap.size ≤ q → A q := fun q h => by rw [← hAe]; exact Or.inr h
  have hS : va_S A s.heap s.heap [] := va_S.rf
  have hl := lv_entry ([.ref (a 0), .int p0]) (n := 3) (Nat.le_of_ble_eq_true rfl)
  rw [lg_entry_eq]
  generalize (lg_sl ([.ref (a 0), .int p0]) ++ List.replicate (3 - (lg_sl ([.ref (a 0), .int p0])).length) Slot.unset).toArray = ls at hl ⊢
  have hl : lv_has ls 3 [(0, .ref (a 0)), (1, .int p0)] := hl
  refine nameQ (fun Q hQ => ?_)
  refine lv_iload_n hx hb dX10_image_0 rfl (lv_at hl 1 rfl) ?_
  refine lv_i2l hx hb dX10_image_1 rfl ?_
  refine lv_lconst (v := 0) hx hb dX10_image_2 (by decide) ?_
  refine lv_ldc2 (v := 2) hx hb hown (hT _ t1381) dX10_image_3 ?_
  refine ro_S (As := [.long (p0.toInt64), .long 0, .long 2]) (rest := []) S (m_X10_in l D k a st sl  (p0.toInt64) 0 2 _  hB  ) lkX10_85 ok_X10_in ⟨rfl, rfl, Nat.le_of_ble_eq_true rfl, Nat.le_of_ble_eq_true rfl⟩ (pw_S hK hN hP (hD.weaken (fun _ _ _ _ => trivial))) rfl hl.1 rfl (Nat.le_of_ble_eq_true rfl) ⟨Nat.zero_le _, Nat.zero_le _⟩ dX10_image_6 (fun r1 er1 => ?_)
  rcases er1 with ⟨rfl, g9⟩ | ⟨rfl, g9⟩
  · skip
    have g2 := g9
    have k3 := g2
    have h4 : (0 : Int) ≤ (p0.toInt64).toInt ∧ (p0.toInt64).toInt ≤ (2 : Int) := ⟨((show (0 : Int) ≤ (p0.toInt64).toInt ∧ (p0.toInt64).toInt ≤ (2 : Int) from ⟨Int.le_trans ((⟨by decide, by decide⟩ : (0 : Int) ≤ (0 : Int64).toInt ∧ (0 : Int64).toInt ≤ (0 : Int))).1 k3.1, Int.le_trans k3.2 ((⟨by decide, by decide⟩ : (2 : Int) ≤ (2 : Int64).toInt ∧ (2 : Int64).toInt ≤ (2 : Int))).2⟩)).1, ((show (0 : Int) ≤ (p0.toInt64).toInt ∧ (p0.toInt64).toInt ≤ (2 : Int) from ⟨Int.le_trans ((⟨by decide, by decide⟩ : (0 : Int) ≤ (0 : Int64).toInt ∧ (0 : Int64).toInt ≤ (0 : Int))).1 k3.1, Int.le_trans k3.2 ((⟨by decide, by decide⟩ : (2 : Int) ≤ (2 : Int64).toInt ∧ (2 : Int64).toInt ≤ (2 : Int))).2⟩)).2⟩
    have h5 : Iv 0 2 p0 := iv_lv h4
    refine lv_if_ne (tgt := 15) hx hb dX10_image_9 (by decide) (fun c6 => ?_) (fun c6 => ?_)
    rotate_left
    · first | exact absurd c6 (by decide) | exact absurd (by decide) c6
    refine lv_iconst (v := 0) hx hb dX10_image_15 (by decide) ?_
    refine lv_istore_n (lv' := [(2, .int 0), (0, .ref (a 0)), (1, .int p0)]) hx hb dX10_image_16 rfl hl (by decide) rfl (fun ls hl => ?_)
    have lp17 : ∀ (n9_17 : Nat) (v2_17 : Int32) (t17 : CT) (H9 : Heap) (locs9 : List Loc) (ls : Array Slot), Iv 0 255 v2_17 → (∀ j : Nat, (j : Int) < v2_17.toInt → t17 2 (168 * p0.toNatClampNeg + j) = st 1 j) → (∀ j : Nat, (j < 168 * p0.toNatClampNeg ∨ 168 * p0.toNatClampNeg + 168 ≤ j) → t17 2 j = st 2 j) → MB t17 → FR [2] st t17 → va_P D vwCl (MWS k a t17 sl) H9 → va_D A (MWS k a t17 sl) → va_S A s.heap H9 locs9 → lv_has ls 3 [(2, .int v2_17), (0, .ref (a 0)), (1, .int p0)] → (255 : Int) - v2_17.toInt < (n9_17 : Int) → W p l e (rmw 2 0 0) s m ([.ref (a 0), .int p0] : List Value).toArray below meth c H9 locs9 0 0 Q (F0 m 17 ls []) := by
      clear hl hP hD hS
      intro n9_17
      induction n9_17 with
      | zero =>
        intro v2_17 t17 H9 locs9 ls iv2_17 rel17_0 rel17_1 hBt17 gt17 hP hD hS hl hm17
        exact (fu_0 iv2_17 hm17).elim
      | succ n9_17 ih17 =>
        intro v2_17 t17 H9 locs9 ls iv2_17 rel17_0 rel17_1 hBt17 gt17 hP hD hS hl hm17
        have hFt17 : FR [2, 3] st t17 := fr_ca fr_rf gt17 (sub_1 (List.mem_of_getElem? (i := 0) rfl) sub_0)
        refine lv_iload_n hx hb dX10_image_17 rfl (lv_at hl 0 rfl) ?_
        refine lv_sipush (v := 168) hx hb dX10_image_18 (by decide) ?_
        refine lv_icmp_ge (tgt := 48) hx hb dX10_image_21 (by decide) (fun c306 => ?_) (fun c306 => ?_)
        · skip
          have n307 : (168 : Int32).toInt ≤ v2_17.toInt := (i_le c306)
          have h308 : Iv 168 255 v2_17 := le_r (iv_c (by decide) : Iv 168 168 168) n307 iv2_17 (by decide)
          refine lv_aload_n hx hb dX10_image_48 rfl (lv_at hl 1 rfl) ?_
          refine va_get (D := D) (ci := 10) (v := .ref (a 3)) (C := RX10) (T := TX10) (N := 38) hx hb hT in_X10 hown hK hP 0 mw_0 rfl 3 (by decide) (hT _ t1265) (fun _ h9 => h9) rfl dX10_image_49 ?_
          refine lv_iload_n hx hb dX10_image_52 rfl (lv_at hl 2 rfl) ?_
          refine lv_iconst (v := 1) hx hb dX10_image_53 (by decide) ?_
          refine c_zst hx hb hK hP hD hS mw_3 ms_3 (iv_in h5 (by decide) (by decide)) dX10_image_54 (fun s309 H9 locs9 es309 hP9 hD9 hS9 => ?_)
          clear hP hD hS
          have hS := hS9
          have hP := hP9
          have hD := hD9
          clear hP9 hD9 hS9
          have hBs309 : MB s309 := by rw [es309]; exact mb_sw hBt17 trivial
          have hFs309 : FR [2, 3] st s309 := fr_sw hFt17 (List.mem_of_getElem? (i := 1) rfl) es309
          refine lv_iconst (v := 0) hx hb dX10_image_55 (by decide) ?_
          rw [hQ]
          exact W.iret (v := 0) hx hb hr (fun t ht hW => ⟨⟨0, s309, rfl, ⟨hBs309, hFs309, ⟨(by obtain ⟨y1, y2⟩ := id (h5); unfold r_image; rw [if_pos ⟨by omega, by omega⟩]), xm_img hM hw h5 (fun j9 h9 => by rw [(sw_at es309 (by decide))]; exact rel17_0 j9 (by have y9 := (h308).1; omega)) (fun j9 h9 => by rw [(sw_at es309 (by decide))]; exact rel17_1 j9 h9) (Eq.trans (sw_it es309) (congrArg (fun f9 => upd f9 (p0).toNatClampNeg (vp_nar .boolean 1)) (gt17 3 (nm_1 (by decide) nm_0)))), by obtain ⟨y1, y2⟩ := id (h5); unfold k_image; rw [if_pos ⟨by omega, by omega⟩]; exact (Eq.trans (sw_it es309) (congrArg (fun f9 => upd f9 (p0).toNatClampNeg (vp_nar .boolean 1)) (gt17 3 (nm_1 (by decide) nm_0))))⟩⟩, by rw [ht]; exact hP, va_K.moved hW.alike (hK.sub (tys' := []) [] rfl), by rw [hAe]; exact hD⟩, by rw [hAe]; exact hS.F ht⟩) hS.2.2 dX10_image_56
        · skip
          have n310 : v2_17.toInt < (168 : Int32).toInt := (i_nle c306)
          have h311 : Iv 0 167 v2_17 := lt_l iv2_17 n310 (iv_c (by decide) : Iv 168 168 168) (by decide)
          refine lv_aload_n hx hb dX10_image_24 rfl (lv_at hl 1 rfl) ?_
          refine va_get (D := D) (ci := 10) (v := .ref (a 2)) (C := RX10) (T := TX10) (N := 38) hx hb hT in_X10 hown hK hP 0 mw_0 rfl 2 (by decide) (hT _ t1264) (fun _ h9 => h9) rfl dX10_image_25 ?_
          refine lv_sipush (v := 168) hx hb dX10_image_28 (by decide) ?_
          refine lv_iload_n hx hb dX10_image_31 rfl (lv_at hl 2 rfl) ?_
          refine lv_imul hx hb dX10_image_32 ?_
          refine lv_topi (fun z312 ez312 => ?_)
          have h313 : Iv 0 336 z312 := iv_mull ez312 h5 (k := 168) (by decide) (by decide) (by decide) (by decide) (by decide) (by decide)
          refine lv_iload_n hx hb dX10_image_33 rfl (lv_at hl 0 rfl) ?_
          refine lv_iadd hx hb dX10_image_34 ?_
          refine lv_topi (fun z314 ez314 => ?_)
          have h315 : Iv 0 503 z314 := iv_add ez314 h313 h311 (by decide) (by decide) (by decide) (by decide)
          refine lv_aload_n hx hb dX10_image_35 rfl (lv_at hl 1 rfl) ?_
          refine va_get (D := D) (ci := 10) (v := .ref (a 1)) (C := RX10) (T := TX10) (N := 38) hx hb hT in_X10 hown hK hP 0 mw_0 rfl 1 (by decide) (hT _ t1263) (fun _ h9 => h9) rfl dX10_image_36 ?_
          refine lv_iload_n hx hb dX10_image_39 rfl (lv_at hl 0 rfl) ?_
          refine va_iald hx hb hK hP 1 0 mw_1 rfl (iv_in h311 (by decide) (by decide)) dX10_image_40 ?_
          refine lv_topi (fun z316 ez316 => ?_)
          refine c_ist hx hb hK hP hD hS mw_2 ms_2 (iv_in h315 (by decide) (by decide)) dX10_image_41 (fun s317 H9 locs9 es317 hP9 hD9 hS9 => ?_)
          clear hP hD hS
          have hS := hS9
          have hP := hP9
          have hD := hD9
          clear hP9 hD9 hS9
          have hBs317 : MB s317 := by rw [es317]; exact mb_sw hBt17 trivial
          have hFs317 : FR [2, 3] st s317 := fr_sw hFt17 (List.mem_of_getElem? (i := 0) rfl) es317
          obtain ⟨z318, ez318⟩ : ∃ z9 : Int32, z9 = v2_17 + Int32.ofInt 1 := ⟨_, rfl⟩
          have h319 : Iv 1 168 z318 := iv_inc ez318 h311 (by decide) (by decide) (by decide) (by decide) (by decide) (by decide)
          refine lv_iinc (v := z318) (lv' := [(2, .int z318), (0, .ref (a 0)), (1, .int p0)]) hx hb dX10_image_42 hl (k := 0) rfl ez318.symm (by decide) rfl (fun ls hl => ?_)
          refine lv_goto (tgt := 17) hx hb dX10_image_45 (by decide) ?_
          exact ih17 z318 s317 _ _ _ (iv_mono (c := 0) (d := 255) h319 (by decide) (by decide)) (im_a rel17_0 h311 (ti_inc ez318 h311 (by decide) (by decide) (by decide) (by decide)) (im_idx h5 h311 (by have _c336 : (168 : Int32).toInt = 168 := rfl; have _ez312 := ti_mull ez312 h5 (k := 168) (by decide) (by decide) (by decide) (by decide); have _ez314 := ti_add ez314 h313 h311 (by decide) (by decide); omega)) (by rw [ez316, (hFt17 1 (nm_1 (by decide) (nm_1 (by decide) nm_0)))]) (sw_it es317)) (im_b rel17_1 h311 (im_idx h5 h311 (by have _c336 : (168 : Int32).toInt = 168 := rfl; have _ez312 := ti_mull ez312 h5 (k := 168) (by decide) (by decide) (by decide) (by decide); have _ez314 := ti_add ez314 h313 h311 (by decide) (by decide); omega)) (sw_it es317)) hBs317 (fr_sw gt17 (List.mem_of_getElem? (i := 0) rfl) es317) hP hD hS (lv_sub hl [0, 1, 2] rfl) (fu_s (lo := 0) (ti_inc ez318 h311 (by decide) (by decide) (by decide) (by decide)) (by decide) hm17)
    exact lp17 256 0 st _ _ _ (iv_mono (c := 0) (d := 255) (iv_c (by decide) : Iv 0 0 0) (by decide) (by decide)) (fun j9 h9 => absurd h9 (by have z9 : (0 : Int32).toInt = 0 := rfl; omega)) (fun _ _ => rfl) hB fr_rf hP hD hS (lv_sub hl [0, 1, 2] rfl) (fu_i (iv_mono (c := 0) (d := 255) (iv_c (by decide) : Iv 0 0 0) (by decide) (by decide)) (by decide))
  · skip
    have g320 := g9
    have k321 := g320
    have k322 : ¬ ((0 : Int) ≤ p0.toInt ∧ p0.toInt ≤ (2 : Int)) := (by have y9 := k321; simp only [l_ti] at y9; exact y9)
    refine lv_if_ne (tgt := 15) hx hb dX10_image_9 (by decide) (fun c323 => ?_) (fun c323 => ?_)
    · first | exact absurd c323 (by decide) | exact absurd (by decide) c323
    refine lv_bipush (v := (-2)) hx hb dX10_image_12 (by decide) ?_
    rw [hQ]
    exact W.iret (v := (-2)) hx hb hr (fun t ht hW => ⟨⟨(-2), st, rfl, ⟨hB, fr_rf, ⟨(by obtain ⟨y1, y2⟩ := id ((iv_full p0)); unfold r_image; rw [if_neg (by omega)]), hM, by obtain ⟨y1, y2⟩ := id ((iv_full p0)); unfold k_image; rw [if_neg (by omega)]⟩⟩, by rw [ht]; exact hP, va_K.moved hW.alike (hK.sub (tys' := []) [] rfl), by rw [hAe]; exact hD⟩, by rw [hAe]; exact hS.F ht⟩) hS.2.2 dX10_image_14
set_option maxHeartbeats 4000000 in
set_option maxRecDepth 100000 in
theorem m_X10_back (l : Launch) (D : va_G) (k : Nat → ClassId) (a : Nat → Nat) (st : CT) (sl : CL) (p0 : Int32) (sz : Nat) (hB : MB st)  (hw : WOK (st 1)) (hM : XM st) : Met l yX10_back (.code yX10_back cX10_back 3 (some .int) :: TB) (rmw 2 0 0) (va_Pc [.ref (a 0), .int p0] (PW D k sz (MWS k a st sl))) (QI D (S := CT) (fun r u => MB u ∧ FR [1] st u ∧ ((r = r_back (st 3) p0 ∧ WOK (u 1)))) (fun u => MWS k a u sl) (fun _ => []) (MWS k a st sl) sz) 0 0 (va_A (MWS k a st sl) sz) := by
  refine Met.ofW (cc := cX10_back) (maxL := 3) (ret := (some .int)) (by decide) rfl ?_
  intro p e s m args below meth c s₁ B hml hv
  obtain ⟨rfl, hsz, hP, hK, hD0, hN⟩ := hv
  have hx := B.exec
  have hb := B.bytes
  have hr := B.returns
  have hT : ∀ w9 ∈ TB, w9.before ([.ref (a 0), .int p0] : List Value).toArray s = true := fun w9 h => atoms_spec (ws := .code yX10_back cX10_back 3 (some .int) :: TB) B.pre w9 (List.mem_cons_of_mem _ h)
  have hown : s.vm.findClass RX10 = some m.cls := findClass_of_methodNamed B.named
  have S : CallFix p m c cX10_back 3 s _ TB RX10 := ⟨hx, hb, hml, hown, hT⟩
  subst hsz
  have hD := hD0.self (sz := s.heap.size)
  generalize hAe : va_A (MWS k a st sl) s.heap.size = A at hD ⊢
  have hA : ∀ q : Nat, s.heap.size ≤ q → A q := fun q h => by rw [← hAe]; exact Or.inr h
  have hS : va_S A s.heap s.heap [] := va_S.rf
  have hl := lv_entry ([.ref (a 0), .int p0]) (n := 3) (Nat.le_of_ble_eq_true rfl)
  rw [lg_entry_eq]
  generalize (lg_sl ([.ref (a 0), .int p0]) ++ List.replicate (3 - (lg_sl ([.ref (a 0), .int p0])).length) Slot.unset).toArray = ls at hl ⊢
  have hl : lv_has ls 3 [(0, .ref (a 0)), (1, .int p0)] := hl
  refine nameQ (fun Q hQ => ?_)
  refine lv_iload_n hx hb dX10_back_0 rfl (lv_at hl 1 rfl) ?_
  refine lv_i2l hx hb dX10_back_1 rfl ?_
  refine lv_lconst (v := 0) hx hb dX10_back_2 (by decide) ?_
  refine lv_ldc2 (v := 2) hx hb hown (hT _ t1381) dX10_back_3 ?_
  refine ro_S (As := [.long (p0.toInt64), .long 0, .long 2]) (rest := []) S (m_X10_in l D k a st sl  (p0.toInt64) 0 2 _  hB  ) lkX10_85 ok_X10_in ⟨rfl, rfl, Nat.le_of_ble_eq_true rfl, Nat.le_of_ble_eq_true rfl⟩ (pw_S hK hN hP (hD.weaken (fun _ _ _ _ => trivial))) rfl hl.1 rfl (Nat.le_of_ble_eq_true rfl) ⟨Nat.zero_le _, Nat.zero_le _⟩ dX10_back_6 (fun r1 er1 => ?_)
  rcases er1 with ⟨rfl, g9⟩ | ⟨rfl, g9⟩
  · skip
    have g2 := g9
    have k3 := g2
    have h4 : (0 : Int) ≤ (p0.toInt64).toInt ∧ (p0.toInt64).toInt ≤ (2 : Int) := ⟨((show (0 : Int) ≤ (p0.toInt64).toInt ∧ (p0.toInt64).toInt ≤ (2 : Int) from ⟨Int.le_trans ((⟨by decide, by decide⟩ : (0 : Int) ≤ (0 : Int64).toInt ∧ (0 : Int64).toInt ≤ (0 : Int))).1 k3.1, Int.le_trans k3.2 ((⟨by decide, by decide⟩ : (2 : Int) ≤ (2 : Int64).toInt ∧ (2 : Int64).toInt ≤ (2 : Int))).2⟩)).1, ((show (0 : Int) ≤ (p0.toInt64).toInt ∧ (p0.toInt64).toInt ≤ (2 : Int) from ⟨Int.le_trans ((⟨by decide, by decide⟩ : (0 : Int) ≤ (0 : Int64).toInt ∧ (0 : Int64).toInt ≤ (0 : Int))).1 k3.1, Int.le_trans k3.2 ((⟨by decide, by decide⟩ : (2 : Int) ≤ (2 : Int64).toInt ∧ (2 : Int64).toInt ≤ (2 : Int))).2⟩)).2⟩
    have h5 : Iv 0 2 p0 := iv_lv h4
    refine lv_if_ne (tgt := 15) hx hb dX10_back_9 (by decide) (fun c6 => ?_) (fun c6 => ?_)
    rotate_left
    · first | exact absurd c6 (by decide) | exact absurd (by decide) c6
    refine lv_aload_n hx hb dX10_back_15 rfl (lv_at hl 0 rfl) ?_
    refine va_get (D := D) (ci := 10) (v := .ref (a 3)) (C := RX10) (T := TX10) (N := 38) hx hb hT in_X10 hown hK hP 0 mw_0 rfl 3 (by decide) (hT _ t1265) (fun _ h9 => h9) rfl dX10_back_16 ?_
    refine lv_iload_n hx hb dX10_back_19 rfl (lv_at hl 1 rfl) ?_
    refine va_zald hx hb hK hP 3 3 mw_3 rfl (iv_in h5 (by decide) (by decide)) dX10_back_20 ?_
    refine lv_topi (fun z7 ez7 => ?_)
    refine lv_if_ne (tgt := 27) hx hb dX10_back_21 (by decide) (fun c8 => ?_) (fun c8 => ?_)
    · skip
      refine lv_iconst (v := 0) hx hb dX10_back_27 (by decide) ?_
      refine lv_istore_n (lv' := [(2, .int 0), (0, .ref (a 0)), (1, .int p0)]) hx hb dX10_back_28 rfl hl (by decide) rfl (fun ls hl => ?_)
      have lp29 : ∀ (n9_29 : Nat) (v2_29 : Int32) (t29 : CT) (H9 : Heap) (locs9 : List Loc) (ls : Array Slot), Iv 0 255 v2_29 → (∀ j : Nat, (j : Int) < v2_29.toInt → t29 1 j = st 2 (168 * p0.toNatClampNeg + j)) → MB t29 → FR [1] st t29 → va_P D vwCl (MWS k a t29 sl) H9 → va_D A (MWS k a t29 sl) → va_S A s.heap H9 locs9 → lv_has ls 3 [(2, .int v2_29), (0, .ref (a 0)), (1, .int p0)] → (255 : Int) - v2_29.toInt < (n9_29 : Int) → W p l e (rmw 2 0 0) s m ([.ref (a 0), .int p0] : List Value).toArray below meth c H9 locs9 0 0 Q (F0 m 29 ls []) := by
        clear hl hP hD hS
        intro n9_29
        induction n9_29 with
        | zero =>
          intro v2_29 t29 H9 locs9 ls iv2_29 rel29_0 hBt29 gt29 hP hD hS hl hm29
          exact (fu_0 iv2_29 hm29).elim
        | succ n9_29 ih29 =>
          intro v2_29 t29 H9 locs9 ls iv2_29 rel29_0 hBt29 gt29 hP hD hS hl hm29
          have hFt29 : FR [1] st t29 := fr_ca fr_rf gt29 (sub_1 (List.mem_of_getElem? (i := 0) rfl) sub_0)
          refine lv_iload_n hx hb dX10_back_29 rfl (lv_at hl 0 rfl) ?_
          refine lv_sipush (v := 168) hx hb dX10_back_30 (by decide) ?_
          refine lv_icmp_ge (tgt := 60) hx hb dX10_back_33 (by decide) (fun c308 => ?_) (fun c308 => ?_)
          · skip
            have n309 : (168 : Int32).toInt ≤ v2_29.toInt := (i_le c308)
            have h310 : Iv 168 255 v2_29 := le_r (iv_c (by decide) : Iv 168 168 168) n309 iv2_29 (by decide)
            refine lv_iconst (v := 0) hx hb dX10_back_60 (by decide) ?_
            rw [hQ]
            exact W.iret (v := 0) hx hb hr (fun t ht hW => ⟨⟨0, t29, rfl, ⟨hBt29, hFt29, ⟨(by obtain ⟨y1, y2⟩ := id (h5); unfold r_back; rw [if_pos ⟨by omega, by omega⟩]; rw [← ez7]; rw [if_neg c8]), wok_cong (hM p0.toNatClampNeg (iv_cl h5 (by decide) (by decide)) (by rw [← ez7]; exact c8)) (fun j9 h9 => rel29_0 j9 (by have y9 := (h310).1; omega))⟩⟩, by rw [ht]; exact hP, va_K.moved hW.alike (hK.sub (tys' := []) [] rfl), by rw [hAe]; exact hD⟩, by rw [hAe]; exact hS.F ht⟩) hS.2.2 dX10_back_61
          · skip
            have n311 : v2_29.toInt < (168 : Int32).toInt := (i_nle c308)
            have h312 : Iv 0 167 v2_29 := lt_l iv2_29 n311 (iv_c (by decide) : Iv 168 168 168) (by decide)
            refine lv_aload_n hx hb dX10_back_36 rfl (lv_at hl 1 rfl) ?_
            refine va_get (D := D) (ci := 10) (v := .ref (a 1)) (C := RX10) (T := TX10) (N := 38) hx hb hT in_X10 hown hK hP 0 mw_0 rfl 1 (by decide) (hT _ t1263) (fun _ h9 => h9) rfl dX10_back_37 ?_
            refine lv_iload_n hx hb dX10_back_40 rfl (lv_at hl 0 rfl) ?_
            refine lv_aload_n hx hb dX10_back_41 rfl (lv_at hl 1 rfl) ?_
            refine va_get (D := D) (ci := 10) (v := .ref (a 2)) (C := RX10) (T := TX10) (N := 38) hx hb hT in_X10 hown hK hP 0 mw_0 rfl 2 (by decide) (hT _ t1264) (fun _ h9 => h9) rfl dX10_back_42 ?_
            refine lv_sipush (v := 168) hx hb dX10_back_45 (by decide) ?_
            refine lv_iload_n hx hb dX10_back_48 rfl (lv_at hl 2 rfl) ?_
            refine lv_imul hx hb dX10_back_49 ?_
            refine lv_topi (fun z313 ez313 => ?_)
            have h314 : Iv 0 336 z313 := iv_mull ez313 h5 (k := 168) (by decide) (by decide) (by decide) (by decide) (by decide) (by decide)
            refine lv_iload_n hx hb dX10_back_50 rfl (lv_at hl 0 rfl) ?_
            refine lv_iadd hx hb dX10_back_51 ?_
            refine lv_topi (fun z315 ez315 => ?_)
            have h316 : Iv 0 503 z315 := iv_add ez315 h314 h312 (by decide) (by decide) (by decide) (by decide)
            refine va_iald hx hb hK hP 2 0 mw_2 rfl (iv_in h316 (by decide) (by decide)) dX10_back_52 ?_
            refine lv_topi (fun z317 ez317 => ?_)
            refine c_ist hx hb hK hP hD hS mw_1 ms_1 (iv_in h312 (by decide) (by decide)) dX10_back_53 (fun s318 H9 locs9 es318 hP9 hD9 hS9 => ?_)
            clear hP hD hS
            have hS := hS9
            have hP := hP9
            have hD := hD9
            clear hP9 hD9 hS9
            have hBs318 : MB s318 := by rw [es318]; exact mb_sw hBt29 trivial
            have hFs318 : FR [1] st s318 := fr_sw hFt29 (List.mem_of_getElem? (i := 0) rfl) es318
            obtain ⟨z319, ez319⟩ : ∃ z9 : Int32, z9 = v2_29 + Int32.ofInt 1 := ⟨_, rfl⟩
            have h320 : Iv 1 168 z319 := iv_inc ez319 h312 (by decide) (by decide) (by decide) (by decide) (by decide) (by decide)
            refine lv_iinc (v := z319) (lv' := [(2, .int z319), (0, .ref (a 0)), (1, .int p0)]) hx hb dX10_back_54 hl (k := 0) rfl ez319.symm (by decide) rfl (fun ls hl => ?_)
            refine lv_goto (tgt := 29) hx hb dX10_back_57 (by decide) ?_
            exact ih29 z319 s318 _ _ _ (iv_mono (c := 0) (d := 255) h320 (by decide) (by decide)) (im_c rel29_0 h312 (ti_inc ez319 h312 (by decide) (by decide) (by decide) (by decide)) (by rw [ez317, (hFt29 2 (nm_1 (by decide) nm_0)), (im_idx h5 h312 (by have _c336 : (168 : Int32).toInt = 168 := rfl; have _ez313 := ti_mull ez313 h5 (k := 168) (by decide) (by decide) (by decide) (by decide); have _ez315 := ti_add ez315 h314 h312 (by decide) (by decide); omega))]) (sw_it es318)) hBs318 (fr_sw gt29 (List.mem_of_getElem? (i := 0) rfl) es318) hP hD hS (lv_sub hl [0, 1, 2] rfl) (fu_s (lo := 0) (ti_inc ez319 h312 (by decide) (by decide) (by decide) (by decide)) (by decide) hm29)
      exact lp29 256 0 st _ _ _ (iv_mono (c := 0) (d := 255) (iv_c (by decide) : Iv 0 0 0) (by decide) (by decide)) (fun j9 h9 => absurd h9 (by have z9 : (0 : Int32).toInt = 0 := rfl; omega)) hB fr_rf hP hD hS (lv_sub hl [0, 1, 2] rfl) (fu_i (iv_mono (c := 0) (d := 255) (iv_c (by decide) : Iv 0 0 0) (by decide) (by decide)) (by decide))
    · skip
      have h321 : Iv 0 0 z7 := eq_l c8 (iv_c (by decide) : Iv 0 0 0)
      refine lv_bipush (v := (-6)) hx hb dX10_back_24 (by decide) ?_
      rw [hQ]
      exact W.iret (v := (-6)) hx hb hr (fun t ht hW => ⟨⟨(-6), st, rfl, ⟨hB, fr_rf, ⟨(by obtain ⟨y1, y2⟩ := id (h5); unfold r_back; rw [if_pos ⟨by omega, by omega⟩]; rw [← ez7]; rw [if_pos c8]), hw⟩⟩, by rw [ht]; exact hP, va_K.moved hW.alike (hK.sub (tys' := []) [] rfl), by rw [hAe]; exact hD⟩, by rw [hAe]; exact hS.F ht⟩) hS.2.2 dX10_back_26
  · skip
    have g322 := g9
    have k323 := g322
    have k324 : ¬ ((0 : Int) ≤ p0.toInt ∧ p0.toInt ≤ (2 : Int)) := (by have y9 := k323; simp only [l_ti] at y9; exact y9)
    refine lv_if_ne (tgt := 15) hx hb dX10_back_9 (by decide) (fun c325 => ?_) (fun c325 => ?_)
    · first | exact absurd c325 (by decide) | exact absurd (by decide) c325
    refine lv_bipush (v := (-2)) hx hb dX10_back_12 (by decide) ?_
    rw [hQ]
    exact W.iret (v := (-2)) hx hb hr (fun t ht hW => ⟨⟨(-2), st, rfl, ⟨hB, fr_rf, ⟨(by obtain ⟨y1, y2⟩ := id ((iv_full p0)); unfold r_back; rw [if_neg (by omega)]; skip), hw⟩⟩, by rw [ht]; exact hP, va_K.moved hW.alike (hK.sub (tys' := []) [] rfl), by rw [hAe]; exact hD⟩, by rw [hAe]; exact hS.F ht⟩) hS.2.2 dX10_back_14
