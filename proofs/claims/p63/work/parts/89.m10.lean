def FS (f : Nat → Int32) : Nat := (f 0).toInt.toNat + (f 1).toInt.toNat + (f 2).toInt.toNat + (f 3).toInt.toNat + (f 4).toInt.toNat + (f 5).toInt.toNat
def FB (f : Nat → Int32) : Prop := ∀ j : Nat, j < 6 → Iv 0 1000000000 (f j)
theorem fb_upd {f : Nat → Int32} {i v : Int32} (h : FB f) (hv : Iv 0 1000000000 v) : FB (upd f i.toNatClampNeg v) := fun j hj => by
  by_cases q : j = i.toNatClampNeg
  · rw [q, upd_at]; exact hv
  · rw [upd_no q]; exact h j hj
theorem fs_upd {f : Nat → Int32} {i v : Int32} (hi : Iv 0 5 i) (hv : 0 ≤ v.toInt) (hl : v.toInt < (f i.toNatClampNeg).toInt) : FS (upd f i.toNatClampNeg v) < FS f := by
  rcases iv_ca6 hi 0 1 2 3 4 5 (by decide) (by decide) (by decide) (by decide) (by decide) (by decide) (by decide) with q | q | q | q | q | q
  all_goals
    subst q
    unfold FS
    simp [upd] at hl ⊢
    (try simp only [Int32.toNatClampNeg] at hl)
    (try simp only [Int32.toNatClampNeg])
    omega
theorem fs_0 {f : Nat → Int32} (h : FB f) : FS f < 6000000001 := by
  have h0 := (h 0 (by decide)).2
  have h1 := (h 1 (by decide)).2
  have h2 := (h 2 (by decide)).2
  have h3 := (h 3 (by decide)).2
  have h4 := (h 4 (by decide)).2
  have h5 := (h 5 (by decide)).2
  unfold FS
  omega
set_option maxHeartbeats 4000000 in
set_option maxRecDepth 100000 in
theorem m_X10_far (l : Launch) (D : va_G) (k : Nat → ClassId) (a : Nat → Nat) (st : CT) (sl : CL) (p0 : Int32) (p1 : Int32) (sz : Nat) (hB : MB st)  (hw : WOK (st 1)) : Met l yX10_far (.code yX10_far cX10_far 7 (some .int) :: TB) (rmw 3 0 0) (va_Pc [.ref (a 0), .int p0, .int p1] (PW D k sz (MWS k a st sl))) (QI D (S := CT) (fun r u => MB u ∧ FR [15] st u ∧ ((True))) (fun u => MWS k a u sl) (fun _ => []) (MWS k a st sl) sz) 0 0 (va_A (MWS k a st sl) sz) := by
  refine Met.ofW (cc := cX10_far) (maxL := 7) (ret := (some .int)) (by decide) rfl ?_
  intro p e s m args below meth c s₁ B hml hv
  obtain ⟨rfl, hsz, hP, hK, hD0, hN⟩ := hv
  have hx := B.exec
  have hb := B.bytes
  have hr := B.returns
  have hT : ∀ w9 ∈ TB, w9.before ([.ref (a 0), .int p0, .int p1] : List Value).toArray s = true := fun w9 h => atoms_spec (ws := .code yX10_far cX10_far 7 (some .int) :: TB) B.pre w9 (List.mem_cons_of_mem _ h)
  have hown : s.vm.findClass RX10 = some m.cls := findClass_of_methodNamed B.named
  have S : CallFix p m c cX10_far 7 s _ TB RX10 := ⟨hx, hb, hml, hown, hT⟩
  subst hsz
  have hD := hD0.self (sz := s.heap.size)
  generalize hAe : va_A (MWS k a st sl) s.heap.size = A at hD ⊢
  have hA : ∀ q : Nat, s.heap.size ≤ q → A q := fun q h => by rw [← hAe]; exact Or.inr h
  have hS : va_S A s.heap s.heap [] := va_S.rf
  have hl := lv_entry ([.ref (a 0), .int p0, .int p1]) (n := 7) (Nat.le_of_ble_eq_true rfl)
  rw [lg_entry_eq]
  generalize (lg_sl ([.ref (a 0), .int p0, .int p1]) ++ List.replicate (7 - (lg_sl ([.ref (a 0), .int p0, .int p1])).length) Slot.unset).toArray = ls at hl ⊢
  have hl : lv_has ls 7 [(0, .ref (a 0)), (1, .int p0), (2, .int p1)] := hl
  refine nameQ (fun Q hQ => ?_)
  refine lv_aload_n hx hb dX10_far_0 rfl (lv_at hl 0 rfl) ?_
  refine lv_iload_n hx hb dX10_far_1 rfl (lv_at hl 1 rfl) ?_
  refine lv_i2l hx hb dX10_far_2 rfl ?_
  refine ro_V (As := [.long (p0.toInt64)]) (rest := []) S (m_X10_isPlace l D k a st sl  (p0.toInt64) _  hB  hw) lkX10_282 ok_X10_isPlace ⟨rfl, rfl, Nat.le_of_ble_eq_true rfl, Nat.le_of_ble_eq_true rfl⟩ (pw_V (ci := 10) (q0 := 0) hK hN rfl mw_0 hP (hD.weaken (fun _ _ _ _ => trivial))) rfl hl.1 rfl (Nat.le_of_ble_eq_true rfl) ⟨Nat.zero_le _, Nat.zero_le _⟩ dX10_far_3 (fun r1 er1 => ?_)
  rcases er1 with ⟨rfl, g9⟩ | ⟨rfl, g9⟩
  · skip
    have g2 := g9
    have h3 : (0 : Int) ≤ (p0.toInt64).toInt ∧ (p0.toInt64).toInt ≤ (5 : Int) := ⟨(g2).1, (g2).2⟩
    have h4 : Iv 0 5 p0 := iv_lv h3
    refine lv_if_eq (tgt := 18) hx hb dX10_far_6 (by decide) (fun c5 => ?_) (fun c5 => ?_)
    · first | exact absurd c5 (by decide) | exact absurd (by decide) c5
    refine lv_aload_n hx hb dX10_far_9 rfl (lv_at hl 0 rfl) ?_
    refine lv_iload_n hx hb dX10_far_10 rfl (lv_at hl 2 rfl) ?_
    refine lv_i2l hx hb dX10_far_11 rfl ?_
    refine ro_V (As := [.long (p1.toInt64)]) (rest := []) S (m_X10_isPlace l D k a st sl  (p1.toInt64) _  hB  hw) lkX10_282 ok_X10_isPlace ⟨rfl, rfl, Nat.le_of_ble_eq_true rfl, Nat.le_of_ble_eq_true rfl⟩ (pw_V (ci := 10) (q0 := 0) hK hN rfl mw_0 hP (hD.weaken (fun _ _ _ _ => trivial))) rfl hl.1 rfl (Nat.le_of_ble_eq_true rfl) ⟨Nat.zero_le _, Nat.zero_le _⟩ dX10_far_12 (fun r6 er6 => ?_)
    rcases er6 with ⟨rfl, g9⟩ | ⟨rfl, g9⟩
    · skip
      have g7 := g9
      have h8 : (0 : Int) ≤ (p1.toInt64).toInt ∧ (p1.toInt64).toInt ≤ (5 : Int) := ⟨(g7).1, (g7).2⟩
      have h9 : Iv 0 5 p1 := iv_lv h8
      refine lv_if_ne (tgt := 21) hx hb dX10_far_15 (by decide) (fun c10 => ?_) (fun c10 => ?_)
      rotate_left
      · first | exact absurd c10 (by decide) | exact absurd (by decide) c10
      refine lv_iconst (v := 0) hx hb dX10_far_21 (by decide) ?_
      refine lv_istore_n (lv' := [(3, .int 0), (0, .ref (a 0)), (1, .int p0), (2, .int p1)]) hx hb dX10_far_22 rfl hl (by decide) rfl (fun ls hl => ?_)
      have lp23 : ∀ (n9_23 : Nat) (v3_23 : Int32) (t23 : CT) (H9 : Heap) (locs9 : List Loc) (ls : Array Slot), Iv 0 6 v3_23 → (∀ j : Nat, (j : Int) < v3_23.toInt → Iv 0 1000000000 (t23 15 j)) → MB t23 → FR [15] st t23 → va_P D vwCl (MWS k a t23 sl) H9 → va_D A (MWS k a t23 sl) → va_S A s.heap H9 locs9 → lv_has ls 7 [(3, .int v3_23), (0, .ref (a 0)), (1, .int p0), (2, .int p1)] → (6 : Int) - v3_23.toInt < (n9_23 : Int) → W p l e (rmw 3 0 0) s m ([.ref (a 0), .int p0, .int p1] : List Value).toArray below meth c H9 locs9 0 0 Q (F0 m 23 ls []) := by
        clear hl hP hD hS
        intro n9_23
        induction n9_23 with
        | zero =>
          intro v3_23 t23 H9 locs9 ls iv3_23 rel23_0 hBt23 gt23 hP hD hS hl hm23
          exact (fu_0 iv3_23 hm23).elim
        | succ n9_23 ih23 =>
          intro v3_23 t23 H9 locs9 ls iv3_23 rel23_0 hBt23 gt23 hP hD hS hl hm23
          have hFt23 : FR [15] st t23 := fr_ca fr_rf gt23 (sub_1 (List.mem_of_getElem? (i := 0) rfl) sub_0)
          refine lv_iload_n hx hb dX10_far_23 rfl (lv_at hl 0 rfl) ?_
          refine lv_bipush (v := 6) hx hb dX10_far_24 (by decide) ?_
          refine lv_icmp_ge (tgt := 53) hx hb dX10_far_26 (by decide) (fun c88 => ?_) (fun c88 => ?_)
          · skip
            have n89 : (6 : Int32).toInt ≤ v3_23.toInt := (i_le c88)
            have h90 : Iv 6 6 v3_23 := le_r (iv_c (by decide) : Iv 6 6 6) n89 iv3_23 (by decide)
            refine lv_iconst (v := 1) hx hb dX10_far_53 (by decide) ?_
            refine lv_istore_n (lv' := [(3, .int 1), (0, .ref (a 0)), (1, .int p0), (2, .int p1)]) hx hb dX10_far_54 rfl hl (by decide) rfl (fun ls hl => ?_)
            have lp55 : ∀ (n9_55 : Nat) (v3_55 : Int32) (t55 : CT) (H9 : Heap) (locs9 : List Loc) (ls : Array Slot), Iv 0 1 v3_55 → FB (t55 15) → MB t55 → FR [15] t23 t55 → va_P D vwCl (MWS k a t55 sl) H9 → va_D A (MWS k a t55 sl) → va_S A s.heap H9 locs9 → lv_has ls 7 [(3, .int v3_55), (0, .ref (a 0)), (1, .int p0), (2, .int p1)] → 2 * FS (t55 15) + v3_55.toInt.toNat < n9_55 → W p l e (rmw 3 0 0) s m ([.ref (a 0), .int p0, .int p1] : List Value).toArray below meth c H9 locs9 0 0 Q (F0 m 55 ls []) := by
              clear hl hP hD hS
              intro n9_55
              induction n9_55 with
              | zero =>
                intro v3_55 t55 H9 locs9 ls iv3_55 rel55_0 hBt55 gt55 hP hD hS hl hm55
                exact absurd hm55 (Nat.not_lt_zero _)
              | succ n9_55 ih55 =>
                intro v3_55 t55 H9 locs9 ls iv3_55 rel55_0 hBt55 gt55 hP hD hS hl hm55
                have hFt55 : FR [15] st t55 := fr_ca hFt23 gt55 (sub_1 (List.mem_of_getElem? (i := 0) rfl) sub_0)
                refine lv_iload_n hx hb dX10_far_55 rfl (lv_at hl 0 rfl) ?_
                refine lv_if_eq (tgt := 163) hx hb dX10_far_56 (by decide) (fun c2895 => ?_) (fun c2895 => ?_)
                · skip
                  have h2896 : Iv 0 0 v3_55 := eq_l c2895 (iv_c (by decide) : Iv 0 0 0)
                  refine lv_aload_n hx hb dX10_far_163 rfl (lv_at hl 1 rfl) ?_
                  refine va_get (D := D) (ci := 10) (v := .ref (a 15)) (C := RX10) (T := TX10) (N := 38) hx hb hT in_X10 hown hK hP 0 mw_0 rfl 28 (by decide) (hT _ t1290) (fun _ h9 => h9) rfl dX10_far_164 ?_
                  refine lv_iload_n hx hb dX10_far_167 rfl (lv_at hl 3 rfl) ?_
                  refine va_iald hx hb hK hP 15 0 mw_15 rfl (iv_in h9 (by decide) (by decide)) dX10_far_168 ?_
                  refine lv_topi (fun z2897 ez2897 => ?_)
                  refine lv_ldcw (v := 1000000000) hx hb hown (hT _ t1702) dX10_far_169 ?_
                  refine lv_icmp_lt (tgt := 179) hx hb dX10_far_172 (by decide) (fun c2898 => ?_) (fun c2898 => ?_)
                  · skip
                    have n2899 : z2897.toInt < (1000000000 : Int32).toInt := (i_lt c2898)
                    have h2900 : Iv (-2147483648) 999999999 z2897 := lt_l (iv_full z2897) n2899 (iv_c (by decide) : Iv 1000000000 1000000000 1000000000) (by decide)
                    refine lv_aload_n hx hb dX10_far_179 rfl (lv_at hl 1 rfl) ?_
                    refine va_get (D := D) (ci := 10) (v := .ref (a 15)) (C := RX10) (T := TX10) (N := 38) hx hb hT in_X10 hown hK hP 0 mw_0 rfl 28 (by decide) (hT _ t1290) (fun _ h9 => h9) rfl dX10_far_180 ?_
                    refine lv_iload_n hx hb dX10_far_183 rfl (lv_at hl 3 rfl) ?_
                    refine va_iald hx hb hK hP 15 0 mw_15 rfl (iv_in h9 (by decide) (by decide)) dX10_far_184 ?_
                    refine lv_topi (fun z2901 ez2901 => ?_)
                    rw [hQ]
                    exact W.iret (v := z2901) hx hb hr (fun t ht hW => ⟨⟨z2901, t55, rfl, ⟨hBt55, hFt55, trivial⟩, by rw [ht]; exact hP, va_K.moved hW.alike (hK.sub (tys' := []) [] rfl), by rw [hAe]; exact hD⟩, by rw [hAe]; exact hS.F ht⟩) hS.2.2 dX10_far_185
                  · skip
                    have n2902 : (1000000000 : Int32).toInt ≤ z2897.toInt := (i_nlt c2898)
                    have h2903 : Iv 1000000000 2147483647 z2897 := le_r (iv_c (by decide) : Iv 1000000000 1000000000 1000000000) n2902 (iv_full z2897) (by decide)
                    refine lv_iconst (v := (-1)) hx hb dX10_far_175 (by decide) ?_
                    refine lv_goto (tgt := 185) hx hb dX10_far_176 (by decide) ?_
                    rw [hQ]
                    exact W.iret (v := (-1)) hx hb hr (fun t ht hW => ⟨⟨(-1), t55, rfl, ⟨hBt55, hFt55, trivial⟩, by rw [ht]; exact hP, va_K.moved hW.alike (hK.sub (tys' := []) [] rfl), by rw [hAe]; exact hD⟩, by rw [hAe]; exact hS.F ht⟩) hS.2.2 dX10_far_185
                · skip
                  have h2904 : Iv 1 1 v3_55 := ne_lo iv3_55 c2895 (by decide) (by decide)
                  refine lv_iconst (v := 0) hx hb dX10_far_59 (by decide) ?_
                  refine lv_istore_n (lv' := [(3, .int 0), (0, .ref (a 0)), (1, .int p0), (2, .int p1)]) hx hb dX10_far_60 rfl hl (by decide) rfl (fun ls hl => ?_)
                  refine lv_iconst (v := 0) hx hb dX10_far_61 (by decide) ?_
                  refine lv_istore (lv' := [(4, .int 0), (3, .int 0), (0, .ref (a 0)), (1, .int p0), (2, .int p1)]) hx hb dX10_far_62 hl (by decide) rfl (fun ls hl => ?_)
                  have lp64 : ∀ (n9_64 : Nat) (v4_64 : Int32) (v3_64 : Int32) (t64 : CT) (H9 : Heap) (locs9 : List Loc) (ls : Array Slot), Iv 0 8 v4_64 → Iv 0 1 v3_64 → FB (t64 15) → (2 * FS (t64 15) + v3_64.toInt.toNat ≤ 2 * FS (t55 15)) → MB t64 → FR [15] t55 t64 → va_P D vwCl (MWS k a t64 sl) H9 → va_D A (MWS k a t64 sl) → va_S A s.heap H9 locs9 → lv_has ls 7 [(4, .int v4_64), (3, .int v3_64), (0, .ref (a 0)), (1, .int p0), (2, .int p1)] → (8 : Int) - v4_64.toInt < (n9_64 : Int) → W p l e (rmw 3 0 0) s m ([.ref (a 0), .int p0, .int p1] : List Value).toArray below meth c H9 locs9 0 0 Q (F0 m 64 ls []) := by
                    clear hl hP hD hS
                    intro n9_64
                    induction n9_64 with
                    | zero =>
                      intro v4_64 v3_64 t64 H9 locs9 ls iv4_64 iv3_64 rel64_0 rel64_1 hBt64 gt64 hP hD hS hl hm64
                      exact (fu_0 iv4_64 hm64).elim
                    | succ n9_64 ih64 =>
                      intro v4_64 v3_64 t64 H9 locs9 ls iv4_64 iv3_64 rel64_0 rel64_1 hBt64 gt64 hP hD hS hl hm64
                      have hFt64 : FR [15] st t64 := fr_ca hFt55 gt64 (sub_1 (List.mem_of_getElem? (i := 0) rfl) sub_0)
                      refine lv_iload hx hb dX10_far_64 (lv_at hl 0 rfl) ?_
                      refine lv_aload_n hx hb dX10_far_66 rfl (lv_at hl 2 rfl) ?_
                      refine va_get (D := D) (ci := 10) (v := .ref (a 1)) (C := RX10) (T := TX10) (N := 38) hx hb hT in_X10 hown hK hP 0 mw_0 rfl 1 (by decide) (hT _ t1263) (fun _ h9 => h9) rfl dX10_far_67 ?_
                      refine lv_iconst (v := 2) hx hb dX10_far_70 (by decide) ?_
                      refine va_iald hx hb hK hP 1 0 mw_1 rfl (by unfold vp_in; decide) dX10_far_71 ?_
                      refine k_top (y := (t64 1 2)) rfl ?_
                      refine k_top (y := (st 1 2)) (congrFun (hFt64 1 (nm_1 (by decide) nm_0)) 2) ?_
                      have h4165 : Iv 0 8 (st 1 2) := (tok_at (hw).1 2 0 8 (by decide) (by decide) (by decide))
                      refine lv_icmp_ge (tgt := 160) hx hb dX10_far_72 (by decide) (fun c4166 => ?_) (fun c4166 => ?_)
                      · skip
                        have n4167 : (st 1 2).toInt ≤ v4_64.toInt := (i_le c4166)
                        refine lv_goto (tgt := 55) hx hb dX10_far_160 (by decide) ?_
                        exact ih55 v3_64 t64 _ _ _ iv3_64 rel64_0 hBt64 (fr_ca gt55 gt64 (sub_1 (List.mem_of_getElem? (i := 0) rfl) sub_0)) hP hD hS (lv_sub hl [1, 2, 3, 4] rfl) (by have y9 := rel64_1; have y8 := (h2904).1; omega)
                      · skip
                        have n4168 : v4_64.toInt < (st 1 2).toInt := (i_nle c4166)
                        have h4169 : Iv 0 7 v4_64 := lt_l iv4_64 n4168 h4165 (by decide)
                        have h4170 : Iv 1 8 (st 1 2) := lt_r iv4_64 n4168 h4165 (by decide)
                        refine lv_iconst (v := 0) hx hb dX10_far_75 (by decide) ?_
                        refine lv_istore (lv' := [(5, .int 0), (4, .int v4_64), (3, .int v3_64), (0, .ref (a 0)), (1, .int p0), (2, .int p1)]) hx hb dX10_far_76 hl (by decide) rfl (fun ls hl => ?_)
                        have lp78 : ∀ (n9_78 : Nat) (v5_78 : Int32) (v3_78 : Int32) (t78 : CT) (H9 : Heap) (locs9 : List Loc) (ls : Array Slot), Iv 0 2 v5_78 → Iv 0 1 v3_78 → FB (t78 15) → (2 * FS (t78 15) + v3_78.toInt.toNat ≤ 2 * FS (t55 15)) → MB t78 → FR [15] t64 t78 → va_P D vwCl (MWS k a t78 sl) H9 → va_D A (MWS k a t78 sl) → va_S A s.heap H9 locs9 → lv_has ls 7 [(5, .int v5_78), (4, .int v4_64), (3, .int v3_78), (0, .ref (a 0)), (1, .int p0), (2, .int p1)] → (2 : Int) - v5_78.toInt < (n9_78 : Int) → W p l e (rmw 3 0 0) s m ([.ref (a 0), .int p0, .int p1] : List Value).toArray below meth c H9 locs9 0 0 Q (F0 m 78 ls []) := by
                          clear hl hP hD hS
                          intro n9_78
                          induction n9_78 with
                          | zero =>
                            intro v5_78 v3_78 t78 H9 locs9 ls iv5_78 iv3_78 rel78_0 rel78_1 hBt78 gt78 hP hD hS hl hm78
                            exact (fu_0 iv5_78 hm78).elim
                          | succ n9_78 ih78 =>
                            intro v5_78 v3_78 t78 H9 locs9 ls iv5_78 iv3_78 rel78_0 rel78_1 hBt78 gt78 hP hD hS hl hm78
                            have hFt78 : FR [15] st t78 := fr_ca hFt64 gt78 (sub_1 (List.mem_of_getElem? (i := 0) rfl) sub_0)
                            refine lv_iload hx hb dX10_far_78 (lv_at hl 0 rfl) ?_
                            refine lv_iconst (v := 2) hx hb dX10_far_80 (by decide) ?_
                            refine lv_icmp_ge (tgt := 154) hx hb dX10_far_81 (by decide) (fun c4269 => ?_) (fun c4269 => ?_)
                            · skip
                              have n4270 : (2 : Int32).toInt ≤ v5_78.toInt := (i_le c4269)
                              have h4271 : Iv 2 2 v5_78 := le_r (iv_c (by decide) : Iv 2 2 2) n4270 iv5_78 (by decide)
                              obtain ⟨z4272, ez4272⟩ : ∃ z9 : Int32, z9 = v4_64 + Int32.ofInt 1 := ⟨_, rfl⟩
                              have h4273 : Iv 1 8 z4272 := iv_inc ez4272 h4169 (by decide) (by decide) (by decide) (by decide) (by decide) (by decide)
                              refine lv_iinc (v := z4272) (lv' := [(4, .int z4272), (5, .int v5_78), (3, .int v3_78), (0, .ref (a 0)), (1, .int p0), (2, .int p1)]) hx hb dX10_far_154 hl (k := 1) rfl ez4272.symm (by decide) rfl (fun ls hl => ?_)
                              refine lv_goto (tgt := 64) hx hb dX10_far_157 (by decide) ?_
                              exact ih64 z4272 v3_78 t78 _ _ _ (iv_mono (c := 0) (d := 8) h4273 (by decide) (by decide)) iv3_78 rel78_0 rel78_1 hBt78 (fr_ca gt64 gt78 (sub_1 (List.mem_of_getElem? (i := 0) rfl) sub_0)) hP hD hS (lv_sub hl [0, 2, 3, 4, 5] rfl) (fu_s (lo := 0) (ti_inc ez4272 h4169 (by decide) (by decide) (by decide) (by decide)) (by decide) hm64)
                            · skip
                              have n4274 : v5_78.toInt < (2 : Int32).toInt := (i_nle c4269)
                              have h4275 : Iv 0 1 v5_78 := lt_l iv5_78 n4274 (iv_c (by decide) : Iv 2 2 2) (by decide)
                              refine lv_aload_n hx hb dX10_far_84 rfl (lv_at hl 3 rfl) ?_
                              refine va_get (D := D) (ci := 10) (v := .ref (a 15)) (C := RX10) (T := TX10) (N := 38) hx hb hT in_X10 hown hK hP 0 mw_0 rfl 28 (by decide) (hT _ t1290) (fun _ h9 => h9) rfl dX10_far_85 ?_
                              refine lv_aload_n hx hb dX10_far_88 rfl (lv_at hl 3 rfl) ?_
                              refine lv_iload hx hb dX10_far_89 (lv_at hl 1 rfl) ?_
                              refine lv_iload hx hb dX10_far_91 (lv_at hl 0 rfl) ?_
                              refine ro_V (As := [.int v4_64, .int v5_78]) (rest := [.ref (a 15)]) S (m_X10_end l D k a t78 sl  v4_64 v5_78 _  hBt78 h4169 (iv_mono (c := 0) (d := 2) h4275 (by decide) (by decide)) (wok_of (hFt78 1 (nm_1 (by decide) nm_0)) hw)) lkX10_89 ok_X10_end ⟨rfl, rfl, Nat.le_of_ble_eq_true rfl, Nat.le_of_ble_eq_true rfl⟩ (pw_V (ci := 10) (q0 := 0) hK hN rfl mw_0 hP (hD.weaken (fun _ _ _ _ => trivial))) rfl hl.1 rfl (Nat.le_of_ble_eq_true rfl) ⟨Nat.zero_le _, Nat.zero_le _⟩ dX10_far_93 (fun r4276 er4276 => ?_)
                              have k4277 := er4276
                              have h4278 : Iv 0 5 r4276 := k4277.1 h4275
                              refine va_iald hx hb hK hP 15 0 mw_15 rfl (iv_in h4278 (by decide) (by decide)) dX10_far_96 ?_
                              refine lv_topi (fun z4279 ez4279 => ?_)
                              have h4280 : Iv 0 1000000000 z4279 := (by rw [ez4279]; exact rel78_0 _ (iv_cl h4278 (by decide) (by decide)))
                              refine lv_aload_n hx hb dX10_far_97 rfl (lv_at hl 3 rfl) ?_
                              refine lv_iload hx hb dX10_far_98 (lv_at hl 1 rfl) ?_
                              refine ro_V (As := [.int v4_64]) (rest := [.int z4279]) S (m_X10_milesOf l D k a t78 sl  v4_64 _  hBt78 h4169 (wok_of (hFt78 1 (nm_1 (by decide) nm_0)) hw)) lkX10_253 ok_X10_milesOf ⟨rfl, rfl, Nat.le_of_ble_eq_true rfl, Nat.le_of_ble_eq_true rfl⟩ (pw_V (ci := 10) (q0 := 0) hK hN rfl mw_0 hP (hD.weaken (fun _ _ _ _ => trivial))) rfl hl.1 rfl (Nat.le_of_ble_eq_true rfl) ⟨Nat.zero_le _, Nat.zero_le _⟩ dX10_far_100 (fun r4281 er4281 => ?_)
                              have h4282 : Iv 0 20 r4281 := er4281.1
                              refine lv_iadd hx hb dX10_far_103 ?_
                              refine lv_topi (fun z4283 ez4283 => ?_)
                              have h4284 : Iv 0 1000000020 z4283 := iv_add ez4283 h4280 h4282 (by decide) (by decide) (by decide) (by decide)
                              refine lv_istore (lv' := [(6, .int z4283), (5, .int v5_78), (4, .int v4_64), (3, .int v3_78), (0, .ref (a 0)), (1, .int p0), (2, .int p1)]) hx hb dX10_far_104 hl (by decide) rfl (fun ls hl => ?_)
                              refine lv_iload hx hb dX10_far_106 (lv_at hl 0 rfl) ?_
                              refine lv_aload_n hx hb dX10_far_108 rfl (lv_at hl 4 rfl) ?_
                              refine va_get (D := D) (ci := 10) (v := .ref (a 15)) (C := RX10) (T := TX10) (N := 38) hx hb hT in_X10 hown hK hP 0 mw_0 rfl 28 (by decide) (hT _ t1290) (fun _ h9 => h9) rfl dX10_far_109 ?_
                              refine lv_aload_n hx hb dX10_far_112 rfl (lv_at hl 4 rfl) ?_
                              refine lv_iload hx hb dX10_far_113 (lv_at hl 2 rfl) ?_
                              refine lv_iconst (v := 1) hx hb dX10_far_115 (by decide) ?_
                              refine lv_iload hx hb dX10_far_116 (lv_at hl 1 rfl) ?_
                              refine lv_isub hx hb dX10_far_118 ?_
                              refine lv_topi (fun z4285 ez4285 => ?_)
                              have h4286 : Iv 0 1 z4285 := iv_sub ez4285 (iv_c (by decide) : Iv 1 1 1) h4275 (by decide) (by decide) (by decide) (by decide)
                              refine ro_V (As := [.int v4_64, .int z4285]) (rest := [.ref (a 15), .int z4283]) S (m_X10_end l D k a t78 sl  v4_64 z4285 _  hBt78 h4169 (iv_mono (c := 0) (d := 2) h4286 (by decide) (by decide)) (wok_of (hFt78 1 (nm_1 (by decide) nm_0)) hw)) lkX10_89 ok_X10_end ⟨rfl, rfl, Nat.le_of_ble_eq_true rfl, Nat.le_of_ble_eq_true rfl⟩ (pw_V (ci := 10) (q0 := 0) hK hN rfl mw_0 hP (hD.weaken (fun _ _ _ _ => trivial))) rfl hl.1 rfl (Nat.le_of_ble_eq_true rfl) ⟨Nat.zero_le _, Nat.zero_le _⟩ dX10_far_119 (fun r4287 er4287 => ?_)
                              have k4288 := er4287
                              have h4289 : Iv 0 5 r4287 := k4288.1 h4286
                              refine va_iald hx hb hK hP 15 0 mw_15 rfl (iv_in h4289 (by decide) (by decide)) dX10_far_122 ?_
                              refine lv_topi (fun z4290 ez4290 => ?_)
                              have h4291 : Iv 0 1000000000 z4290 := (by rw [ez4290]; exact rel78_0 _ (iv_cl h4289 (by decide) (by decide)))
                              refine lv_icmp_lt (tgt := 129) hx hb dX10_far_123 (by decide) (fun c4292 => ?_) (fun c4292 => ?_)
                              · skip
                                have n4293 : z4283.toInt < z4290.toInt := (i_lt c4292)
                                have h4294 : Iv 0 999999999 z4283 := lt_l h4284 n4293 h4291 (by decide)
                                have h4295 : Iv 1 1000000000 z4290 := lt_r h4284 n4293 h4291 (by decide)
                                refine lv_aload_n hx hb dX10_far_129 rfl (lv_at hl 4 rfl) ?_
                                refine va_get (D := D) (ci := 10) (v := .ref (a 15)) (C := RX10) (T := TX10) (N := 38) hx hb hT in_X10 hown hK hP 0 mw_0 rfl 28 (by decide) (hT _ t1290) (fun _ h9 => h9) rfl dX10_far_130 ?_
                                refine lv_aload_n hx hb dX10_far_133 rfl (lv_at hl 4 rfl) ?_
                                refine lv_iload hx hb dX10_far_134 (lv_at hl 2 rfl) ?_
                                refine lv_iconst (v := 1) hx hb dX10_far_136 (by decide) ?_
                                refine lv_iload hx hb dX10_far_137 (lv_at hl 1 rfl) ?_
                                refine lv_isub hx hb dX10_far_139 ?_
                                refine k_top (y := z4285) ez4285.symm ?_
                                refine ro_V (As := [.int v4_64, .int z4285]) (rest := [.ref (a 15)]) S (m_X10_end l D k a t78 sl  v4_64 z4285 _  hBt78 h4169 (iv_mono (c := 0) (d := 2) h4286 (by decide) (by decide)) (wok_of (hFt78 1 (nm_1 (by decide) nm_0)) hw)) lkX10_89 ok_X10_end ⟨rfl, rfl, Nat.le_of_ble_eq_true rfl, Nat.le_of_ble_eq_true rfl⟩ (pw_V (ci := 10) (q0 := 0) hK hN rfl mw_0 hP (hD.weaken (fun _ _ _ _ => trivial))) rfl hl.1 rfl (Nat.le_of_ble_eq_true rfl) ⟨Nat.zero_le _, Nat.zero_le _⟩ dX10_far_140 (fun r4296 er4296 => ?_)
                                have k4297 := er4296
                                have h4298 : Iv 0 5 r4296 := k4297.1 h4286
                                refine lv_iload hx hb dX10_far_143 (lv_at hl 0 rfl) ?_
                                refine c_ist hx hb hK hP hD hS mw_15 ms_15 (iv_in h4298 (by decide) (by decide)) dX10_far_145 (fun s4299 H9 locs9 es4299 hP9 hD9 hS9 => ?_)
                                clear hP hD hS
                                have hS := hS9
                                have hP := hP9
                                have hD := hD9
                                clear hP9 hD9 hS9
                                have hBs4299 : MB s4299 := by rw [es4299]; exact mb_sw hBt78 trivial
                                have hFs4299 : FR [15] st s4299 := fr_sw hFt78 (List.mem_of_getElem? (i := 0) rfl) es4299
                                refine lv_iconst (v := 1) hx hb dX10_far_146 (by decide) ?_
                                refine lv_istore_n (lv' := [(3, .int 1), (6, .int z4283), (5, .int v5_78), (4, .int v4_64), (0, .ref (a 0)), (1, .int p0), (2, .int p1)]) hx hb dX10_far_147 rfl hl (by decide) rfl (fun ls hl => ?_)
                                obtain ⟨z4300, ez4300⟩ : ∃ z9 : Int32, z9 = v5_78 + Int32.ofInt 1 := ⟨_, rfl⟩
                                have h4301 : Iv 1 2 z4300 := iv_inc ez4300 h4275 (by decide) (by decide) (by decide) (by decide) (by decide) (by decide)
                                refine lv_iinc (v := z4300) (lv' := [(5, .int z4300), (3, .int 1), (6, .int z4283), (4, .int v4_64), (0, .ref (a 0)), (1, .int p0), (2, .int p1)]) hx hb dX10_far_148 hl (k := 2) rfl ez4300.symm (by decide) rfl (fun ls hl => ?_)
                                refine lv_goto (tgt := 78) hx hb dX10_far_151 (by decide) ?_
                                exact ih78 z4300 1 s4299 _ _ _ (iv_mono (c := 0) (d := 2) h4301 (by decide) (by decide)) (iv_mono (c := 0) (d := 1) (iv_c (by decide) : Iv 1 1 1) (by decide) (by decide)) (by rw [sw_it es4299]; exact fb_upd rel78_0 (iv_mono (c := 0) (d := 1000000000) h4294 (by decide) (by decide))) (by have q9 : r4296 = r4287 := Eq.trans (k4297.2) (Eq.symm (k4288.2)); have y9 := n4293; rw [ez4290, ← q9] at y9; have f9 := fs_upd (f := t78 15) h4298 (h4294).1 y9; rw [sw_it es4299]; have r9 := rel78_1; have z9 : (1 : Int32).toInt.toNat = 1 := rfl; omega) hBs4299 (fr_sw gt78 (List.mem_of_getElem? (i := 0) rfl) es4299) hP hD hS (lv_sub hl [0, 3, 1, 4, 5, 6] rfl) (fu_s (lo := 0) (ti_inc ez4300 h4275 (by decide) (by decide) (by decide) (by decide)) (by decide) hm78)
                              · skip
                                have n4302 : z4290.toInt ≤ z4283.toInt := (i_nlt c4292)
                                refine lv_goto (tgt := 148) hx hb dX10_far_126 (by decide) ?_
                                obtain ⟨z4303, ez4303⟩ : ∃ z9 : Int32, z9 = v5_78 + Int32.ofInt 1 := ⟨_, rfl⟩
                                have h4304 : Iv 1 2 z4303 := iv_inc ez4303 h4275 (by decide) (by decide) (by decide) (by decide) (by decide) (by decide)
                                refine lv_iinc (v := z4303) (lv' := [(5, .int z4303), (6, .int z4283), (4, .int v4_64), (3, .int v3_78), (0, .ref (a 0)), (1, .int p0), (2, .int p1)]) hx hb dX10_far_148 hl (k := 1) rfl ez4303.symm (by decide) rfl (fun ls hl => ?_)
                                refine lv_goto (tgt := 78) hx hb dX10_far_151 (by decide) ?_
                                exact ih78 z4303 v3_78 t78 _ _ _ (iv_mono (c := 0) (d := 2) h4304 (by decide) (by decide)) iv3_78 rel78_0 rel78_1 hBt78 gt78 hP hD hS (lv_sub hl [0, 2, 3, 4, 5, 6] rfl) (fu_s (lo := 0) (ti_inc ez4303 h4275 (by decide) (by decide) (by decide) (by decide)) (by decide) hm78)
                        exact lp78 3 0 v3_64 t64 _ _ _ (iv_mono (c := 0) (d := 2) (iv_c (by decide) : Iv 0 0 0) (by decide) (by decide)) iv3_64 rel64_0 rel64_1 hBt64 fr_rf hP hD hS (lv_sub hl [0, 1, 2, 3, 4, 5] rfl) (fu_i (iv_mono (c := 0) (d := 2) (iv_c (by decide) : Iv 0 0 0) (by decide) (by decide)) (by decide))
                  exact lp64 9 0 0 t55 _ _ _ (iv_mono (c := 0) (d := 8) (iv_c (by decide) : Iv 0 0 0) (by decide) (by decide)) (iv_mono (c := 0) (d := 1) (iv_c (by decide) : Iv 0 0 0) (by decide) (by decide)) rel55_0 (by have z9 : (0 : Int32).toInt.toNat = 0 := rfl; omega) hBt55 fr_rf hP hD hS (lv_sub hl [0, 1, 2, 3, 4] rfl) (fu_i (iv_mono (c := 0) (d := 8) (iv_c (by decide) : Iv 0 0 0) (by decide) (by decide)) (by decide))
            exact lp55 13000000003 1 t23 _ _ _ (iv_mono (c := 0) (d := 1) (iv_c (by decide) : Iv 1 1 1) (by decide) (by decide)) (fun j9 h9 => rel23_0 j9 (by have y9 := (h90).1; omega)) hBt23 fr_rf hP hD hS (lv_sub hl [0, 1, 2, 3] rfl) (by have y9 := fs_0 (f := t23 15) (fun j9 h9 => rel23_0 j9 (by have y9 := (h90).1; omega)); have z9 : (1 : Int32).toInt.toNat = 1 := rfl; omega)
          · skip
            have n4305 : v3_23.toInt < (6 : Int32).toInt := (i_nle c88)
            have h4306 : Iv 0 5 v3_23 := lt_l iv3_23 n4305 (iv_c (by decide) : Iv 6 6 6) (by decide)
            refine lv_aload_n hx hb dX10_far_29 rfl (lv_at hl 1 rfl) ?_
            refine va_get (D := D) (ci := 10) (v := .ref (a 15)) (C := RX10) (T := TX10) (N := 38) hx hb hT in_X10 hown hK hP 0 mw_0 rfl 28 (by decide) (hT _ t1290) (fun _ h9 => h9) rfl dX10_far_30 ?_
            refine lv_iload_n hx hb dX10_far_33 rfl (lv_at hl 0 rfl) ?_
            refine lv_iload_n hx hb dX10_far_34 rfl (lv_at hl 0 rfl) ?_
            refine lv_iload_n hx hb dX10_far_35 rfl (lv_at hl 2 rfl) ?_
            refine lv_icmp_ne (tgt := 43) hx hb dX10_far_36 (by decide) (fun c4307 => ?_) (fun c4307 => ?_)
            · skip
              refine lv_ldcw (v := 1000000000) hx hb hown (hT _ t1702) dX10_far_43 ?_
              refine c_ist hx hb hK hP hD hS mw_15 ms_15 (iv_in h4306 (by decide) (by decide)) dX10_far_46 (fun s4308 H9 locs9 es4308 hP9 hD9 hS9 => ?_)
              clear hP hD hS
              have hS := hS9
              have hP := hP9
              have hD := hD9
              clear hP9 hD9 hS9
              have hBs4308 : MB s4308 := by rw [es4308]; exact mb_sw hBt23 trivial
              have hFs4308 : FR [15] st s4308 := fr_sw hFt23 (List.mem_of_getElem? (i := 0) rfl) es4308
              obtain ⟨z4309, ez4309⟩ : ∃ z9 : Int32, z9 = v3_23 + Int32.ofInt 1 := ⟨_, rfl⟩
              have h4310 : Iv 1 6 z4309 := iv_inc ez4309 h4306 (by decide) (by decide) (by decide) (by decide) (by decide) (by decide)
              refine lv_iinc (v := z4309) (lv' := [(3, .int z4309), (0, .ref (a 0)), (1, .int p0), (2, .int p1)]) hx hb dX10_far_47 hl (k := 0) rfl ez4309.symm (by decide) rfl (fun ls hl => ?_)
              refine lv_goto (tgt := 23) hx hb dX10_far_50 (by decide) ?_
              exact ih23 z4309 s4308 _ _ _ (iv_mono (c := 0) (d := 6) h4310 (by decide) (by decide)) (fun j9 h9 => by rw [sw_it es4308]; by_cases q9 : j9 = v3_23.toNatClampNeg; (rw [q9, upd_at]; exact ⟨by decide, by decide⟩); (rw [upd_no q9]; exact rel23_0 j9 (by have y1 := ti_inc ez4309 h4306 (by decide) (by decide) (by decide) (by decide); have c9 := cl_int h4306 (by decide); omega))) hBs4308 (fr_sw gt23 (List.mem_of_getElem? (i := 0) rfl) es4308) hP hD hS (lv_sub hl [0, 1, 2, 3] rfl) (fu_s (lo := 0) (ti_inc ez4309 h4306 (by decide) (by decide) (by decide) (by decide)) (by decide) hm23)
            · skip
              refine lv_iconst (v := 0) hx hb dX10_far_39 (by decide) ?_
              refine lv_goto (tgt := 46) hx hb dX10_far_40 (by decide) ?_
              refine c_ist hx hb hK hP hD hS mw_15 ms_15 (iv_in h4306 (by decide) (by decide)) dX10_far_46 (fun s4311 H9 locs9 es4311 hP9 hD9 hS9 => ?_)
              clear hP hD hS
              have hS := hS9
              have hP := hP9
              have hD := hD9
              clear hP9 hD9 hS9
              have hBs4311 : MB s4311 := by rw [es4311]; exact mb_sw hBt23 trivial
              have hFs4311 : FR [15] st s4311 := fr_sw hFt23 (List.mem_of_getElem? (i := 0) rfl) es4311
              obtain ⟨z4312, ez4312⟩ : ∃ z9 : Int32, z9 = v3_23 + Int32.ofInt 1 := ⟨_, rfl⟩
              have h4313 : Iv 1 6 z4312 := iv_inc ez4312 h4306 (by decide) (by decide) (by decide) (by decide) (by decide) (by decide)
              refine lv_iinc (v := z4312) (lv' := [(3, .int z4312), (0, .ref (a 0)), (1, .int p0), (2, .int p1)]) hx hb dX10_far_47 hl (k := 0) rfl ez4312.symm (by decide) rfl (fun ls hl => ?_)
              refine lv_goto (tgt := 23) hx hb dX10_far_50 (by decide) ?_
              exact ih23 z4312 s4311 _ _ _ (iv_mono (c := 0) (d := 6) h4313 (by decide) (by decide)) (fun j9 h9 => by rw [sw_it es4311]; by_cases q9 : j9 = v3_23.toNatClampNeg; (rw [q9, upd_at]; exact ⟨by decide, by decide⟩); (rw [upd_no q9]; exact rel23_0 j9 (by have y1 := ti_inc ez4312 h4306 (by decide) (by decide) (by decide) (by decide); have c9 := cl_int h4306 (by decide); omega))) hBs4311 (fr_sw gt23 (List.mem_of_getElem? (i := 0) rfl) es4311) hP hD hS (lv_sub hl [0, 1, 2, 3] rfl) (fu_s (lo := 0) (ti_inc ez4312 h4306 (by decide) (by decide) (by decide) (by decide)) (by decide) hm23)
      exact lp23 7 0 st _ _ _ (iv_mono (c := 0) (d := 6) (iv_c (by decide) : Iv 0 0 0) (by decide) (by decide)) (fun j9 h9 => absurd h9 (by have z9 : (0 : Int32).toInt = 0 := rfl; omega)) hB fr_rf hP hD hS (lv_sub hl [0, 1, 2, 3] rfl) (fu_i (iv_mono (c := 0) (d := 6) (iv_c (by decide) : Iv 0 0 0) (by decide) (by decide)) (by decide))
    · skip
      have g4314 := g9
      refine lv_if_ne (tgt := 21) hx hb dX10_far_15 (by decide) (fun c4315 => ?_) (fun c4315 => ?_)
      · first | exact absurd c4315 (by decide) | exact absurd (by decide) c4315
      refine lv_bipush (v := (-2)) hx hb dX10_far_18 (by decide) ?_
      rw [hQ]
      exact W.iret (v := (-2)) hx hb hr (fun t ht hW => ⟨⟨(-2), st, rfl, ⟨hB, fr_rf, trivial⟩, by rw [ht]; exact hP, va_K.moved hW.alike (hK.sub (tys' := []) [] rfl), by rw [hAe]; exact hD⟩, by rw [hAe]; exact hS.F ht⟩) hS.2.2 dX10_far_20
  · skip
    have g4316 := g9
    refine lv_if_eq (tgt := 18) hx hb dX10_far_6 (by decide) (fun c4317 => ?_) (fun c4317 => ?_)
    rotate_left
    · first | exact absurd c4317 (by decide) | exact absurd (by decide) c4317
    refine lv_bipush (v := (-2)) hx hb dX10_far_18 (by decide) ?_
    rw [hQ]
    exact W.iret (v := (-2)) hx hb hr (fun t ht hW => ⟨⟨(-2), st, rfl, ⟨hB, fr_rf, trivial⟩, by rw [ht]; exact hP, va_K.moved hW.alike (hK.sub (tys' := []) [] rfl), by rw [hAe]; exact hD⟩, by rw [hAe]; exact hS.F ht⟩) hS.2.2 dX10_far_20
