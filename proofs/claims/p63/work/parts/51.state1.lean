set_option maxHeartbeats 4000000 in
set_option maxRecDepth 100000 in
theorem s_X5_likeOf (l : Launch) (D : va_G) (k : Nat → ClassId) (a : Nat → Nat) (st : CT) (sl : CL) (x : Nat) (p0 : Int32) (p1 : Int32) (sz : Nat) (mx : x ∈ SC) (hB : CB st) (hp0 : Iv 0 7 p0) (hp1 : Iv 0 7 p1) : Met l yX5_likeOf (.code yX5_likeOf cX5_likeOf 3 (some .int) :: TB) (rmk 1) (va_Pc [.ref (a x), .int p0, .int p1] (PW D k sz (CWS k a st sl))) (vp_Si (fun r => Iv 0 9 r ∧ (True))) 0 0 (fun _ => False) := by
  refine Met.ofW (cc := cX5_likeOf) (maxL := 3) (ret := (some .int)) (by decide) rfl ?_
  intro p e s m args below meth c s₁ B hml hv
  obtain ⟨rfl, hsz, hP, hK, hD0, hN⟩ := hv
  have hx := B.exec
  have hb := B.bytes
  have hr := B.returns
  have hT : ∀ w9 ∈ TB, w9.before ([.ref (a x), .int p0, .int p1] : List Value).toArray s = true := fun w9 h => atoms_spec (ws := .code yX5_likeOf cX5_likeOf 3 (some .int) :: TB) B.pre w9 (List.mem_cons_of_mem _ h)
  have hown : s.vm.findClass RX5 = some m.cls := findClass_of_methodNamed B.named
  have S : CallFix p m c cX5_likeOf 3 s _ TB RX5 := ⟨hx, hb, hml, hown, hT⟩
  subst hsz
  have hl := lv_entry ([.ref (a x), .int p0, .int p1]) (n := 3) (Nat.le_of_ble_eq_true rfl)
  rw [lg_entry_eq]
  generalize (lg_sl ([.ref (a x), .int p0, .int p1]) ++ List.replicate (3 - (lg_sl ([.ref (a x), .int p0, .int p1])).length) Slot.unset).toArray = ls at hl ⊢
  have hl : lv_has ls 3 [(0, .ref (a x)), (1, .int p0), (2, .int p1)] := hl
  refine nameQ (fun Q hQ => ?_)
  refine lv_aload_n hx hb dX5_likeOf_0 rfl (lv_at hl 0 rfl) ?_
  refine va_get (D := D) (ci := 5) (v := .ref (a (x + 1))) (C := RX5) (T := TX5) (N := 5) hx hb hT in_X5 hown hK hP x (sx_0 mx) rfl 0 (by decide) (hT _ t167) (fun _ h9 => h9) rfl dX5_likeOf_1 ?_
  refine lv_iload_n hx hb dX5_likeOf_4 rfl (lv_at hl 1 rfl) ?_
  refine lv_bipush (v := 8) hx hb dX5_likeOf_5 (by decide) ?_
  refine lv_imul hx hb dX5_likeOf_7 ?_
  refine lv_topi (fun z1 ez1 => ?_)
  have h2 : Iv 0 56 z1 := iv_mulr ez1 hp0 (k := 8) (by decide) (by decide) (by decide) (by decide) (by decide) (by decide)
  refine lv_iload_n hx hb dX5_likeOf_8 rfl (lv_at hl 2 rfl) ?_
  refine lv_iadd hx hb dX5_likeOf_9 ?_
  refine lv_topi (fun z3 ez3 => ?_)
  have h4 : Iv 0 63 z3 := iv_add ez3 h2 hp1 (by decide) (by decide) (by decide) (by decide)
  refine va_iald hx hb hK hP (x + 1) 0 (sx_1 mx) rfl (iv_in h4 (by decide) (by decide)) dX5_likeOf_10 ?_
  refine lv_topi (fun z5 ez5 => ?_)
  have h6 : Iv 0 9 z5 := by rw [ez5]; exact (rx_1 mx hB (vp_in_lt (iv_in h4 (by decide) (by decide))))
  rw [hQ]
  exact W.iret (v := z5) hx hb hr (fun t ht hW => ⟨z5, rfl, ⟨h6, trivial⟩, ht⟩) (fun _ h9 => by cases h9) dX5_likeOf_11
set_option maxHeartbeats 4000000 in
set_option maxRecDepth 100000 in
theorem s_X5_setLike (l : Launch) (D : va_G) (k : Nat → ClassId) (a : Nat → Nat) (st : CT) (sl : CL) (x : Nat) (p0 : Int32) (p1 : Int32) (p2 : Int32) (sz : Nat) (mx : x ∈ SC) (hB : CB st) (hp0 : Iv 0 7 p0) (hp1 : Iv 0 7 p1) (hp2 : Iv 0 9 p2) : Met l yX5_setLike (.code yX5_setLike cX5_setLike 4 none :: TB) (rmw 1 0 0) (va_Pc [.ref (a x), .int p0, .int p1, .int p2] (PW D k sz (CWS k a st sl))) (QV D (S := CT) (fun u => CB u ∧ FR [(x + 1)] st u ∧ (True)) (fun u => CWS k a u sl) (fun _ => []) (CWS k a st sl) sz) 0 0 (va_A (CWS k a st sl) sz) := by
  refine Met.ofW (cc := cX5_setLike) (maxL := 4) (ret := none) (by decide) rfl ?_
  intro p e s m args below meth c s₁ B hml hv
  obtain ⟨rfl, hsz, hP, hK, hD0, hN⟩ := hv
  have hx := B.exec
  have hb := B.bytes
  have hr := B.returns
  have hT : ∀ w9 ∈ TB, w9.before ([.ref (a x), .int p0, .int p1, .int p2] : List Value).toArray s = true := fun w9 h => atoms_spec (ws := .code yX5_setLike cX5_setLike 4 none :: TB) B.pre w9 (List.mem_cons_of_mem _ h)
  have hown : s.vm.findClass RX5 = some m.cls := findClass_of_methodNamed B.named
  have S : CallFix p m c cX5_setLike 4 s _ TB RX5 := ⟨hx, hb, hml, hown, hT⟩
  subst hsz
  have hD := hD0.self (sz := s.heap.size)
  generalize hAe : va_A (CWS k a st sl) s.heap.size = A at hD ⊢
  have hA : ∀ q : Nat, s.heap.size ≤ q → A q := fun q h => by rw [← hAe]; exact Or.inr h
  have hS : va_S A s.heap s.heap [] := va_S.rf
  have hl := lv_entry ([.ref (a x), .int p0, .int p1, .int p2]) (n := 4) (Nat.le_of_ble_eq_true rfl)
  rw [lg_entry_eq]
  generalize (lg_sl ([.ref (a x), .int p0, .int p1, .int p2]) ++ List.replicate (4 - (lg_sl ([.ref (a x), .int p0, .int p1, .int p2])).length) Slot.unset).toArray = ls at hl ⊢
  have hl : lv_has ls 4 [(0, .ref (a x)), (1, .int p0), (2, .int p1), (3, .int p2)] := hl
  refine nameQ (fun Q hQ => ?_)
  refine lv_aload_n hx hb dX5_setLike_0 rfl (lv_at hl 0 rfl) ?_
  refine va_get (D := D) (ci := 5) (v := .ref (a (x + 1))) (C := RX5) (T := TX5) (N := 5) hx hb hT in_X5 hown hK hP x (sx_0 mx) rfl 0 (by decide) (hT _ t167) (fun _ h9 => h9) rfl dX5_setLike_1 ?_
  refine lv_iload_n hx hb dX5_setLike_4 rfl (lv_at hl 1 rfl) ?_
  refine lv_bipush (v := 8) hx hb dX5_setLike_5 (by decide) ?_
  refine lv_imul hx hb dX5_setLike_7 ?_
  refine lv_topi (fun z1 ez1 => ?_)
  have h2 : Iv 0 56 z1 := iv_mulr ez1 hp0 (k := 8) (by decide) (by decide) (by decide) (by decide) (by decide) (by decide)
  refine lv_iload_n hx hb dX5_setLike_8 rfl (lv_at hl 2 rfl) ?_
  refine lv_iadd hx hb dX5_setLike_9 ?_
  refine lv_topi (fun z3 ez3 => ?_)
  have h4 : Iv 0 63 z3 := iv_add ez3 h2 hp1 (by decide) (by decide) (by decide) (by decide)
  refine lv_iload_n hx hb dX5_setLike_10 rfl (lv_at hl 3 rfl) ?_
  refine c_ist hx hb hK hP hD hS (sx_1 mx) (ss_1 mx) (iv_in h4 (by decide) (by decide)) dX5_setLike_11 (fun s5 H9 locs9 es5 hP9 hD9 hS9 => ?_)
  clear hP hD hS
  have hS := hS9
  have hP := hP9
  have hD := hD9
  clear hP9 hD9 hS9
  have hBs5 : CB s5 := by rw [es5]; exact cb_sw hB (by rw [kx_1 mx]; exact (ki_1 (kb_1 mx hB) hp2))
  have hFs5 : FR [(x + 1)] st s5 := fr_sw fr_rf (List.mem_of_getElem? (i := 0) rfl) es5
  rw [hQ]
  exact W.vret hx hb hr (fun t ht hW => ⟨⟨s5, rfl, ⟨hBs5, hFs5, trivial⟩, by rw [ht]; exact hP, va_K.moved hW.alike (hK.sub (tys' := []) [] rfl), by rw [hAe]; exact hD⟩, by rw [hAe]; exact hS.F ht⟩) hS.2.2 dX5_setLike_12
set_option maxHeartbeats 4000000 in
set_option maxRecDepth 100000 in
theorem s_X5_likesAll (l : Launch) (D : va_G) (k : Nat → ClassId) (a : Nat → Nat) (st : CT) (sl : CL) (x : Nat) (p0 : Int32) (sz : Nat) (mx : x ∈ SC) (hB : CB st) (hp0 : Iv 0 7 p0) : Met l yX5_likesAll (.code yX5_likesAll cX5_likesAll 4 (some .int) :: TB) (rmk 1) (va_Pc [.ref (a x), .int p0] (PW D k sz (CWS k a st sl))) (vp_Si (fun r => (True))) 0 0 (fun _ => False) := by
  refine Met.ofW (cc := cX5_likesAll) (maxL := 4) (ret := (some .int)) (by decide) rfl ?_
  intro p e s m args below meth c s₁ B hml hv
  obtain ⟨rfl, hsz, hP, hK, hD0, hN⟩ := hv
  have hx := B.exec
  have hb := B.bytes
  have hr := B.returns
  have hT : ∀ w9 ∈ TB, w9.before ([.ref (a x), .int p0] : List Value).toArray s = true := fun w9 h => atoms_spec (ws := .code yX5_likesAll cX5_likesAll 4 (some .int) :: TB) B.pre w9 (List.mem_cons_of_mem _ h)
  have hown : s.vm.findClass RX5 = some m.cls := findClass_of_methodNamed B.named
  have S : CallFix p m c cX5_likesAll 4 s _ TB RX5 := ⟨hx, hb, hml, hown, hT⟩
  subst hsz
  have hl := lv_entry ([.ref (a x), .int p0]) (n := 4) (Nat.le_of_ble_eq_true rfl)
  rw [lg_entry_eq]
  generalize (lg_sl ([.ref (a x), .int p0]) ++ List.replicate (4 - (lg_sl ([.ref (a x), .int p0])).length) Slot.unset).toArray = ls at hl ⊢
  have hl : lv_has ls 4 [(0, .ref (a x)), (1, .int p0)] := hl
  refine nameQ (fun Q hQ => ?_)
  refine lv_iconst (v := 0) hx hb dX5_likesAll_0 (by decide) ?_
  refine lv_istore_n (lv' := [(2, .int 0), (0, .ref (a x)), (1, .int p0)]) hx hb dX5_likesAll_1 rfl hl (by decide) rfl (fun ls hl => ?_)
  refine lv_iconst (v := 0) hx hb dX5_likesAll_2 (by decide) ?_
  refine lv_istore_n (lv' := [(3, .int 0), (2, .int 0), (0, .ref (a x)), (1, .int p0)]) hx hb dX5_likesAll_3 rfl hl (by decide) rfl (fun ls hl => ?_)
  have lp4 : ∀ (n9_4 : Nat) (v3_4 : Int32) (v2_4 : Int32) (ls : Array Slot), Iv 0 8 v3_4 → lv_has ls 4 [(3, .int v3_4), (2, .int v2_4), (0, .ref (a x)), (1, .int p0)] → (8 : Int) - v3_4.toInt < (n9_4 : Int) → W p l e (rmk 1) s m ([.ref (a x), .int p0] : List Value).toArray below meth c s.heap [] 0 0 Q (F0 m 4 ls []) := by
    clear hl
    intro n9_4
    induction n9_4 with
    | zero =>
      intro v3_4 v2_4 ls iv3_4 hl hm4
      exact (fu_0 iv3_4 hm4).elim
    | succ n9_4 ih4 =>
      intro v3_4 v2_4 ls iv3_4 hl hm4
      refine lv_iload_n hx hb dX5_likesAll_4 rfl (lv_at hl 0 rfl) ?_
      refine lv_bipush (v := 8) hx hb dX5_likesAll_5 (by decide) ?_
      refine lv_icmp_ge (tgt := 30) hx hb dX5_likesAll_7 (by decide) (fun c178 => ?_) (fun c178 => ?_)
      · skip
        have n179 : (8 : Int32).toInt ≤ v3_4.toInt := (i_le c178)
        have h180 : Iv 8 8 v3_4 := le_r (iv_c (by decide) : Iv 8 8 8) n179 iv3_4 (by decide)
        refine lv_iload_n hx hb dX5_likesAll_30 rfl (lv_at hl 1 rfl) ?_
        rw [hQ]
        exact W.iret (v := v2_4) hx hb hr (fun t ht hW => ⟨v2_4, rfl, trivial, ht⟩) (fun _ h9 => by cases h9) dX5_likesAll_31
      · skip
        have n181 : v3_4.toInt < (8 : Int32).toInt := (i_nle c178)
        have h182 : Iv 0 7 v3_4 := lt_l iv3_4 n181 (iv_c (by decide) : Iv 8 8 8) (by decide)
        refine lv_iload_n hx hb dX5_likesAll_10 rfl (lv_at hl 1 rfl) ?_
        refine lv_aload_n hx hb dX5_likesAll_11 rfl (lv_at hl 2 rfl) ?_
        refine va_get (D := D) (ci := 5) (v := .ref (a (x + 1))) (C := RX5) (T := TX5) (N := 5) hx hb hT in_X5 hown hK hP x (sx_0 mx) rfl 0 (by decide) (hT _ t167) (fun _ h9 => h9) rfl dX5_likesAll_12 ?_
        refine lv_iload_n hx hb dX5_likesAll_15 rfl (lv_at hl 3 rfl) ?_
        refine lv_bipush (v := 8) hx hb dX5_likesAll_16 (by decide) ?_
        refine lv_imul hx hb dX5_likesAll_18 ?_
        refine lv_topi (fun z183 ez183 => ?_)
        have h184 : Iv 0 56 z183 := iv_mulr ez183 hp0 (k := 8) (by decide) (by decide) (by decide) (by decide) (by decide) (by decide)
        refine lv_iload_n hx hb dX5_likesAll_19 rfl (lv_at hl 0 rfl) ?_
        refine lv_iadd hx hb dX5_likesAll_20 ?_
        refine lv_topi (fun z185 ez185 => ?_)
        have h186 : Iv 0 63 z185 := iv_add ez185 h184 h182 (by decide) (by decide) (by decide) (by decide)
        refine va_iald hx hb hK hP (x + 1) 0 (sx_1 mx) rfl (iv_in h186 (by decide) (by decide)) dX5_likesAll_21 ?_
        refine lv_topi (fun z187 ez187 => ?_)
        have h188 : Iv 0 9 z187 := by rw [ez187]; exact (rx_1 mx hB (vp_in_lt (iv_in h186 (by decide) (by decide))))
        refine lv_iadd hx hb dX5_likesAll_22 ?_
        refine lv_topi (fun z189 ez189 => ?_)
        refine lv_istore_n (lv' := [(2, .int z189), (3, .int v3_4), (0, .ref (a x)), (1, .int p0)]) hx hb dX5_likesAll_23 rfl hl (by decide) rfl (fun ls hl => ?_)
        obtain ⟨z190, ez190⟩ : ∃ z9 : Int32, z9 = v3_4 + Int32.ofInt 1 := ⟨_, rfl⟩
        have h191 : Iv 1 8 z190 := iv_inc ez190 h182 (by decide) (by decide) (by decide) (by decide) (by decide) (by decide)
        refine lv_iinc (v := z190) (lv' := [(3, .int z190), (2, .int z189), (0, .ref (a x)), (1, .int p0)]) hx hb dX5_likesAll_24 hl (k := 1) rfl ez190.symm (by decide) rfl (fun ls hl => ?_)
        refine lv_goto (tgt := 4) hx hb dX5_likesAll_27 (by decide) ?_
        exact ih4 z190 z189 _ (iv_mono (c := 0) (d := 8) h191 (by decide) (by decide)) (lv_sub hl [0, 1, 2, 3] rfl) (fu_s (lo := 0) (ti_inc ez190 h182 (by decide) (by decide) (by decide) (by decide)) (by decide) hm4)
  exact lp4 9 0 0 _ (iv_mono (c := 0) (d := 8) (iv_c (by decide) : Iv 0 0 0) (by decide) (by decide)) (lv_sub hl [0, 1, 2, 3] rfl) (fu_i (iv_mono (c := 0) (d := 8) (iv_c (by decide) : Iv 0 0 0) (by decide) (by decide)) (by decide))
set_option maxHeartbeats 4000000 in
set_option maxRecDepth 100000 in
theorem s_X5_likeNothing (l : Launch) (D : va_G) (k : Nat → ClassId) (a : Nat → Nat) (st : CT) (sl : CL) (x : Nat) (p0 : Int32) (sz : Nat) (mx : x ∈ SC) (hB : CB st) (hp0 : Iv 0 7 p0) : Met l yX5_likeNothing (.code yX5_likeNothing cX5_likeNothing 3 none :: TB) (rmw 1 0 0) (va_Pc [.ref (a x), .int p0] (PW D k sz (CWS k a st sl))) (QV D (S := CT) (fun u => CB u ∧ FR [(x + 1)] st u ∧ (True)) (fun u => CWS k a u sl) (fun _ => []) (CWS k a st sl) sz) 0 0 (va_A (CWS k a st sl) sz) := by
  refine Met.ofW (cc := cX5_likeNothing) (maxL := 3) (ret := none) (by decide) rfl ?_
  intro p e s m args below meth c s₁ B hml hv
  obtain ⟨rfl, hsz, hP, hK, hD0, hN⟩ := hv
  have hx := B.exec
  have hb := B.bytes
  have hr := B.returns
  have hT : ∀ w9 ∈ TB, w9.before ([.ref (a x), .int p0] : List Value).toArray s = true := fun w9 h => atoms_spec (ws := .code yX5_likeNothing cX5_likeNothing 3 none :: TB) B.pre w9 (List.mem_cons_of_mem _ h)
  have hown : s.vm.findClass RX5 = some m.cls := findClass_of_methodNamed B.named
  have S : CallFix p m c cX5_likeNothing 3 s _ TB RX5 := ⟨hx, hb, hml, hown, hT⟩
  subst hsz
  have hD := hD0.self (sz := s.heap.size)
  generalize hAe : va_A (CWS k a st sl) s.heap.size = A at hD ⊢
  have hA : ∀ q : Nat, s.heap.size ≤ q → A q := fun q h => by rw [← hAe]; exact Or.inr h
  have hS : va_S A s.heap s.heap [] := va_S.rf
  have hl := lv_entry ([.ref (a x), .int p0]) (n := 3) (Nat.le_of_ble_eq_true rfl)
  rw [lg_entry_eq]
  generalize (lg_sl ([.ref (a x), .int p0]) ++ List.replicate (3 - (lg_sl ([.ref (a x), .int p0])).length) Slot.unset).toArray = ls at hl ⊢
  have hl : lv_has ls 3 [(0, .ref (a x)), (1, .int p0)] := hl
  refine nameQ (fun Q hQ => ?_)
  refine lv_iconst (v := 0) hx hb dX5_likeNothing_0 (by decide) ?_
  refine lv_istore_n (lv' := [(2, .int 0), (0, .ref (a x)), (1, .int p0)]) hx hb dX5_likeNothing_1 rfl hl (by decide) rfl (fun ls hl => ?_)
  have lp2 : ∀ (n9_2 : Nat) (v2_2 : Int32) (t2 : CT) (H9 : Heap) (locs9 : List Loc) (ls : Array Slot), Iv 0 8 v2_2 → CB t2 → FR [(x + 1)] st t2 → va_P D vwCl (CWS k a t2 sl) H9 → va_D A (CWS k a t2 sl) → va_S A s.heap H9 locs9 → lv_has ls 3 [(2, .int v2_2), (0, .ref (a x)), (1, .int p0)] → (8 : Int) - v2_2.toInt < (n9_2 : Int) → W p l e (rmw 1 0 0) s m ([.ref (a x), .int p0] : List Value).toArray below meth c H9 locs9 0 0 Q (F0 m 2 ls []) := by
    clear hl hP hD hS
    intro n9_2
    induction n9_2 with
    | zero =>
      intro v2_2 t2 H9 locs9 ls iv2_2 hBt2 gt2 hP hD hS hl hm2
      exact (fu_0 iv2_2 hm2).elim
    | succ n9_2 ih2 =>
      intro v2_2 t2 H9 locs9 ls iv2_2 hBt2 gt2 hP hD hS hl hm2
      have hFt2 : FR [(x + 1)] st t2 := fr_ca fr_rf gt2 (sub_1 (List.mem_of_getElem? (i := 0) rfl) sub_0)
      refine lv_iload_n hx hb dX5_likeNothing_2 rfl (lv_at hl 0 rfl) ?_
      refine lv_bipush (v := 8) hx hb dX5_likeNothing_3 (by decide) ?_
      refine lv_icmp_ge (tgt := 26) hx hb dX5_likeNothing_5 (by decide) (fun c93 => ?_) (fun c93 => ?_)
      · skip
        have n94 : (8 : Int32).toInt ≤ v2_2.toInt := (i_le c93)
        have h95 : Iv 8 8 v2_2 := le_r (iv_c (by decide) : Iv 8 8 8) n94 iv2_2 (by decide)
        rw [hQ]
        exact W.vret hx hb hr (fun t ht hW => ⟨⟨t2, rfl, ⟨hBt2, hFt2, trivial⟩, by rw [ht]; exact hP, va_K.moved hW.alike (hK.sub (tys' := []) [] rfl), by rw [hAe]; exact hD⟩, by rw [hAe]; exact hS.F ht⟩) hS.2.2 dX5_likeNothing_26
      · skip
        have n96 : v2_2.toInt < (8 : Int32).toInt := (i_nle c93)
        have h97 : Iv 0 7 v2_2 := lt_l iv2_2 n96 (iv_c (by decide) : Iv 8 8 8) (by decide)
        refine lv_aload_n hx hb dX5_likeNothing_8 rfl (lv_at hl 1 rfl) ?_
        refine va_get (D := D) (ci := 5) (v := .ref (a (x + 1))) (C := RX5) (T := TX5) (N := 5) hx hb hT in_X5 hown hK hP x (sx_0 mx) rfl 0 (by decide) (hT _ t167) (fun _ h9 => h9) rfl dX5_likeNothing_9 ?_
        refine lv_iload_n hx hb dX5_likeNothing_12 rfl (lv_at hl 2 rfl) ?_
        refine lv_bipush (v := 8) hx hb dX5_likeNothing_13 (by decide) ?_
        refine lv_imul hx hb dX5_likeNothing_15 ?_
        refine lv_topi (fun z98 ez98 => ?_)
        have h99 : Iv 0 56 z98 := iv_mulr ez98 hp0 (k := 8) (by decide) (by decide) (by decide) (by decide) (by decide) (by decide)
        refine lv_iload_n hx hb dX5_likeNothing_16 rfl (lv_at hl 0 rfl) ?_
        refine lv_iadd hx hb dX5_likeNothing_17 ?_
        refine lv_topi (fun z100 ez100 => ?_)
        have h101 : Iv 0 63 z100 := iv_add ez100 h99 h97 (by decide) (by decide) (by decide) (by decide)
        refine lv_iconst (v := 0) hx hb dX5_likeNothing_18 (by decide) ?_
        refine c_ist hx hb hK hP hD hS (sx_1 mx) (ss_1 mx) (iv_in h101 (by decide) (by decide)) dX5_likeNothing_19 (fun s102 H9 locs9 es102 hP9 hD9 hS9 => ?_)
        clear hP hD hS
        have hS := hS9
        have hP := hP9
        have hD := hD9
        clear hP9 hD9 hS9
        have hBs102 : CB s102 := by rw [es102]; exact cb_sw hBt2 (by rw [kx_1 mx]; exact (ki_1 (kb_1 mx hBt2) (iv_mono (c := 0) (d := 9) (iv_c (by decide) : Iv 0 0 0) (by decide) (by decide))))
        have hFs102 : FR [(x + 1)] st s102 := fr_sw hFt2 (List.mem_of_getElem? (i := 0) rfl) es102
        obtain ⟨z103, ez103⟩ : ∃ z9 : Int32, z9 = v2_2 + Int32.ofInt 1 := ⟨_, rfl⟩
        have h104 : Iv 1 8 z103 := iv_inc ez103 h97 (by decide) (by decide) (by decide) (by decide) (by decide) (by decide)
        refine lv_iinc (v := z103) (lv' := [(2, .int z103), (0, .ref (a x)), (1, .int p0)]) hx hb dX5_likeNothing_20 hl (k := 0) rfl ez103.symm (by decide) rfl (fun ls hl => ?_)
        refine lv_goto (tgt := 2) hx hb dX5_likeNothing_23 (by decide) ?_
        exact ih2 z103 s102 _ _ _ (iv_mono (c := 0) (d := 8) h104 (by decide) (by decide)) hBs102 (fr_sw gt2 (List.mem_of_getElem? (i := 0) rfl) es102) hP hD hS (lv_sub hl [0, 1, 2] rfl) (fu_s (lo := 0) (ti_inc ez103 h97 (by decide) (by decide) (by decide) (by decide)) (by decide) hm2)
  exact lp2 9 0 st _ _ _ (iv_mono (c := 0) (d := 8) (iv_c (by decide) : Iv 0 0 0) (by decide) (by decide)) hB fr_rf hP hD hS (lv_sub hl [0, 1, 2] rfl) (fu_i (iv_mono (c := 0) (d := 8) (iv_c (by decide) : Iv 0 0 0) (by decide) (by decide)) (by decide))
set_option maxHeartbeats 4000000 in
set_option maxRecDepth 100000 in
theorem s_X5_worthOf (l : Launch) (D : va_G) (k : Nat → ClassId) (a : Nat → Nat) (st : CT) (sl : CL) (x : Nat) (p0 : Int32) (sz : Nat) (mx : x ∈ SC) (hB : CB st) (hp0 : Iv 0 7 p0) : Met l yX5_worthOf (.code yX5_worthOf cX5_worthOf 5 (some .int) :: TB) (rmk 2) (va_Pc [.ref (a x), .ref (a 18), .int p0] (PW D k sz (CWS k a st sl))) (vp_Si (fun r => (True))) 0 0 (fun _ => False) := by
  refine Met.ofW (cc := cX5_worthOf) (maxL := 5) (ret := (some .int)) (by decide) rfl ?_
  intro p e s m args below meth c s₁ B hml hv
  obtain ⟨rfl, hsz, hP, hK, hD0, hN⟩ := hv
  have hx := B.exec
  have hb := B.bytes
  have hr := B.returns
  have hT : ∀ w9 ∈ TB, w9.before ([.ref (a x), .ref (a 18), .int p0] : List Value).toArray s = true := fun w9 h => atoms_spec (ws := .code yX5_worthOf cX5_worthOf 5 (some .int) :: TB) B.pre w9 (List.mem_cons_of_mem _ h)
  have hown : s.vm.findClass RX5 = some m.cls := findClass_of_methodNamed B.named
  have S : CallFix p m c cX5_worthOf 5 s _ TB RX5 := ⟨hx, hb, hml, hown, hT⟩
  subst hsz
  have hl := lv_entry ([.ref (a x), .ref (a 18), .int p0]) (n := 5) (Nat.le_of_ble_eq_true rfl)
  rw [lg_entry_eq]
  generalize (lg_sl ([.ref (a x), .ref (a 18), .int p0]) ++ List.replicate (5 - (lg_sl ([.ref (a x), .ref (a 18), .int p0])).length) Slot.unset).toArray = ls at hl ⊢
  have hl : lv_has ls 5 [(0, .ref (a x)), (1, .ref (a 18)), (2, .int p0)] := hl
  refine nameQ (fun Q hQ => ?_)
  refine lv_iconst (v := 0) hx hb dX5_worthOf_0 (by decide) ?_
  refine lv_istore_n (lv' := [(3, .int 0), (0, .ref (a x)), (1, .ref (a 18)), (2, .int p0)]) hx hb dX5_worthOf_1 rfl hl (by decide) rfl (fun ls hl => ?_)
  refine lv_iconst (v := 0) hx hb dX5_worthOf_2 (by decide) ?_
  refine lv_istore (lv' := [(4, .int 0), (3, .int 0), (0, .ref (a x)), (1, .ref (a 18)), (2, .int p0)]) hx hb dX5_worthOf_3 hl (by decide) rfl (fun ls hl => ?_)
  have lp5 : ∀ (n9_5 : Nat) (v4_5 : Int32) (v3_5 : Int32) (ls : Array Slot), Iv 0 8 v4_5 → lv_has ls 5 [(4, .int v4_5), (3, .int v3_5), (0, .ref (a x)), (1, .ref (a 18)), (2, .int p0)] → (8 : Int) - v4_5.toInt < (n9_5 : Int) → W p l e (rmk 2) s m ([.ref (a x), .ref (a 18), .int p0] : List Value).toArray below meth c s.heap [] 0 0 Q (F0 m 5 ls []) := by
    clear hl
    intro n9_5
    induction n9_5 with
    | zero =>
      intro v4_5 v3_5 ls iv4_5 hl hm5
      exact (fu_0 iv4_5 hm5).elim
    | succ n9_5 ih5 =>
      intro v4_5 v3_5 ls iv4_5 hl hm5
      refine lv_iload hx hb dX5_worthOf_5 (lv_at hl 0 rfl) ?_
      refine lv_aload_n hx hb dX5_worthOf_7 rfl (lv_at hl 3 rfl) ?_
      refine va_get (D := D) (ci := 1) (v := .int (st 18 3)) (C := RX1) (T := TX1) (N := 14) hx hb hT in_X1 hown hK hP 18 cw_18 rfl 3 (by decide) (hT _ t210) (fun _ h9 => h9) rfl dX5_worthOf_8 ?_
      have h118 : Iv 0 8 (st 18 3) := (rb_18_3 hB)
      refine lv_icmp_ge (tgt := 38) hx hb dX5_worthOf_11 (by decide) (fun c119 => ?_) (fun c119 => ?_)
      · skip
        have n120 : (st 18 3).toInt ≤ v4_5.toInt := (i_le c119)
        refine lv_iload_n hx hb dX5_worthOf_38 rfl (lv_at hl 1 rfl) ?_
        rw [hQ]
        exact W.iret (v := v3_5) hx hb hr (fun t ht hW => ⟨v3_5, rfl, trivial, ht⟩) (fun _ h9 => by cases h9) dX5_worthOf_39
      · skip
        have n121 : v4_5.toInt < (st 18 3).toInt := (i_nle c119)
        have h122 : Iv 0 7 v4_5 := lt_l iv4_5 n121 h118 (by decide)
        have h123 : Iv 1 8 (st 18 3) := lt_r iv4_5 n121 h118 (by decide)
        refine lv_iload_n hx hb dX5_worthOf_14 rfl (lv_at hl 1 rfl) ?_
        refine lv_aload_n hx hb dX5_worthOf_15 rfl (lv_at hl 2 rfl) ?_
        refine lv_iload_n hx hb dX5_worthOf_16 rfl (lv_at hl 4 rfl) ?_
        refine lv_iload hx hb dX5_worthOf_17 (lv_at hl 0 rfl) ?_
        refine ro_V (As := [.int p0, .int v4_5]) (rest := [.int v3_5]) S (s_X5_likeOf l D k a st sl x p0 v4_5 _ mx hB hp0 h122 ) lkX5_45 ok_X5_likeOf ⟨rfl, rfl, Nat.le_of_ble_eq_true rfl, Nat.le_of_ble_eq_true rfl⟩ (pw_V (ci := 5) (q0 := x) hK hN rfl (sx_0 mx) hP hD0) rfl hl.1 rfl (Nat.le_of_ble_eq_true rfl) ⟨Nat.zero_le _, Nat.zero_le _⟩ dX5_worthOf_19 (fun r124 er124 => ?_)
        have h125 : Iv 0 9 r124 := er124.1
        refine lv_aload_n hx hb dX5_worthOf_22 rfl (lv_at hl 3 rfl) ?_
        refine va_get (D := D) (ci := 1) (v := .ref (a 21)) (C := RX1) (T := TX1) (N := 14) hx hb hT in_X1 hown hK hP 18 cw_18 rfl 9 (by decide) (hT _ t232) (fun _ h9 => h9) rfl dX5_worthOf_23 ?_
        refine lv_iload hx hb dX5_worthOf_26 (lv_at hl 0 rfl) ?_
        refine va_iald hx hb hK hP 21 0 cw_21 rfl (iv_in h122 (by decide) (by decide)) dX5_worthOf_28 ?_
        refine lv_topi (fun z126 ez126 => ?_)
        refine lv_imul hx hb dX5_worthOf_29 ?_
        refine lv_topi (fun z127 ez127 => ?_)
        refine lv_iadd hx hb dX5_worthOf_30 ?_
        refine lv_topi (fun z128 ez128 => ?_)
        refine lv_istore_n (lv' := [(3, .int z128), (4, .int v4_5), (0, .ref (a x)), (1, .ref (a 18)), (2, .int p0)]) hx hb dX5_worthOf_31 rfl hl (by decide) rfl (fun ls hl => ?_)
        obtain ⟨z129, ez129⟩ : ∃ z9 : Int32, z9 = v4_5 + Int32.ofInt 1 := ⟨_, rfl⟩
        have h130 : Iv 1 8 z129 := iv_inc ez129 h122 (by decide) (by decide) (by decide) (by decide) (by decide) (by decide)
        refine lv_iinc (v := z129) (lv' := [(4, .int z129), (3, .int z128), (0, .ref (a x)), (1, .ref (a 18)), (2, .int p0)]) hx hb dX5_worthOf_32 hl (k := 1) rfl ez129.symm (by decide) rfl (fun ls hl => ?_)
        refine lv_goto (tgt := 5) hx hb dX5_worthOf_35 (by decide) ?_
        exact ih5 z129 z128 _ (iv_mono (c := 0) (d := 8) h130 (by decide) (by decide)) (lv_sub hl [0, 1, 2, 3, 4] rfl) (fu_s (lo := 0) (ti_inc ez129 h122 (by decide) (by decide) (by decide) (by decide)) (by decide) hm5)
  exact lp5 9 0 0 _ (iv_mono (c := 0) (d := 8) (iv_c (by decide) : Iv 0 0 0) (by decide) (by decide)) (lv_sub hl [0, 1, 2, 3, 4] rfl) (fu_i (iv_mono (c := 0) (d := 8) (iv_c (by decide) : Iv 0 0 0) (by decide) (by decide)) (by decide))
set_option maxHeartbeats 4000000 in
set_option maxRecDepth 100000 in
theorem s_X5_crewOf (l : Launch) (D : va_G) (k : Nat → ClassId) (a : Nat → Nat) (st : CT) (sl : CL) (x : Nat) (p0 : Int32) (sz : Nat) (mx : x ∈ SC) (hB : CB st)  : Met l yX5_crewOf (.code yX5_crewOf cX5_crewOf 4 (some .int) :: TB) (rmk 1) (va_Pc [.ref (a x), .int p0] (PW D k sz (CWS k a st sl))) (vp_Si (fun r => Iv 0 255 r ∧ (True))) 0 0 (fun _ => False) := by
  refine Met.ofW (cc := cX5_crewOf) (maxL := 4) (ret := (some .int)) (by decide) rfl ?_
  intro p e s m args below meth c s₁ B hml hv
  obtain ⟨rfl, hsz, hP, hK, hD0, hN⟩ := hv
  have hx := B.exec
  have hb := B.bytes
  have hr := B.returns
  have hT : ∀ w9 ∈ TB, w9.before ([.ref (a x), .int p0] : List Value).toArray s = true := fun w9 h => atoms_spec (ws := .code yX5_crewOf cX5_crewOf 4 (some .int) :: TB) B.pre w9 (List.mem_cons_of_mem _ h)
  have hown : s.vm.findClass RX5 = some m.cls := findClass_of_methodNamed B.named
  have S : CallFix p m c cX5_crewOf 4 s _ TB RX5 := ⟨hx, hb, hml, hown, hT⟩
  subst hsz
  have hl := lv_entry ([.ref (a x), .int p0]) (n := 4) (Nat.le_of_ble_eq_true rfl)
  rw [lg_entry_eq]
  generalize (lg_sl ([.ref (a x), .int p0]) ++ List.replicate (4 - (lg_sl ([.ref (a x), .int p0])).length) Slot.unset).toArray = ls at hl ⊢
  have hl : lv_has ls 4 [(0, .ref (a x)), (1, .int p0)] := hl
  refine nameQ (fun Q hQ => ?_)
  refine lv_iconst (v := 0) hx hb dX5_crewOf_0 (by decide) ?_
  refine lv_istore_n (lv' := [(2, .int 0), (0, .ref (a x)), (1, .int p0)]) hx hb dX5_crewOf_1 rfl hl (by decide) rfl (fun ls hl => ?_)
  refine lv_iconst (v := 0) hx hb dX5_crewOf_2 (by decide) ?_
  refine lv_istore_n (lv' := [(3, .int 0), (2, .int 0), (0, .ref (a x)), (1, .int p0)]) hx hb dX5_crewOf_3 rfl hl (by decide) rfl (fun ls hl => ?_)
  have lp4 : ∀ (n9_4 : Nat) (v3_4 : Int32) (v2_4 : Int32) (ls : Array Slot), Iv 0 8 v3_4 → Iv 0 255 v2_4 → lv_has ls 4 [(3, .int v3_4), (2, .int v2_4), (0, .ref (a x)), (1, .int p0)] → (8 : Int) - v3_4.toInt < (n9_4 : Int) → W p l e (rmk 1) s m ([.ref (a x), .int p0] : List Value).toArray below meth c s.heap [] 0 0 Q (F0 m 4 ls []) := by
    clear hl
    intro n9_4
    induction n9_4 with
    | zero =>
      intro v3_4 v2_4 ls iv3_4 iv2_4 hl hm4
      exact (fu_0 iv3_4 hm4).elim
    | succ n9_4 ih4 =>
      intro v3_4 v2_4 ls iv3_4 iv2_4 hl hm4
      refine lv_iload_n hx hb dX5_crewOf_4 rfl (lv_at hl 0 rfl) ?_
      refine lv_bipush (v := 8) hx hb dX5_crewOf_5 (by decide) ?_
      refine lv_icmp_ge (tgt := 32) hx hb dX5_crewOf_7 (by decide) (fun c120 => ?_) (fun c120 => ?_)
      · skip
        have n121 : (8 : Int32).toInt ≤ v3_4.toInt := (i_le c120)
        have h122 : Iv 8 8 v3_4 := le_r (iv_c (by decide) : Iv 8 8 8) n121 iv3_4 (by decide)
        refine lv_iload_n hx hb dX5_crewOf_32 rfl (lv_at hl 1 rfl) ?_
        rw [hQ]
        exact W.iret (v := v2_4) hx hb hr (fun t ht hW => ⟨v2_4, rfl, ⟨iv2_4, trivial⟩, ht⟩) (fun _ h9 => by cases h9) dX5_crewOf_33
      · skip
        have n123 : v3_4.toInt < (8 : Int32).toInt := (i_nle c120)
        have h124 : Iv 0 7 v3_4 := lt_l iv3_4 n123 (iv_c (by decide) : Iv 8 8 8) (by decide)
        refine lv_aload_n hx hb dX5_crewOf_10 rfl (lv_at hl 2 rfl) ?_
        refine va_get (D := D) (ci := 5) (v := .ref (a (x + 3))) (C := RX5) (T := TX5) (N := 5) hx hb hT in_X5 hown hK hP x (sx_0 mx) rfl 2 (by decide) (hT _ t172) (fun _ h9 => h9) rfl dX5_crewOf_11 ?_
        refine lv_iload_n hx hb dX5_crewOf_14 rfl (lv_at hl 0 rfl) ?_
        refine va_iald hx hb hK hP (x + 3) 0 (sx_3 mx) rfl (iv_in h124 (by decide) (by decide)) dX5_crewOf_15 ?_
        refine lv_topi (fun z125 ez125 => ?_)
        refine lv_iload_n hx hb dX5_crewOf_16 rfl (lv_at hl 3 rfl) ?_
        refine lv_icmp_ne (tgt := 26) hx hb dX5_crewOf_17 (by decide) (fun c126 => ?_) (fun c126 => ?_)
        · skip
          obtain ⟨z127, ez127⟩ : ∃ z9 : Int32, z9 = v3_4 + Int32.ofInt 1 := ⟨_, rfl⟩
          have h128 : Iv 1 8 z127 := iv_inc ez127 h124 (by decide) (by decide) (by decide) (by decide) (by decide) (by decide)
          refine lv_iinc (v := z127) (lv' := [(3, .int z127), (2, .int v2_4), (0, .ref (a x)), (1, .int p0)]) hx hb dX5_crewOf_26 hl (k := 0) rfl ez127.symm (by decide) rfl (fun ls hl => ?_)
          refine lv_goto (tgt := 4) hx hb dX5_crewOf_29 (by decide) ?_
          exact ih4 z127 v2_4 _ (iv_mono (c := 0) (d := 8) h128 (by decide) (by decide)) iv2_4 (lv_sub hl [0, 1, 2, 3] rfl) (fu_s (lo := 0) (ti_inc ez127 h124 (by decide) (by decide) (by decide) (by decide)) (by decide) hm4)
        · skip
          refine lv_iload_n hx hb dX5_crewOf_20 rfl (lv_at hl 1 rfl) ?_
          refine lv_iconst (v := 1) hx hb dX5_crewOf_21 (by decide) ?_
          refine lv_iload_n hx hb dX5_crewOf_22 rfl (lv_at hl 0 rfl) ?_
          refine lv_ishl hx hb dX5_crewOf_23 ?_
          refine lv_topi (fun z129 ez129 => ?_)
          have h130 : Iv 1 128 z129 := iv_shl 7 ez129 h124 (by decide) (by decide) (by decide)
          refine lv_ior hx hb dX5_crewOf_24 ?_
          refine lv_topi (fun z131 ez131 => ?_)
          have h132 : Iv 0 255 z131 := iv_or 8 ez131 iv2_4 (iv_mono (c := 0) (d := 128) h130 (by decide) (by decide)) (by decide) (by decide) (by decide) (by decide)
          refine lv_istore_n (lv' := [(2, .int z131), (3, .int v3_4), (0, .ref (a x)), (1, .int p0)]) hx hb dX5_crewOf_25 rfl hl (by decide) rfl (fun ls hl => ?_)
          obtain ⟨z133, ez133⟩ : ∃ z9 : Int32, z9 = v3_4 + Int32.ofInt 1 := ⟨_, rfl⟩
          have h134 : Iv 1 8 z133 := iv_inc ez133 h124 (by decide) (by decide) (by decide) (by decide) (by decide) (by decide)
          refine lv_iinc (v := z133) (lv' := [(3, .int z133), (2, .int z131), (0, .ref (a x)), (1, .int p0)]) hx hb dX5_crewOf_26 hl (k := 1) rfl ez133.symm (by decide) rfl (fun ls hl => ?_)
          refine lv_goto (tgt := 4) hx hb dX5_crewOf_29 (by decide) ?_
          exact ih4 z133 z131 _ (iv_mono (c := 0) (d := 8) h134 (by decide) (by decide)) h132 (lv_sub hl [0, 1, 2, 3] rfl) (fu_s (lo := 0) (ti_inc ez133 h124 (by decide) (by decide) (by decide) (by decide)) (by decide) hm4)
  exact lp4 9 0 0 _ (iv_mono (c := 0) (d := 8) (iv_c (by decide) : Iv 0 0 0) (by decide) (by decide)) (iv_mono (c := 0) (d := 255) (iv_c (by decide) : Iv 0 0 0) (by decide) (by decide)) (lv_sub hl [0, 1, 2, 3] rfl) (fu_i (iv_mono (c := 0) (d := 8) (iv_c (by decide) : Iv 0 0 0) (by decide) (by decide)) (by decide))
set_option maxHeartbeats 4000000 in
set_option maxRecDepth 100000 in
theorem s_X5_seat (l : Launch) (D : va_G) (k : Nat → ClassId) (a : Nat → Nat) (st : CT) (sl : CL) (x : Nat) (p0 : Int32) (p1 : Int32) (sz : Nat) (mx : x ∈ SC) (hB : CB st)  : Met l yX5_seat (.code yX5_seat cX5_seat 4 none :: TB) (rmw 1 0 0) (va_Pc [.ref (a x), .int p0, .int p1] (PW D k sz (CWS k a st sl))) (QV D (S := CT) (fun u => CB u ∧ FR [(x + 3)] st u ∧ (True)) (fun u => CWS k a u sl) (fun _ => []) (CWS k a st sl) sz) 0 0 (va_A (CWS k a st sl) sz) := by
  refine Met.ofW (cc := cX5_seat) (maxL := 4) (ret := none) (by decide) rfl ?_
  intro p e s m args below meth c s₁ B hml hv
  obtain ⟨rfl, hsz, hP, hK, hD0, hN⟩ := hv
  have hx := B.exec
  have hb := B.bytes
  have hr := B.returns
  have hT : ∀ w9 ∈ TB, w9.before ([.ref (a x), .int p0, .int p1] : List Value).toArray s = true := fun w9 h => atoms_spec (ws := .code yX5_seat cX5_seat 4 none :: TB) B.pre w9 (List.mem_cons_of_mem _ h)
  have hown : s.vm.findClass RX5 = some m.cls := findClass_of_methodNamed B.named
  have S : CallFix p m c cX5_seat 4 s _ TB RX5 := ⟨hx, hb, hml, hown, hT⟩
  subst hsz
  have hD := hD0.self (sz := s.heap.size)
  generalize hAe : va_A (CWS k a st sl) s.heap.size = A at hD ⊢
  have hA : ∀ q : Nat, s.heap.size ≤ q → A q := fun q h => by rw [← hAe]; exact Or.inr h
  have hS : va_S A s.heap s.heap [] := va_S.rf
  have hl := lv_entry ([.ref (a x), .int p0, .int p1]) (n := 4) (Nat.le_of_ble_eq_true rfl)
  rw [lg_entry_eq]
  generalize (lg_sl ([.ref (a x), .int p0, .int p1]) ++ List.replicate (4 - (lg_sl ([.ref (a x), .int p0, .int p1])).length) Slot.unset).toArray = ls at hl ⊢
  have hl : lv_has ls 4 [(0, .ref (a x)), (1, .int p0), (2, .int p1)] := hl
  refine nameQ (fun Q hQ => ?_)
  refine lv_iconst (v := 0) hx hb dX5_seat_0 (by decide) ?_
  refine lv_istore_n (lv' := [(3, .int 0), (0, .ref (a x)), (1, .int p0), (2, .int p1)]) hx hb dX5_seat_1 rfl hl (by decide) rfl (fun ls hl => ?_)
  have lp2 : ∀ (n9_2 : Nat) (v3_2 : Int32) (t2 : CT) (H9 : Heap) (locs9 : List Loc) (ls : Array Slot), Iv 0 8 v3_2 → CB t2 → FR [(x + 3)] st t2 → va_P D vwCl (CWS k a t2 sl) H9 → va_D A (CWS k a t2 sl) → va_S A s.heap H9 locs9 → lv_has ls 4 [(3, .int v3_2), (0, .ref (a x)), (1, .int p0), (2, .int p1)] → (8 : Int) - v3_2.toInt < (n9_2 : Int) → W p l e (rmw 1 0 0) s m ([.ref (a x), .int p0, .int p1] : List Value).toArray below meth c H9 locs9 0 0 Q (F0 m 2 ls []) := by
    clear hl hP hD hS
    intro n9_2
    induction n9_2 with
    | zero =>
      intro v3_2 t2 H9 locs9 ls iv3_2 hBt2 gt2 hP hD hS hl hm2
      exact (fu_0 iv3_2 hm2).elim
    | succ n9_2 ih2 =>
      intro v3_2 t2 H9 locs9 ls iv3_2 hBt2 gt2 hP hD hS hl hm2
      have hFt2 : FR [(x + 3)] st t2 := fr_ca fr_rf gt2 (sub_1 (List.mem_of_getElem? (i := 0) rfl) sub_0)
      refine lv_iload_n hx hb dX5_seat_2 rfl (lv_at hl 0 rfl) ?_
      refine lv_bipush (v := 8) hx hb dX5_seat_3 (by decide) ?_
      refine lv_icmp_ge (tgt := 49) hx hb dX5_seat_5 (by decide) (fun c174 => ?_) (fun c174 => ?_)
      · skip
        have n175 : (8 : Int32).toInt ≤ v3_2.toInt := (i_le c174)
        have h176 : Iv 8 8 v3_2 := le_r (iv_c (by decide) : Iv 8 8 8) n175 iv3_2 (by decide)
        rw [hQ]
        exact W.vret hx hb hr (fun t ht hW => ⟨⟨t2, rfl, ⟨hBt2, hFt2, trivial⟩, by rw [ht]; exact hP, va_K.moved hW.alike (hK.sub (tys' := []) [] rfl), by rw [hAe]; exact hD⟩, by rw [hAe]; exact hS.F ht⟩) hS.2.2 dX5_seat_49
      · skip
        have n177 : v3_2.toInt < (8 : Int32).toInt := (i_nle c174)
        have h178 : Iv 0 7 v3_2 := lt_l iv3_2 n177 (iv_c (by decide) : Iv 8 8 8) (by decide)
        refine lv_iload_n hx hb dX5_seat_8 rfl (lv_at hl 3 rfl) ?_
        refine lv_iload_n hx hb dX5_seat_9 rfl (lv_at hl 0 rfl) ?_
        refine lv_ishr hx hb dX5_seat_10 ?_
        refine lv_topi (fun z179 ez179 => ?_)
        refine lv_iconst (v := 1) hx hb dX5_seat_11 (by decide) ?_
        refine lv_iand hx hb dX5_seat_12 ?_
        refine lv_topi (fun z180 ez180 => ?_)
        have h181 : Iv 0 1 z180 := iv_andr ez180 (iv_mono (c := 0) (d := 1) (iv_c (by decide) : Iv 1 1 1) (by decide) (by decide))
        refine lv_if_eq (tgt := 26) hx hb dX5_seat_13 (by decide) (fun c182 => ?_) (fun c182 => ?_)
        · skip
          have h183 : Iv 0 0 z180 := eq_l c182 (iv_c (by decide) : Iv 0 0 0)
          refine lv_aload_n hx hb dX5_seat_26 rfl (lv_at hl 1 rfl) ?_
          refine va_get (D := D) (ci := 5) (v := .ref (a (x + 3))) (C := RX5) (T := TX5) (N := 5) hx hb hT in_X5 hown hK hP x (sx_0 mx) rfl 2 (by decide) (hT _ t172) (fun _ h9 => h9) rfl dX5_seat_27 ?_
          refine lv_iload_n hx hb dX5_seat_30 rfl (lv_at hl 0 rfl) ?_
          refine va_iald hx hb hK hP (x + 3) 0 (sx_3 mx) rfl (iv_in h178 (by decide) (by decide)) dX5_seat_31 ?_
          refine lv_topi (fun z184 ez184 => ?_)
          refine lv_iload_n hx hb dX5_seat_32 rfl (lv_at hl 2 rfl) ?_
          refine lv_icmp_ne (tgt := 43) hx hb dX5_seat_33 (by decide) (fun c185 => ?_) (fun c185 => ?_)
          · skip
            obtain ⟨z186, ez186⟩ : ∃ z9 : Int32, z9 = v3_2 + Int32.ofInt 1 := ⟨_, rfl⟩
            have h187 : Iv 1 8 z186 := iv_inc ez186 h178 (by decide) (by decide) (by decide) (by decide) (by decide) (by decide)
            refine lv_iinc (v := z186) (lv' := [(3, .int z186), (0, .ref (a x)), (1, .int p0), (2, .int p1)]) hx hb dX5_seat_43 hl (k := 0) rfl ez186.symm (by decide) rfl (fun ls hl => ?_)
            refine lv_goto (tgt := 2) hx hb dX5_seat_46 (by decide) ?_
            exact ih2 z186 t2 _ _ _ (iv_mono (c := 0) (d := 8) h187 (by decide) (by decide)) hBt2 gt2 hP hD hS (lv_sub hl [0, 1, 2, 3] rfl) (fu_s (lo := 0) (ti_inc ez186 h178 (by decide) (by decide) (by decide) (by decide)) (by decide) hm2)
          · skip
            refine lv_aload_n hx hb dX5_seat_36 rfl (lv_at hl 1 rfl) ?_
            refine va_get (D := D) (ci := 5) (v := .ref (a (x + 3))) (C := RX5) (T := TX5) (N := 5) hx hb hT in_X5 hown hK hP x (sx_0 mx) rfl 2 (by decide) (hT _ t172) (fun _ h9 => h9) rfl dX5_seat_37 ?_
            refine lv_iload_n hx hb dX5_seat_40 rfl (lv_at hl 0 rfl) ?_
            refine lv_iconst (v := (-1)) hx hb dX5_seat_41 (by decide) ?_
            refine c_ist hx hb hK hP hD hS (sx_3 mx) (ss_3 mx) (iv_in h178 (by decide) (by decide)) dX5_seat_42 (fun s188 H9 locs9 es188 hP9 hD9 hS9 => ?_)
            clear hP hD hS
            have hS := hS9
            have hP := hP9
            have hD := hD9
            clear hP9 hD9 hS9
            have hBs188 : CB s188 := by rw [es188]; exact cb_sw hBt2 (by rw [kx_3 mx]; trivial)
            have hFs188 : FR [(x + 3)] st s188 := fr_sw hFt2 (List.mem_of_getElem? (i := 0) rfl) es188
            obtain ⟨z189, ez189⟩ : ∃ z9 : Int32, z9 = v3_2 + Int32.ofInt 1 := ⟨_, rfl⟩
            have h190 : Iv 1 8 z189 := iv_inc ez189 h178 (by decide) (by decide) (by decide) (by decide) (by decide) (by decide)
            refine lv_iinc (v := z189) (lv' := [(3, .int z189), (0, .ref (a x)), (1, .int p0), (2, .int p1)]) hx hb dX5_seat_43 hl (k := 0) rfl ez189.symm (by decide) rfl (fun ls hl => ?_)
            refine lv_goto (tgt := 2) hx hb dX5_seat_46 (by decide) ?_
            exact ih2 z189 s188 _ _ _ (iv_mono (c := 0) (d := 8) h190 (by decide) (by decide)) hBs188 (fr_sw gt2 (List.mem_of_getElem? (i := 0) rfl) es188) hP hD hS (lv_sub hl [0, 1, 2, 3] rfl) (fu_s (lo := 0) (ti_inc ez189 h178 (by decide) (by decide) (by decide) (by decide)) (by decide) hm2)
        · skip
          have h191 : Iv 1 1 z180 := ne_lo h181 c182 (by decide) (by decide)
          refine lv_aload_n hx hb dX5_seat_16 rfl (lv_at hl 1 rfl) ?_
          refine va_get (D := D) (ci := 5) (v := .ref (a (x + 3))) (C := RX5) (T := TX5) (N := 5) hx hb hT in_X5 hown hK hP x (sx_0 mx) rfl 2 (by decide) (hT _ t172) (fun _ h9 => h9) rfl dX5_seat_17 ?_
          refine lv_iload_n hx hb dX5_seat_20 rfl (lv_at hl 0 rfl) ?_
          refine lv_iload_n hx hb dX5_seat_21 rfl (lv_at hl 2 rfl) ?_
          refine c_ist hx hb hK hP hD hS (sx_3 mx) (ss_3 mx) (iv_in h178 (by decide) (by decide)) dX5_seat_22 (fun s192 H9 locs9 es192 hP9 hD9 hS9 => ?_)
          clear hP hD hS
          have hS := hS9
          have hP := hP9
          have hD := hD9
          clear hP9 hD9 hS9
          have hBs192 : CB s192 := by rw [es192]; exact cb_sw hBt2 (by rw [kx_3 mx]; trivial)
          have hFs192 : FR [(x + 3)] st s192 := fr_sw hFt2 (List.mem_of_getElem? (i := 0) rfl) es192
          refine lv_goto (tgt := 43) hx hb dX5_seat_23 (by decide) ?_
          obtain ⟨z193, ez193⟩ : ∃ z9 : Int32, z9 = v3_2 + Int32.ofInt 1 := ⟨_, rfl⟩
          have h194 : Iv 1 8 z193 := iv_inc ez193 h178 (by decide) (by decide) (by decide) (by decide) (by decide) (by decide)
          refine lv_iinc (v := z193) (lv' := [(3, .int z193), (0, .ref (a x)), (1, .int p0), (2, .int p1)]) hx hb dX5_seat_43 hl (k := 0) rfl ez193.symm (by decide) rfl (fun ls hl => ?_)
          refine lv_goto (tgt := 2) hx hb dX5_seat_46 (by decide) ?_
          exact ih2 z193 s192 _ _ _ (iv_mono (c := 0) (d := 8) h194 (by decide) (by decide)) hBs192 (fr_sw gt2 (List.mem_of_getElem? (i := 0) rfl) es192) hP hD hS (lv_sub hl [0, 1, 2, 3] rfl) (fu_s (lo := 0) (ti_inc ez193 h178 (by decide) (by decide) (by decide) (by decide)) (by decide) hm2)
  exact lp2 9 0 st _ _ _ (iv_mono (c := 0) (d := 8) (iv_c (by decide) : Iv 0 0 0) (by decide) (by decide)) hB fr_rf hP hD hS (lv_sub hl [0, 1, 2, 3] rfl) (fu_i (iv_mono (c := 0) (d := 8) (iv_c (by decide) : Iv 0 0 0) (by decide) (by decide)) (by decide))
