set_option maxHeartbeats 4000000 in
set_option maxRecDepth 100000 in
theorem s_X5_pullOf (l : Launch) (D : va_G) (k : Nat → ClassId) (a : Nat → Nat) (st : CT) (sl : CL) (x : Nat) (p0 : Int32) (p1 : Int32) (sz : Nat) (mx : x ∈ SC) (hB : CB st) (hp1 : Iv 0 7 p1) : Met l yX5_pullOf (.code yX5_pullOf cX5_pullOf 5 (some .int) :: TB) (rmk 1) (va_Pc [.ref (a x), .int p0, .int p1] (PW D k sz (CWS k a st sl))) (vp_Si (fun r => Iv 0 72 r ∧ (True))) 0 0 (fun _ => False) := by
  refine Met.ofW (cc := cX5_pullOf) (maxL := 5) (ret := (some .int)) (by decide) rfl ?_
  intro p e s m args below meth c s₁ B hml hv
  obtain ⟨rfl, hsz, hP, hK, hD0, hN⟩ := hv
  have hx := B.exec
  have hb := B.bytes
  have hr := B.returns
  have hT : ∀ w9 ∈ TB, w9.before ([.ref (a x), .int p0, .int p1] : List Value).toArray s = true := fun w9 h => atoms_spec (ws := .code yX5_pullOf cX5_pullOf 5 (some .int) :: TB) B.pre w9 (List.mem_cons_of_mem _ h)
  have hown : s.vm.findClass RX5 = some m.cls := findClass_of_methodNamed B.named
  have S : CallFix p m c cX5_pullOf 5 s _ TB RX5 := ⟨hx, hb, hml, hown, hT⟩
  subst hsz
  have hl := lv_entry ([.ref (a x), .int p0, .int p1]) (n := 5) (Nat.le_of_ble_eq_true rfl)
  rw [lg_entry_eq]
  generalize (lg_sl ([.ref (a x), .int p0, .int p1]) ++ List.replicate (5 - (lg_sl ([.ref (a x), .int p0, .int p1])).length) Slot.unset).toArray = ls at hl ⊢
  have hl : lv_has ls 5 [(0, .ref (a x)), (1, .int p0), (2, .int p1)] := hl
  refine nameQ (fun Q hQ => ?_)
  refine lv_iconst (v := 0) hx hb dX5_pullOf_0 (by decide) ?_
  refine lv_istore_n (lv' := [(3, .int 0), (0, .ref (a x)), (1, .int p0), (2, .int p1)]) hx hb dX5_pullOf_1 rfl hl (by decide) rfl (fun ls hl => ?_)
  refine lv_iconst (v := 0) hx hb dX5_pullOf_2 (by decide) ?_
  refine lv_istore (lv' := [(4, .int 0), (3, .int 0), (0, .ref (a x)), (1, .int p0), (2, .int p1)]) hx hb dX5_pullOf_3 hl (by decide) rfl (fun ls hl => ?_)
  have lp5 : ∀ (n9_5 : Nat) (v4_5 : Int32) (v3_5 : Int32) (ls : Array Slot), Iv 0 8 v4_5 → Iv 0 72 v3_5 → v3_5.toInt ≤ 9 * v4_5.toInt → lv_has ls 5 [(4, .int v4_5), (3, .int v3_5), (0, .ref (a x)), (1, .int p0), (2, .int p1)] → (8 : Int) - v4_5.toInt < (n9_5 : Int) → W p l e (rmk 1) s m ([.ref (a x), .int p0, .int p1] : List Value).toArray below meth c s.heap [] 0 0 Q (F0 m 5 ls []) := by
    clear hl
    intro n9_5
    induction n9_5 with
    | zero =>
      intro v4_5 v3_5 ls iv4_5 iv3_5 rel5_0 hl hm5
      exact (fu_0 iv4_5 hm5).elim
    | succ n9_5 ih5 =>
      intro v4_5 v3_5 ls iv4_5 iv3_5 rel5_0 hl hm5
      refine lv_iload hx hb dX5_pullOf_5 (lv_at hl 0 rfl) ?_
      refine lv_bipush (v := 8) hx hb dX5_pullOf_7 (by decide) ?_
      refine lv_icmp_ge (tgt := 42) hx hb dX5_pullOf_9 (by decide) (fun c192 => ?_) (fun c192 => ?_)
      · skip
        have n193 : (8 : Int32).toInt ≤ v4_5.toInt := (i_le c192)
        have h194 : Iv 8 8 v4_5 := le_r (iv_c (by decide) : Iv 8 8 8) n193 iv4_5 (by decide)
        refine lv_iload_n hx hb dX5_pullOf_42 rfl (lv_at hl 1 rfl) ?_
        rw [hQ]
        exact W.iret (v := v3_5) hx hb hr (fun t ht hW => ⟨v3_5, rfl, ⟨iv3_5, trivial⟩, ht⟩) (fun _ h9 => by cases h9) dX5_pullOf_43
      · skip
        have n195 : v4_5.toInt < (8 : Int32).toInt := (i_nle c192)
        have h196 : Iv 0 7 v4_5 := lt_l iv4_5 n195 (iv_c (by decide) : Iv 8 8 8) (by decide)
        refine lv_iload_n hx hb dX5_pullOf_12 rfl (lv_at hl 3 rfl) ?_
        refine lv_iload hx hb dX5_pullOf_13 (lv_at hl 0 rfl) ?_
        refine lv_ishr hx hb dX5_pullOf_15 ?_
        refine lv_topi (fun z197 ez197 => ?_)
        refine lv_iconst (v := 1) hx hb dX5_pullOf_16 (by decide) ?_
        refine lv_iand hx hb dX5_pullOf_17 ?_
        refine lv_topi (fun z198 ez198 => ?_)
        have h199 : Iv 0 1 z198 := iv_andr ez198 (iv_mono (c := 0) (d := 1) (iv_c (by decide) : Iv 1 1 1) (by decide) (by decide))
        refine lv_if_eq (tgt := 36) hx hb dX5_pullOf_18 (by decide) (fun c200 => ?_) (fun c200 => ?_)
        · skip
          have h201 : Iv 0 0 z198 := eq_l c200 (iv_c (by decide) : Iv 0 0 0)
          obtain ⟨z202, ez202⟩ : ∃ z9 : Int32, z9 = v4_5 + Int32.ofInt 1 := ⟨_, rfl⟩
          have h203 : Iv 1 8 z202 := iv_inc ez202 h196 (by decide) (by decide) (by decide) (by decide) (by decide) (by decide)
          refine lv_iinc (v := z202) (lv' := [(4, .int z202), (3, .int v3_5), (0, .ref (a x)), (1, .int p0), (2, .int p1)]) hx hb dX5_pullOf_36 hl (k := 0) rfl ez202.symm (by decide) rfl (fun ls hl => ?_)
          refine lv_goto (tgt := 5) hx hb dX5_pullOf_39 (by decide) ?_
          exact ih5 z202 v3_5 _ (iv_mono (c := 0) (d := 8) h203 (by decide) (by decide)) (by obtain ⟨w0a, w0b⟩ := id (h196); obtain ⟨w1a, w1b⟩ := id (iv3_5); have u0 := ti_inc ez202 h196 (by decide) (by decide) (by decide) (by decide); exact ⟨by omega, by omega⟩) (by obtain ⟨w0a, w0b⟩ := id (h196); obtain ⟨w1a, w1b⟩ := id (iv3_5); have u0 := ti_inc ez202 h196 (by decide) (by decide) (by decide) (by decide); omega) (lv_sub hl [0, 1, 2, 3, 4] rfl) (fu_s (lo := 0) (ti_inc ez202 h196 (by decide) (by decide) (by decide) (by decide)) (by decide) hm5)
        · skip
          have h204 : Iv 1 1 z198 := ne_lo h199 c200 (by decide) (by decide)
          refine lv_iload_n hx hb dX5_pullOf_21 rfl (lv_at hl 1 rfl) ?_
          refine lv_aload_n hx hb dX5_pullOf_22 rfl (lv_at hl 2 rfl) ?_
          refine va_get (D := D) (ci := 5) (v := .ref (a (x + 1))) (C := RX5) (T := TX5) (N := 5) hx hb hT in_X5 hown hK hP x (sx_0 mx) rfl 0 (by decide) (hT _ t167) (fun _ h9 => h9) rfl dX5_pullOf_23 ?_
          refine lv_iload hx hb dX5_pullOf_26 (lv_at hl 0 rfl) ?_
          refine lv_bipush (v := 8) hx hb dX5_pullOf_28 (by decide) ?_
          refine lv_imul hx hb dX5_pullOf_30 ?_
          refine lv_topi (fun z205 ez205 => ?_)
          have h206 : Iv 0 56 z205 := iv_mulr ez205 h196 (k := 8) (by decide) (by decide) (by decide) (by decide) (by decide) (by decide)
          refine lv_iload_n hx hb dX5_pullOf_31 rfl (lv_at hl 4 rfl) ?_
          refine lv_iadd hx hb dX5_pullOf_32 ?_
          refine lv_topi (fun z207 ez207 => ?_)
          have h208 : Iv 0 63 z207 := iv_add ez207 h206 hp1 (by decide) (by decide) (by decide) (by decide)
          refine va_iald hx hb hK hP (x + 1) 0 (sx_1 mx) rfl (iv_in h208 (by decide) (by decide)) dX5_pullOf_33 ?_
          refine lv_topi (fun z209 ez209 => ?_)
          have h210 : Iv 0 9 z209 := by rw [ez209]; exact (rx_1 mx hB (vp_in_lt (iv_in h208 (by decide) (by decide))))
          refine lv_iadd hx hb dX5_pullOf_34 ?_
          refine lv_topi (fun z211 ez211 => ?_)
          have h212 : Iv 0 81 z211 := iv_add ez211 iv3_5 h210 (by decide) (by decide) (by decide) (by decide)
          refine lv_istore_n (lv' := [(3, .int z211), (4, .int v4_5), (0, .ref (a x)), (1, .int p0), (2, .int p1)]) hx hb dX5_pullOf_35 rfl hl (by decide) rfl (fun ls hl => ?_)
          obtain ⟨z213, ez213⟩ : ∃ z9 : Int32, z9 = v4_5 + Int32.ofInt 1 := ⟨_, rfl⟩
          have h214 : Iv 1 8 z213 := iv_inc ez213 h196 (by decide) (by decide) (by decide) (by decide) (by decide) (by decide)
          refine lv_iinc (v := z213) (lv' := [(4, .int z213), (3, .int z211), (0, .ref (a x)), (1, .int p0), (2, .int p1)]) hx hb dX5_pullOf_36 hl (k := 1) rfl ez213.symm (by decide) rfl (fun ls hl => ?_)
          refine lv_goto (tgt := 5) hx hb dX5_pullOf_39 (by decide) ?_
          exact ih5 z213 z211 _ (iv_mono (c := 0) (d := 8) h214 (by decide) (by decide)) (by obtain ⟨w0a, w0b⟩ := id (h196); obtain ⟨w1a, w1b⟩ := id (iv3_5); obtain ⟨w2a, w2b⟩ := id (h210); have u0 := ti_inc ez213 h196 (by decide) (by decide) (by decide) (by decide); have u1 := ti_add ez211 iv3_5 h210 (by decide) (by decide); exact ⟨by omega, by omega⟩) (by obtain ⟨w0a, w0b⟩ := id (h196); obtain ⟨w1a, w1b⟩ := id (iv3_5); obtain ⟨w2a, w2b⟩ := id (h210); have u0 := ti_inc ez213 h196 (by decide) (by decide) (by decide) (by decide); have u1 := ti_add ez211 iv3_5 h210 (by decide) (by decide); omega) (lv_sub hl [0, 1, 2, 3, 4] rfl) (fu_s (lo := 0) (ti_inc ez213 h196 (by decide) (by decide) (by decide) (by decide)) (by decide) hm5)
  exact lp5 9 0 0 _ (iv_mono (c := 0) (d := 8) (iv_c (by decide) : Iv 0 0 0) (by decide) (by decide)) (iv_mono (c := 0) (d := 72) (iv_c (by decide) : Iv 0 0 0) (by decide) (by decide)) (by decide) (lv_sub hl [0, 1, 2, 3, 4] rfl) (fu_i (iv_mono (c := 0) (d := 8) (iv_c (by decide) : Iv 0 0 0) (by decide) (by decide)) (by decide))
theorem fav_i {st : CT} {p r r2 b : Int32} (h : ∀ w : Int32, 0 ≤ w.toInt → w.toInt < r.toInt → TP st w p → 0 ≤ b.toInt) (e : r2.toInt = r.toInt + 1) (hc : r.toInt < (st 18 3).toInt) (k : (0 : Int) ≤ r.toInt → ¬ (r.toInt < (st 18 3).toInt ∧ TP st r p)) : ∀ w : Int32, 0 ≤ w.toInt → w.toInt < r2.toInt → TP st w p → 0 ≤ b.toInt := fun w a1 a2 a3 => by
  by_cases q : w.toInt < r.toInt
  · exact h w a1 q a3
  · have e2 : w = r := Int32.toInt_inj.mp (by omega)
    subst e2
    exact absurd ⟨hc, a3⟩ (k a1)
theorem tp_of {st u : CT} {w p : Int32} (h1 : u 19 = st 19) (h2 : u 20 = st 20) (h : TP u w p) : TP st w p := by
  unfold TP at h ⊢
  rw [← h1, ← h2]
  exact h

set_option maxHeartbeats 4000000 in
set_option maxRecDepth 100000 in
theorem s_X5_favourite (l : Launch) (D : va_G) (k : Nat → ClassId) (a : Nat → Nat) (st : CT) (sl : CL) (x : Nat) (p0 : Int32) (p1 : Int32) (sz : Nat) (mx : x ∈ SC) (hB : CB st)  : Met l yX5_favourite (.code yX5_favourite cX5_favourite 8 (some .int) :: TB) (rmk 2) (va_Pc [.ref (a x), .ref (a 18), .int p0, .int p1] (PW D k sz (CWS k a st sl))) (vp_Si (fun r => Iv (-1) 7 r ∧ ((∀ w : Int32, 0 ≤ w.toInt → w.toInt < (st 18 3).toInt → TP st w p1 → 0 ≤ r.toInt)))) 0 0 (fun _ => False) := by
  refine Met.ofW (cc := cX5_favourite) (maxL := 8) (ret := (some .int)) (by decide) rfl ?_
  intro p e s m args below meth c s₁ B hml hv
  obtain ⟨rfl, hsz, hP, hK, hD0, hN⟩ := hv
  have hx := B.exec
  have hb := B.bytes
  have hr := B.returns
  have hT : ∀ w9 ∈ TB, w9.before ([.ref (a x), .ref (a 18), .int p0, .int p1] : List Value).toArray s = true := fun w9 h => atoms_spec (ws := .code yX5_favourite cX5_favourite 8 (some .int) :: TB) B.pre w9 (List.mem_cons_of_mem _ h)
  have hown : s.vm.findClass RX5 = some m.cls := findClass_of_methodNamed B.named
  have S : CallFix p m c cX5_favourite 8 s _ TB RX5 := ⟨hx, hb, hml, hown, hT⟩
  subst hsz
  have hl := lv_entry ([.ref (a x), .ref (a 18), .int p0, .int p1]) (n := 8) (Nat.le_of_ble_eq_true rfl)
  rw [lg_entry_eq]
  generalize (lg_sl ([.ref (a x), .ref (a 18), .int p0, .int p1]) ++ List.replicate (8 - (lg_sl ([.ref (a x), .ref (a 18), .int p0, .int p1])).length) Slot.unset).toArray = ls at hl ⊢
  have hl : lv_has ls 8 [(0, .ref (a x)), (1, .ref (a 18)), (2, .int p0), (3, .int p1)] := hl
  refine nameQ (fun Q hQ => ?_)
  refine lv_iconst (v := (-1)) hx hb dX5_favourite_0 (by decide) ?_
  refine lv_istore (lv' := [(4, .int (-1)), (0, .ref (a x)), (1, .ref (a 18)), (2, .int p0), (3, .int p1)]) hx hb dX5_favourite_1 hl (by decide) rfl (fun ls hl => ?_)
  refine lv_iconst (v := (-1)) hx hb dX5_favourite_3 (by decide) ?_
  refine lv_istore (lv' := [(5, .int (-1)), (4, .int (-1)), (0, .ref (a x)), (1, .ref (a 18)), (2, .int p0), (3, .int p1)]) hx hb dX5_favourite_4 hl (by decide) rfl (fun ls hl => ?_)
  refine lv_iconst (v := 0) hx hb dX5_favourite_6 (by decide) ?_
  refine lv_istore (lv' := [(6, .int 0), (5, .int (-1)), (4, .int (-1)), (0, .ref (a x)), (1, .ref (a 18)), (2, .int p0), (3, .int p1)]) hx hb dX5_favourite_7 hl (by decide) rfl (fun ls hl => ?_)
  have lp9 : ∀ (n9_9 : Nat) (v6_9 : Int32) (v5_9 : Int32) (v4_9 : Int32) (ls : Array Slot), Iv 0 8 v6_9 → Iv (-1) 72 v5_9 → Iv (-1) 7 v4_9 → (∀ w : Int32, 0 ≤ w.toInt → w.toInt < v6_9.toInt → TP st w p1 → 0 ≤ v4_9.toInt) → (v4_9.toInt < 0 → v5_9.toInt < 0) → lv_has ls 8 [(6, .int v6_9), (5, .int v5_9), (4, .int v4_9), (0, .ref (a x)), (1, .ref (a 18)), (2, .int p0), (3, .int p1)] → (8 : Int) - v6_9.toInt < (n9_9 : Int) → W p l e (rmk 2) s m ([.ref (a x), .ref (a 18), .int p0, .int p1] : List Value).toArray below meth c s.heap [] 0 0 Q (F0 m 9 ls []) := by
    clear hl
    intro n9_9
    induction n9_9 with
    | zero =>
      intro v6_9 v5_9 v4_9 ls iv6_9 iv5_9 iv4_9 rel9_0 rel9_1 hl hm9
      exact (fu_0 iv6_9 hm9).elim
    | succ n9_9 ih9 =>
      intro v6_9 v5_9 v4_9 ls iv6_9 iv5_9 iv4_9 rel9_0 rel9_1 hl hm9
      refine lv_iload hx hb dX5_favourite_9 (lv_at hl 0 rfl) ?_
      refine lv_aload_n hx hb dX5_favourite_11 rfl (lv_at hl 4 rfl) ?_
      refine va_get (D := D) (ci := 1) (v := .int (st 18 3)) (C := RX1) (T := TX1) (N := 14) hx hb hT in_X1 hown hK hP 18 cw_18 rfl 3 (by decide) (hT _ t210) (fun _ h9 => h9) rfl dX5_favourite_12 ?_
      have h240 : Iv 0 8 (st 18 3) := (rb_18_3 hB)
      refine lv_icmp_ge (tgt := 58) hx hb dX5_favourite_15 (by decide) (fun c241 => ?_) (fun c241 => ?_)
      · skip
        have n242 : (st 18 3).toInt ≤ v6_9.toInt := (i_le c241)
        refine lv_iload hx hb dX5_favourite_58 (lv_at hl 2 rfl) ?_
        rw [hQ]
        exact W.iret (v := v4_9) hx hb hr (fun t ht hW => ⟨v4_9, rfl, ⟨iv4_9, (fun w a1 a2 a3 => rel9_0 w a1 (Int.lt_of_lt_of_le a2 n242) a3)⟩, ht⟩) (fun _ h9 => by cases h9) dX5_favourite_60
      · skip
        have n243 : v6_9.toInt < (st 18 3).toInt := (i_nle c241)
        have h244 : Iv 0 7 v6_9 := lt_l iv6_9 n243 h240 (by decide)
        have h245 : Iv 1 8 (st 18 3) := lt_r iv6_9 n243 h240 (by decide)
        refine lv_aload_n hx hb dX5_favourite_18 rfl (lv_at hl 4 rfl) ?_
        refine lv_iload hx hb dX5_favourite_19 (lv_at hl 0 rfl) ?_
        refine lv_iload_n hx hb dX5_favourite_21 rfl (lv_at hl 6 rfl) ?_
        refine ro_V (As := [.int v6_9, .int p1]) (rest := []) S (s_X1_touches l D k a st sl  v6_9 p1 _  hB  ) lkX5_52 ok_X1_touches ⟨rfl, rfl, Nat.le_of_ble_eq_true rfl, Nat.le_of_ble_eq_true rfl⟩ (pw_V (ci := 1) (q0 := 18) hK hN rfl cw_18 hP hD0) rfl hl.1 rfl (Nat.le_of_ble_eq_true rfl) ⟨Nat.zero_le _, Nat.zero_le _⟩ dX5_favourite_22 (fun r246 er246 => ?_)
        rcases er246 with ⟨rfl, g9⟩ | ⟨rfl, g9⟩
        · skip
          have g247 := g9
          have h248 : Iv 0 5 p1 := g247.2.1
          have k249 := g247.2.2
          refine lv_if_eq (tgt := 52) hx hb dX5_favourite_25 (by decide) (fun c250 => ?_) (fun c250 => ?_)
          · first | exact absurd c250 (by decide) | exact absurd (by decide) c250
          refine lv_aload_n hx hb dX5_favourite_28 rfl (lv_at hl 3 rfl) ?_
          refine lv_iload_n hx hb dX5_favourite_29 rfl (lv_at hl 5 rfl) ?_
          refine lv_iload hx hb dX5_favourite_30 (lv_at hl 0 rfl) ?_
          refine ro_V (As := [.int p0, .int v6_9]) (rest := []) S (s_X5_pullOf l D k a st sl x p0 v6_9 _ mx hB h244 ) lkX5_56 ok_X5_pullOf ⟨rfl, rfl, Nat.le_of_ble_eq_true rfl, Nat.le_of_ble_eq_true rfl⟩ (pw_V (ci := 5) (q0 := x) hK hN rfl (sx_0 mx) hP hD0) rfl hl.1 rfl (Nat.le_of_ble_eq_true rfl) ⟨Nat.zero_le _, Nat.zero_le _⟩ dX5_favourite_32 (fun r251 er251 => ?_)
          have h252 : Iv 0 72 r251 := er251.1
          refine lv_istore (lv' := [(7, .int r251), (6, .int v6_9), (5, .int v5_9), (4, .int v4_9), (0, .ref (a x)), (1, .ref (a 18)), (2, .int p0), (3, .int p1)]) hx hb dX5_favourite_35 hl (by decide) rfl (fun ls hl => ?_)
          refine lv_iload hx hb dX5_favourite_37 (lv_at hl 0 rfl) ?_
          refine lv_iload hx hb dX5_favourite_39 (lv_at hl 2 rfl) ?_
          refine lv_icmp_le (tgt := 52) hx hb dX5_favourite_41 (by decide) (fun c253 => ?_) (fun c253 => ?_)
          · skip
            have n254 : r251.toInt ≤ v5_9.toInt := (i_le c253)
            have h255 : Iv 0 72 v5_9 := le_r h252 n254 iv5_9 (by decide)
            obtain ⟨z256, ez256⟩ : ∃ z9 : Int32, z9 = v6_9 + Int32.ofInt 1 := ⟨_, rfl⟩
            have h257 : Iv 1 8 z256 := iv_inc ez256 h244 (by decide) (by decide) (by decide) (by decide) (by decide) (by decide)
            refine lv_iinc (v := z256) (lv' := [(6, .int z256), (7, .int r251), (5, .int v5_9), (4, .int v4_9), (0, .ref (a x)), (1, .ref (a 18)), (2, .int p0), (3, .int p1)]) hx hb dX5_favourite_52 hl (k := 1) rfl ez256.symm (by decide) rfl (fun ls hl => ?_)
            refine lv_goto (tgt := 9) hx hb dX5_favourite_55 (by decide) ?_
            exact ih9 z256 v5_9 v4_9 _ (iv_mono (c := 0) (d := 8) h257 (by decide) (by decide)) (iv_mono (c := (-1)) (d := 72) h255 (by decide) (by decide)) iv4_9 (fun _ _ _ _ => Int.not_lt.mp (fun z9 => by have w1 := rel9_1 z9; have w2 := n243; have w4 := n254; obtain ⟨y5a, y5b⟩ := id (h252); omega)) rel9_1 (lv_sub hl [0, 2, 3, 4, 5, 6, 7] rfl) (fu_s (lo := 0) (ti_inc ez256 h244 (by decide) (by decide) (by decide) (by decide)) (by decide) hm9)
          · skip
            have n258 : v5_9.toInt < r251.toInt := (i_nle c253)
            have h259 : Iv (-1) 71 v5_9 := lt_l iv5_9 n258 h252 (by decide)
            refine lv_iload hx hb dX5_favourite_44 (lv_at hl 0 rfl) ?_
            refine lv_istore (lv' := [(5, .int r251), (7, .int r251), (6, .int v6_9), (4, .int v4_9), (0, .ref (a x)), (1, .ref (a 18)), (2, .int p0), (3, .int p1)]) hx hb dX5_favourite_46 hl (by decide) rfl (fun ls hl => ?_)
            refine lv_iload hx hb dX5_favourite_48 (lv_at hl 2 rfl) ?_
            refine lv_istore (lv' := [(4, .int v6_9), (5, .int r251), (7, .int r251), (6, .int v6_9), (0, .ref (a x)), (1, .ref (a 18)), (2, .int p0), (3, .int p1)]) hx hb dX5_favourite_50 hl (by decide) rfl (fun ls hl => ?_)
            obtain ⟨z260, ez260⟩ : ∃ z9 : Int32, z9 = v6_9 + Int32.ofInt 1 := ⟨_, rfl⟩
            have h261 : Iv 1 8 z260 := iv_inc ez260 h244 (by decide) (by decide) (by decide) (by decide) (by decide) (by decide)
            refine lv_iinc (v := z260) (lv' := [(6, .int z260), (4, .int v6_9), (5, .int r251), (7, .int r251), (0, .ref (a x)), (1, .ref (a 18)), (2, .int p0), (3, .int p1)]) hx hb dX5_favourite_52 hl (k := 3) rfl ez260.symm (by decide) rfl (fun ls hl => ?_)
            refine lv_goto (tgt := 9) hx hb dX5_favourite_55 (by decide) ?_
            exact ih9 z260 r251 v6_9 _ (iv_mono (c := 0) (d := 8) h261 (by decide) (by decide)) (iv_mono (c := (-1)) (d := 72) h252 (by decide) (by decide)) (iv_mono (c := (-1)) (d := 7) h244 (by decide) (by decide)) (fun _ _ _ _ => (h244).1) (fun z9 => absurd (h244).1 (Int.not_le.mpr z9)) (lv_sub hl [0, 2, 1, 4, 5, 6, 7] rfl) (fu_s (lo := 0) (ti_inc ez260 h244 (by decide) (by decide) (by decide) (by decide)) (by decide) hm9)
        · skip
          have g262 := g9
          have k263 := g262
          refine lv_if_eq (tgt := 52) hx hb dX5_favourite_25 (by decide) (fun c264 => ?_) (fun c264 => ?_)
          rotate_left
          · first | exact absurd c264 (by decide) | exact absurd (by decide) c264
          obtain ⟨z265, ez265⟩ : ∃ z9 : Int32, z9 = v6_9 + Int32.ofInt 1 := ⟨_, rfl⟩
          have h266 : Iv 1 8 z265 := iv_inc ez265 h244 (by decide) (by decide) (by decide) (by decide) (by decide) (by decide)
          refine lv_iinc (v := z265) (lv' := [(6, .int z265), (5, .int v5_9), (4, .int v4_9), (0, .ref (a x)), (1, .ref (a 18)), (2, .int p0), (3, .int p1)]) hx hb dX5_favourite_52 hl (k := 0) rfl ez265.symm (by decide) rfl (fun ls hl => ?_)
          refine lv_goto (tgt := 9) hx hb dX5_favourite_55 (by decide) ?_
          exact ih9 z265 v5_9 v4_9 _ (iv_mono (c := 0) (d := 8) h266 (by decide) (by decide)) iv5_9 iv4_9 (fav_i rel9_0 (ti_inc ez265 h244 (by decide) (by decide) (by decide) (by decide)) n243 k263) rel9_1 (lv_sub hl [0, 1, 2, 3, 4, 5, 6] rfl) (fu_s (lo := 0) (ti_inc ez265 h244 (by decide) (by decide) (by decide) (by decide)) (by decide) hm9)
  exact lp9 9 0 (-1) (-1) _ (iv_mono (c := 0) (d := 8) (iv_c (by decide) : Iv 0 0 0) (by decide) (by decide)) (iv_mono (c := (-1)) (d := 72) (iv_c (by decide) : Iv (-1) (-1) (-1)) (by decide) (by decide)) (iv_mono (c := (-1)) (d := 7) (iv_c (by decide) : Iv (-1) (-1) (-1)) (by decide) (by decide)) (fun w a1 a2 _ => absurd a1 (Int.not_le.mpr a2)) (fun _ => by decide) (lv_sub hl [0, 1, 2, 3, 4, 5, 6] rfl) (fu_i (iv_mono (c := 0) (d := 8) (iv_c (by decide) : Iv 0 0 0) (by decide) (by decide)) (by decide))
set_option maxHeartbeats 4000000 in
set_option maxRecDepth 100000 in
theorem s_X5_alone (l : Launch) (D : va_G) (k : Nat → ClassId) (a : Nat → Nat) (st : CT) (sl : CL) (x : Nat) (p0 : Int32) (p1 : Int32) (sz : Nat) (mx : x ∈ SC) (hB : CB st)  : Met l yX5_alone (.code yX5_alone cX5_alone 4 (some .int) :: TB) (rmk 3) (va_Pc [.ref (a x), .ref (a 18), .int p0, .int p1] (PW D k sz (CWS k a st sl))) (vp_Si (fun r => Iv (-1) 7 r ∧ (True))) 0 0 (fun _ => False) := by
  refine Met.ofW (cc := cX5_alone) (maxL := 4) (ret := (some .int)) (by decide) rfl ?_
  intro p e s m args below meth c s₁ B hml hv
  obtain ⟨rfl, hsz, hP, hK, hD0, hN⟩ := hv
  have hx := B.exec
  have hb := B.bytes
  have hr := B.returns
  have hT : ∀ w9 ∈ TB, w9.before ([.ref (a x), .ref (a 18), .int p0, .int p1] : List Value).toArray s = true := fun w9 h => atoms_spec (ws := .code yX5_alone cX5_alone 4 (some .int) :: TB) B.pre w9 (List.mem_cons_of_mem _ h)
  have hown : s.vm.findClass RX5 = some m.cls := findClass_of_methodNamed B.named
  have S : CallFix p m c cX5_alone 4 s _ TB RX5 := ⟨hx, hb, hml, hown, hT⟩
  subst hsz
  have hl := lv_entry ([.ref (a x), .ref (a 18), .int p0, .int p1]) (n := 4) (Nat.le_of_ble_eq_true rfl)
  rw [lg_entry_eq]
  generalize (lg_sl ([.ref (a x), .ref (a 18), .int p0, .int p1]) ++ List.replicate (4 - (lg_sl ([.ref (a x), .ref (a 18), .int p0, .int p1])).length) Slot.unset).toArray = ls at hl ⊢
  have hl : lv_has ls 4 [(0, .ref (a x)), (1, .ref (a 18)), (2, .int p0), (3, .int p1)] := hl
  refine nameQ (fun Q hQ => ?_)
  refine lv_aload_n hx hb dX5_alone_0 rfl (lv_at hl 0 rfl) ?_
  refine lv_aload_n hx hb dX5_alone_1 rfl (lv_at hl 1 rfl) ?_
  refine lv_iconst (v := 1) hx hb dX5_alone_2 (by decide) ?_
  refine lv_iload_n hx hb dX5_alone_3 rfl (lv_at hl 2 rfl) ?_
  refine lv_ishl hx hb dX5_alone_4 ?_
  refine lv_topi (fun z1 ez1 => ?_)
  refine lv_iload_n hx hb dX5_alone_5 rfl (lv_at hl 3 rfl) ?_
  refine ro_V (As := [.ref (a 18), .int z1, .int p1]) (rest := []) S (s_X5_favourite l D k a st sl x z1 p1 _ mx hB  ) lkX5_59 ok_X5_favourite ⟨rfl, rfl, Nat.le_of_ble_eq_true rfl, Nat.le_of_ble_eq_true rfl⟩ (pw_V (ci := 5) (q0 := x) hK hN rfl (sx_0 mx) hP hD0) rfl hl.1 rfl (Nat.le_of_ble_eq_true rfl) ⟨Nat.zero_le _, Nat.zero_le _⟩ dX5_alone_6 (fun r2 er2 => ?_)
  have h3 : Iv (-1) 7 r2 := er2.1
  have k4 := er2.2
  rw [hQ]
  exact W.iret (v := r2) hx hb hr (fun t ht hW => ⟨r2, rfl, ⟨h3, trivial⟩, ht⟩) (fun _ h9 => by cases h9) dX5_alone_9
set_option maxHeartbeats 4000000 in
set_option maxRecDepth 100000 in
theorem s_X5_yieldTo_b (l : Launch) (D : va_G) (k : Nat → ClassId) (a : Nat → Nat) (st : CT) (sl : CL) (x : Nat) (p0 : Int32) (p1 : Int32) (p2 : Int32) (p3 : Int32) (sz : Nat) (mx : x ∈ SC) (hB : CB st) (hp1 : Iv 0 7 p1) (hp2 : Iv 0 7 p2) : Met l yX5_yieldTo (.code yX5_yieldTo cX5_yieldTo 5 (some .int) :: TB) (rmk 2) (va_Pc [.ref (a x), .int p0, .int p1, .int p2, .int p3] (PW D k sz (CWS k a st sl))) (vp_Si (fun r => Iv 0 7 r ∧ (True))) 0 0 (fun _ => False) := by
  refine Met.ofW (cc := cX5_yieldTo) (maxL := 5) (ret := (some .int)) (by decide) rfl ?_
  intro p e s m args below meth c s₁ B hml hv
  obtain ⟨rfl, hsz, hP, hK, hD0, hN⟩ := hv
  have hx := B.exec
  have hb := B.bytes
  have hr := B.returns
  have hT : ∀ w9 ∈ TB, w9.before ([.ref (a x), .int p0, .int p1, .int p2, .int p3] : List Value).toArray s = true := fun w9 h => atoms_spec (ws := .code yX5_yieldTo cX5_yieldTo 5 (some .int) :: TB) B.pre w9 (List.mem_cons_of_mem _ h)
  have hown : s.vm.findClass RX5 = some m.cls := findClass_of_methodNamed B.named
  have S : CallFix p m c cX5_yieldTo 5 s _ TB RX5 := ⟨hx, hb, hml, hown, hT⟩
  subst hsz
  have hl := lv_entry ([.ref (a x), .int p0, .int p1, .int p2, .int p3]) (n := 5) (Nat.le_of_ble_eq_true rfl)
  rw [lg_entry_eq]
  generalize (lg_sl ([.ref (a x), .int p0, .int p1, .int p2, .int p3]) ++ List.replicate (5 - (lg_sl ([.ref (a x), .int p0, .int p1, .int p2, .int p3])).length) Slot.unset).toArray = ls at hl ⊢
  have hl : lv_has ls 5 [(0, .ref (a x)), (1, .int p0), (2, .int p1), (3, .int p2), (4, .int p3)] := hl
  refine nameQ (fun Q hQ => ?_)
  refine lv_iload_n hx hb dX5_yieldTo_0 rfl (lv_at hl 3 rfl) ?_
  refine lv_iconst (v := (-1)) hx hb dX5_yieldTo_1 (by decide) ?_
  refine lv_icmp_eq (tgt := 10) hx hb dX5_yieldTo_2 (by decide) (fun c1 => ?_) (fun c1 => ?_)
  · skip
    exact (iv_no (⟨Int.le_trans (show (0 : Int) ≤ 0 by decide) (hp2).1, Int.le_trans (eq_l c1 (iv_c (by decide) : Iv (-1) (-1) (-1))).2 (show ((-1) : Int) ≤ (-1) by decide)⟩ : Iv 0 (-1) p2) (by decide)).elim
  · skip
    refine lv_iload_n hx hb dX5_yieldTo_5 rfl (lv_at hl 2 rfl) ?_
    refine lv_iconst (v := (-1)) hx hb dX5_yieldTo_6 (by decide) ?_
    refine lv_icmp_ne (tgt := 12) hx hb dX5_yieldTo_7 (by decide) (fun c2 => ?_) (fun c2 => ?_)
    · skip
      refine lv_aload_n hx hb dX5_yieldTo_12 rfl (lv_at hl 0 rfl) ?_
      refine lv_iload_n hx hb dX5_yieldTo_13 rfl (lv_at hl 1 rfl) ?_
      refine lv_iload_n hx hb dX5_yieldTo_14 rfl (lv_at hl 3 rfl) ?_
      refine ro_V (As := [.int p0, .int p2]) (rest := []) S (s_X5_pullOf l D k a st sl x p0 p2 _ mx hB hp2 ) lkX5_56 ok_X5_pullOf ⟨rfl, rfl, Nat.le_of_ble_eq_true rfl, Nat.le_of_ble_eq_true rfl⟩ (pw_V (ci := 5) (q0 := x) hK hN rfl (sx_0 mx) hP hD0) rfl hl.1 rfl (Nat.le_of_ble_eq_true rfl) ⟨Nat.zero_le _, Nat.zero_le _⟩ dX5_yieldTo_15 (fun r3 er3 => ?_)
      have h4 : Iv 0 72 r3 := er3.1
      refine lv_iload hx hb dX5_yieldTo_18 (lv_at hl 4 rfl) ?_
      refine lv_iadd hx hb dX5_yieldTo_20 ?_
      refine lv_topi (fun z5 ez5 => ?_)
      refine lv_aload_n hx hb dX5_yieldTo_21 rfl (lv_at hl 0 rfl) ?_
      refine lv_iload_n hx hb dX5_yieldTo_22 rfl (lv_at hl 1 rfl) ?_
      refine lv_iload_n hx hb dX5_yieldTo_23 rfl (lv_at hl 2 rfl) ?_
      refine ro_V (As := [.int p0, .int p1]) (rest := [.int z5]) S (s_X5_pullOf l D k a st sl x p0 p1 _ mx hB hp1 ) lkX5_56 ok_X5_pullOf ⟨rfl, rfl, Nat.le_of_ble_eq_true rfl, Nat.le_of_ble_eq_true rfl⟩ (pw_V (ci := 5) (q0 := x) hK hN rfl (sx_0 mx) hP hD0) rfl hl.1 rfl (Nat.le_of_ble_eq_true rfl) ⟨Nat.zero_le _, Nat.zero_le _⟩ dX5_yieldTo_24 (fun r6 er6 => ?_)
      have h7 : Iv 0 72 r6 := er6.1
      refine lv_icmp_lt (tgt := 34) hx hb dX5_yieldTo_27 (by decide) (fun c8 => ?_) (fun c8 => ?_)
      · skip
        have n9 : z5.toInt < r6.toInt := (i_lt c8)
        have h10 : Iv (-2147483648) 71 z5 := lt_l (iv_full z5) n9 h7 (by decide)
        refine lv_iload_n hx hb dX5_yieldTo_34 rfl (lv_at hl 2 rfl) ?_
        rw [hQ]
        exact W.iret (v := p1) hx hb hr (fun t ht hW => ⟨p1, rfl, ⟨hp1, trivial⟩, ht⟩) (fun _ h9 => by cases h9) dX5_yieldTo_35
      · skip
        have n11 : r6.toInt ≤ z5.toInt := (i_nlt c8)
        have h12 : Iv 0 2147483647 z5 := le_r h7 n11 (iv_full z5) (by decide)
        refine lv_iload_n hx hb dX5_yieldTo_30 rfl (lv_at hl 3 rfl) ?_
        refine lv_goto (tgt := 35) hx hb dX5_yieldTo_31 (by decide) ?_
        rw [hQ]
        exact W.iret (v := p2) hx hb hr (fun t ht hW => ⟨p2, rfl, ⟨hp2, trivial⟩, ht⟩) (fun _ h9 => by cases h9) dX5_yieldTo_35
    · skip
      exact (iv_no (⟨Int.le_trans (show (0 : Int) ≤ 0 by decide) (hp1).1, Int.le_trans (eq_l c2 (iv_c (by decide) : Iv (-1) (-1) (-1))).2 (show ((-1) : Int) ≤ (-1) by decide)⟩ : Iv 0 (-1) p1) (by decide)).elim
set_option maxHeartbeats 4000000 in
set_option maxRecDepth 100000 in
theorem s_X5_yieldTo (l : Launch) (D : va_G) (k : Nat → ClassId) (a : Nat → Nat) (st : CT) (sl : CL) (x : Nat) (p0 : Int32) (p1 : Int32) (p2 : Int32) (p3 : Int32) (sz : Nat) (mx : x ∈ SC) (hB : CB st) (hp1 : Iv (-1) 7 p1) (hp2 : Iv (-1) 7 p2) : Met l yX5_yieldTo (.code yX5_yieldTo cX5_yieldTo 5 (some .int) :: TB) (rmk 2) (va_Pc [.ref (a x), .int p0, .int p1, .int p2, .int p3] (PW D k sz (CWS k a st sl))) (vp_Si (fun r => Iv (-1) 7 r ∧ (True))) 0 0 (fun _ => False) := by
  refine Met.ofW (cc := cX5_yieldTo) (maxL := 5) (ret := (some .int)) (by decide) rfl ?_
  intro p e s m args below meth c s₁ B hml hv
  obtain ⟨rfl, hsz, hP, hK, hD0, hN⟩ := hv
  have hx := B.exec
  have hb := B.bytes
  have hr := B.returns
  have hT : ∀ w9 ∈ TB, w9.before ([.ref (a x), .int p0, .int p1, .int p2, .int p3] : List Value).toArray s = true := fun w9 h => atoms_spec (ws := .code yX5_yieldTo cX5_yieldTo 5 (some .int) :: TB) B.pre w9 (List.mem_cons_of_mem _ h)
  have hown : s.vm.findClass RX5 = some m.cls := findClass_of_methodNamed B.named
  have S : CallFix p m c cX5_yieldTo 5 s _ TB RX5 := ⟨hx, hb, hml, hown, hT⟩
  subst hsz
  have hl := lv_entry ([.ref (a x), .int p0, .int p1, .int p2, .int p3]) (n := 5) (Nat.le_of_ble_eq_true rfl)
  rw [lg_entry_eq]
  generalize (lg_sl ([.ref (a x), .int p0, .int p1, .int p2, .int p3]) ++ List.replicate (5 - (lg_sl ([.ref (a x), .int p0, .int p1, .int p2, .int p3])).length) Slot.unset).toArray = ls at hl ⊢
  have hl : lv_has ls 5 [(0, .ref (a x)), (1, .int p0), (2, .int p1), (3, .int p2), (4, .int p3)] := hl
  refine nameQ (fun Q hQ => ?_)
  refine lv_iload_n hx hb dX5_yieldTo_0 rfl (lv_at hl 3 rfl) ?_
  refine lv_iconst (v := (-1)) hx hb dX5_yieldTo_1 (by decide) ?_
  refine lv_icmp_eq (tgt := 10) hx hb dX5_yieldTo_2 (by decide) (fun c1 => ?_) (fun c1 => ?_)
  · skip
    have h2 : Iv (-1) (-1) p2 := eq_l c1 (iv_c (by decide) : Iv (-1) (-1) (-1))
    refine lv_iload_n hx hb dX5_yieldTo_10 rfl (lv_at hl 2 rfl) ?_
    rw [hQ]
    exact W.iret (v := p1) hx hb hr (fun t ht hW => ⟨p1, rfl, ⟨hp1, trivial⟩, ht⟩) (fun _ h9 => by cases h9) dX5_yieldTo_11
  · skip
    have h3 : Iv 0 7 p2 := ne_lo hp2 c1 (by decide) (by decide)
    refine lv_iload_n hx hb dX5_yieldTo_5 rfl (lv_at hl 2 rfl) ?_
    refine lv_iconst (v := (-1)) hx hb dX5_yieldTo_6 (by decide) ?_
    refine lv_icmp_ne (tgt := 12) hx hb dX5_yieldTo_7 (by decide) (fun c4 => ?_) (fun c4 => ?_)
    · skip
      have h5 : Iv 0 7 p1 := ne_lo hp1 (show ¬ p1 = (-1) from c4) (by decide) (by decide)
      refine lv_aload_n hx hb dX5_yieldTo_12 rfl (lv_at hl 0 rfl) ?_
      refine lv_iload_n hx hb dX5_yieldTo_13 rfl (lv_at hl 1 rfl) ?_
      refine lv_iload_n hx hb dX5_yieldTo_14 rfl (lv_at hl 3 rfl) ?_
      refine ro_V (As := [.int p0, .int p2]) (rest := []) S (s_X5_pullOf l D k a st sl x p0 p2 _ mx hB h3 ) lkX5_56 ok_X5_pullOf ⟨rfl, rfl, Nat.le_of_ble_eq_true rfl, Nat.le_of_ble_eq_true rfl⟩ (pw_V (ci := 5) (q0 := x) hK hN rfl (sx_0 mx) hP hD0) rfl hl.1 rfl (Nat.le_of_ble_eq_true rfl) ⟨Nat.zero_le _, Nat.zero_le _⟩ dX5_yieldTo_15 (fun r6 er6 => ?_)
      have h7 : Iv 0 72 r6 := er6.1
      refine lv_iload hx hb dX5_yieldTo_18 (lv_at hl 4 rfl) ?_
      refine lv_iadd hx hb dX5_yieldTo_20 ?_
      refine lv_topi (fun z8 ez8 => ?_)
      refine lv_aload_n hx hb dX5_yieldTo_21 rfl (lv_at hl 0 rfl) ?_
      refine lv_iload_n hx hb dX5_yieldTo_22 rfl (lv_at hl 1 rfl) ?_
      refine lv_iload_n hx hb dX5_yieldTo_23 rfl (lv_at hl 2 rfl) ?_
      refine ro_V (As := [.int p0, .int p1]) (rest := [.int z8]) S (s_X5_pullOf l D k a st sl x p0 p1 _ mx hB h5 ) lkX5_56 ok_X5_pullOf ⟨rfl, rfl, Nat.le_of_ble_eq_true rfl, Nat.le_of_ble_eq_true rfl⟩ (pw_V (ci := 5) (q0 := x) hK hN rfl (sx_0 mx) hP hD0) rfl hl.1 rfl (Nat.le_of_ble_eq_true rfl) ⟨Nat.zero_le _, Nat.zero_le _⟩ dX5_yieldTo_24 (fun r9 er9 => ?_)
      have h10 : Iv 0 72 r9 := er9.1
      refine lv_icmp_lt (tgt := 34) hx hb dX5_yieldTo_27 (by decide) (fun c11 => ?_) (fun c11 => ?_)
      · skip
        have n12 : z8.toInt < r9.toInt := (i_lt c11)
        have h13 : Iv (-2147483648) 71 z8 := lt_l (iv_full z8) n12 h10 (by decide)
        refine lv_iload_n hx hb dX5_yieldTo_34 rfl (lv_at hl 2 rfl) ?_
        rw [hQ]
        exact W.iret (v := p1) hx hb hr (fun t ht hW => ⟨p1, rfl, ⟨(iv_mono (c := (-1)) (d := 7) h5 (by decide) (by decide)), trivial⟩, ht⟩) (fun _ h9 => by cases h9) dX5_yieldTo_35
      · skip
        have n14 : r9.toInt ≤ z8.toInt := (i_nlt c11)
        have h15 : Iv 0 2147483647 z8 := le_r h10 n14 (iv_full z8) (by decide)
        refine lv_iload_n hx hb dX5_yieldTo_30 rfl (lv_at hl 3 rfl) ?_
        refine lv_goto (tgt := 35) hx hb dX5_yieldTo_31 (by decide) ?_
        rw [hQ]
        exact W.iret (v := p2) hx hb hr (fun t ht hW => ⟨p2, rfl, ⟨(iv_mono (c := (-1)) (d := 7) h3 (by decide) (by decide)), trivial⟩, ht⟩) (fun _ h9 => by cases h9) dX5_yieldTo_35
    · skip
      have h16 : Iv (-1) (-1) p1 := eq_l c4 (iv_c (by decide) : Iv (-1) (-1) (-1))
      refine lv_iload_n hx hb dX5_yieldTo_10 rfl (lv_at hl 2 rfl) ?_
      rw [hQ]
      exact W.iret (v := p1) hx hb hr (fun t ht hW => ⟨p1, rfl, ⟨(iv_mono (c := (-1)) (d := 7) h16 (by decide) (by decide)), trivial⟩, ht⟩) (fun _ h9 => by cases h9) dX5_yieldTo_11
set_option maxHeartbeats 4000000 in
set_option maxRecDepth 100000 in
theorem s_X5_turnOf (l : Launch) (D : va_G) (k : Nat → ClassId) (a : Nat → Nat) (st : CT) (sl : CL) (x : Nat) (p0 : Int32) (p1 : Int32) (sz : Nat) (mx : x ∈ SC) (hB : CB st) (hp0 : Iv 0 2 p0) (hp1 : Iv (-1) 7 p1) : Met l yX5_turnOf (.code yX5_turnOf cX5_turnOf 5 (some .int) :: TB) (rmk 3) (va_Pc [.ref (a x), .ref (a 18), .int p0, .int p1] (PW D k sz (CWS k a st sl))) (vp_Si (fun r => Iv (-1) 7 r ∧ (True))) 0 0 (fun _ => False) := by
  refine Met.ofW (cc := cX5_turnOf) (maxL := 5) (ret := (some .int)) (by decide) rfl ?_
  intro p e s m args below meth c s₁ B hml hv
  obtain ⟨rfl, hsz, hP, hK, hD0, hN⟩ := hv
  have hx := B.exec
  have hb := B.bytes
  have hr := B.returns
  have hT : ∀ w9 ∈ TB, w9.before ([.ref (a x), .ref (a 18), .int p0, .int p1] : List Value).toArray s = true := fun w9 h => atoms_spec (ws := .code yX5_turnOf cX5_turnOf 5 (some .int) :: TB) B.pre w9 (List.mem_cons_of_mem _ h)
  have hown : s.vm.findClass RX5 = some m.cls := findClass_of_methodNamed B.named
  have S : CallFix p m c cX5_turnOf 5 s _ TB RX5 := ⟨hx, hb, hml, hown, hT⟩
  subst hsz
  have hl := lv_entry ([.ref (a x), .ref (a 18), .int p0, .int p1]) (n := 5) (Nat.le_of_ble_eq_true rfl)
  rw [lg_entry_eq]
  generalize (lg_sl ([.ref (a x), .ref (a 18), .int p0, .int p1]) ++ List.replicate (5 - (lg_sl ([.ref (a x), .ref (a 18), .int p0, .int p1])).length) Slot.unset).toArray = ls at hl ⊢
  have hl : lv_has ls 5 [(0, .ref (a x)), (1, .ref (a 18)), (2, .int p0), (3, .int p1)] := hl
  refine nameQ (fun Q hQ => ?_)
  refine lv_aload_n hx hb dX5_turnOf_0 rfl (lv_at hl 0 rfl) ?_
  refine lv_iload_n hx hb dX5_turnOf_1 rfl (lv_at hl 2 rfl) ?_
  refine ro_V (As := [.int p0]) (rest := []) S (s_X5_crewOf l D k a st sl x p0 _ mx hB  ) lkX5_63 ok_X5_crewOf ⟨rfl, rfl, Nat.le_of_ble_eq_true rfl, Nat.le_of_ble_eq_true rfl⟩ (pw_V (ci := 5) (q0 := x) hK hN rfl (sx_0 mx) hP hD0) rfl hl.1 rfl (Nat.le_of_ble_eq_true rfl) ⟨Nat.zero_le _, Nat.zero_le _⟩ dX5_turnOf_2 (fun r1 er1 => ?_)
  have h2 : Iv 0 255 r1 := er1.1
  refine lv_istore (lv' := [(4, .int r1), (0, .ref (a x)), (1, .ref (a 18)), (2, .int p0), (3, .int p1)]) hx hb dX5_turnOf_5 hl (by decide) rfl (fun ls hl => ?_)
  refine lv_aload_n hx hb dX5_turnOf_7 rfl (lv_at hl 1 rfl) ?_
  refine lv_iload hx hb dX5_turnOf_8 (lv_at hl 0 rfl) ?_
  refine lv_aload_n hx hb dX5_turnOf_10 rfl (lv_at hl 1 rfl) ?_
  refine lv_aload_n hx hb dX5_turnOf_11 rfl (lv_at hl 2 rfl) ?_
  refine lv_iload hx hb dX5_turnOf_12 (lv_at hl 0 rfl) ?_
  refine lv_aload_n hx hb dX5_turnOf_14 rfl (lv_at hl 1 rfl) ?_
  refine va_get (D := D) (ci := 5) (v := .ref (a (x + 4))) (C := RX5) (T := TX5) (N := 5) hx hb hT in_X5 hown hK hP x (sx_0 mx) rfl 3 (by decide) (hT _ t176) (fun _ h9 => h9) rfl dX5_turnOf_15 ?_
  refine lv_iload_n hx hb dX5_turnOf_18 rfl (lv_at hl 3 rfl) ?_
  refine va_iald hx hb hK hP (x + 4) 0 (sx_4 mx) rfl (iv_in hp0 (by decide) (by decide)) dX5_turnOf_19 ?_
  refine lv_topi (fun z3 ez3 => ?_)
  have h4 : Iv 0 5 z3 := by rw [ez3]; exact (rx_4 mx hB (vp_in_lt (iv_in hp0 (by decide) (by decide))))
  refine ro_V (As := [.ref (a 18), .int r1, .int z3]) (rest := [.int r1, .ref (a x)]) S (s_X5_favourite l D k a st sl x r1 z3 _ mx hB  ) lkX5_59 ok_X5_favourite ⟨rfl, rfl, Nat.le_of_ble_eq_true rfl, Nat.le_of_ble_eq_true rfl⟩ (pw_V (ci := 5) (q0 := x) hK hN rfl (sx_0 mx) hP hD0) rfl hl.1 rfl (Nat.le_of_ble_eq_true rfl) ⟨Nat.zero_le _, Nat.zero_le _⟩ dX5_turnOf_20 (fun r5 er5 => ?_)
  have h6 : Iv (-1) 7 r5 := er5.1
  have k7 := er5.2
  refine lv_iload_n hx hb dX5_turnOf_23 rfl (lv_at hl 4 rfl) ?_
  refine lv_aload_n hx hb dX5_turnOf_24 rfl (lv_at hl 2 rfl) ?_
  refine va_get (D := D) (ci := 1) (v := .int (st 18 2)) (C := RX1) (T := TX1) (N := 14) hx hb hT in_X1 hown hK hP 18 cw_18 rfl 2 (by decide) (hT _ t205) (fun _ h9 => h9) rfl dX5_turnOf_25 ?_
  refine ro_V (As := [.int r1, .int r5, .int p1, .int (st 18 2)]) (rest := []) S (s_X5_yieldTo l D k a st sl x r1 r5 p1 (st 18 2) _ mx hB h6 hp1 ) lkX5_70 ok_X5_yieldTo ⟨rfl, rfl, Nat.le_of_ble_eq_true rfl, Nat.le_of_ble_eq_true rfl⟩ (pw_V (ci := 5) (q0 := x) hK hN rfl (sx_0 mx) hP hD0) rfl hl.1 rfl (Nat.le_of_ble_eq_true rfl) ⟨Nat.zero_le _, Nat.zero_le _⟩ dX5_turnOf_28 (fun r8 er8 => ?_)
  have h9 : Iv (-1) 7 r8 := er8.1
  rw [hQ]
  exact W.iret (v := r8) hx hb hr (fun t ht hW => ⟨r8, rfl, ⟨h9, trivial⟩, ht⟩) (fun _ h9 => by cases h9) dX5_turnOf_31
set_option maxHeartbeats 4000000 in
set_option maxRecDepth 100000 in
theorem s_X5_run (l : Launch) (D : va_G) (k : Nat → ClassId) (a : Nat → Nat) (st : CT) (sl : CL) (x : Nat) (p0 : Int32) (p1 : Int32) (p2 : Int32) (sz : Nat) (mx : x ∈ SC) (hB : CB st) (hp0 : Iv 0 7 p0) (hp1 : Iv 0 7 p1) : Met l yX5_run (.code yX5_run cX5_run 4 none :: TB) (rmw 2 0 0) (va_Pc [.ref (a x), .int p0, .int p1, .int p2] (PW D k sz (CWS k a st sl))) (QV D (S := CT) (fun u => CB u ∧ FR [(x + 1), (x + 2)] st u ∧ (True)) (fun u => CWS k a u sl) (fun _ => []) (CWS k a st sl) sz) 0 0 (va_A (CWS k a st sl) sz) := by
  refine Met.ofW (cc := cX5_run) (maxL := 4) (ret := none) (by decide) rfl ?_
  intro p e s m args below meth c s₁ B hml hv
  obtain ⟨rfl, hsz, hP, hK, hD0, hN⟩ := hv
  have hx := B.exec
  have hb := B.bytes
  have hr := B.returns
  have hT : ∀ w9 ∈ TB, w9.before ([.ref (a x), .int p0, .int p1, .int p2] : List Value).toArray s = true := fun w9 h => atoms_spec (ws := .code yX5_run cX5_run 4 none :: TB) B.pre w9 (List.mem_cons_of_mem _ h)
  have hown : s.vm.findClass RX5 = some m.cls := findClass_of_methodNamed B.named
  have S : CallFix p m c cX5_run 4 s _ TB RX5 := ⟨hx, hb, hml, hown, hT⟩
  subst hsz
  have hD := hD0.self (sz := s.heap.size)
  generalize hAe : va_A (CWS k a st sl) s.heap.size = A at hD ⊢
  have hA : ∀ q : Nat, s.heap.size ≤ q → A q := fun q h => by rw [← hAe]; exact Or.inr h
  have hS : va_S A s.heap s.heap [] := va_S.rf
  have hl := lv_entry ([.ref (a x), .int p0, .int p1, .int p2]) (n := 4) (Nat.le_of_ble_eq_true rfl)
  rw [lg_entry_eq]
  generalize (lg_sl ([.ref (a x), .int p0, .int p1, .int p2]) ++ List.replicate (4 - (lg_sl ([.ref (a x), .int p0, .int p1, .int p2])).length) Slot.unset).toArray = ls at hl ⊢
  have hl : lv_has ls 4 [(0, .ref (a x)), (1, .int p0), (2, .int p1), (3, .int p2)] := hl
  refine nameQ (fun Q hQ => ?_)
  refine lv_aload_n hx hb dX5_run_0 rfl (lv_at hl 0 rfl) ?_
  refine lv_iload_n hx hb dX5_run_1 rfl (lv_at hl 1 rfl) ?_
  refine lv_iload_n hx hb dX5_run_2 rfl (lv_at hl 2 rfl) ?_
  refine lv_bipush (v := 9) hx hb dX5_run_3 (by decide) ?_
  refine lv_aload_n hx hb dX5_run_5 rfl (lv_at hl 0 rfl) ?_
  refine lv_iload_n hx hb dX5_run_6 rfl (lv_at hl 1 rfl) ?_
  refine lv_iload_n hx hb dX5_run_7 rfl (lv_at hl 2 rfl) ?_
  refine ro_V (As := [.int p0, .int p1]) (rest := [.int 9, .int p1, .int p0, .ref (a x)]) S (s_X5_likeOf l D k a st sl x p0 p1 _ mx hB hp0 hp1 ) lkX5_45 ok_X5_likeOf ⟨rfl, rfl, Nat.le_of_ble_eq_true rfl, Nat.le_of_ble_eq_true rfl⟩ (pw_V (ci := 5) (q0 := x) hK hN rfl (sx_0 mx) hP (hD.weaken (fun _ _ _ _ => trivial))) rfl hl.1 rfl (Nat.le_of_ble_eq_true rfl) ⟨Nat.zero_le _, Nat.zero_le _⟩ dX5_run_8 (fun r1 er1 => ?_)
  have h2 : Iv 0 9 r1 := er1.1
  refine lv_iconst (v := 1) hx hb dX5_run_11 (by decide) ?_
  refine lv_iadd hx hb dX5_run_12 ?_
  refine lv_topi (fun z3 ez3 => ?_)
  have h4 : Iv 1 10 z3 := iv_add ez3 h2 (iv_c (by decide) : Iv 1 1 1) (by decide) (by decide) (by decide) (by decide)
  refine va_mmin hx hb (hml.trans hl.1.symm) hown (hT _ t835) (hT _ t544) (hT _ t116) (hT _ t545) (Nat.le_of_ble_eq_true rfl) (Nat.le_of_ble_eq_true rfl) (Nat.zero_le _) (Nat.zero_le _) dX5_run_13 ?_
  refine lv_topi (fun z5 ez5 => ?_)
  have h6 : Iv 1 9 z5 := iv_min ez5 (iv_c (by decide) : Iv 9 9 9) h4 (by decide) (by decide) (by decide)
  refine ca_v hP hD hS hA (fun hDc => run_V (mc := 0) (ms := 0) (As := [.int p0, .int p1, .int z5]) (rest := []) S (s_X5_setLike l D k a st sl x p0 p1 z5 _ mx hB hp0 hp1 (iv_mono (c := 0) (d := 9) h6 (by decide) (by decide)) ) lkX5_79 ok_X5_setLike ⟨rfl, rfl, Nat.le_of_ble_eq_true rfl, Nat.le_of_ble_eq_true rfl⟩ (pw_V (ci := 5) (q0 := x) hK hN rfl (sx_0 mx) hP hDc) rfl hl.1 rfl (Nat.le_of_ble_eq_true rfl) ⟨Nat.zero_le _, Nat.zero_le _⟩ dX5_run_16) (fun s7 H9 locs9 hs7 hP9 hD9 hS9 => ?_)
  clear hP hD hS
  have hS := hS9
  have hP := hP9
  have hD := hD9
  clear hP9 hD9 hS9
  obtain ⟨hBs7, gs7, fs7⟩ := hs7
  have hFs7 : FR [(x + 1), (x + 2)] st s7 := fr_ca fr_rf gs7 (sub_1 (List.mem_of_getElem? (i := 0) rfl) sub_0)
  refine lv_aload_n hx hb dX5_run_19 rfl (lv_at hl 0 rfl) ?_
  refine va_get (D := D) (ci := 5) (v := .ref (a (x + 2))) (C := RX5) (T := TX5) (N := 5) hx hb hT in_X5 hown hK hP x (sx_0 mx) rfl 1 (by decide) (hT _ t168) (fun _ h9 => h9) rfl dX5_run_20 ?_
  refine lv_iload_n hx hb dX5_run_23 rfl (lv_at hl 1 rfl) ?_
  refine lv_dup2_11 hx hb dX5_run_24 rfl rfl ?_
  refine va_iald hx hb hK hP (x + 2) 0 (sx_2 mx) rfl (iv_in hp0 (by decide) (by decide)) dX5_run_25 ?_
  refine lv_topi (fun z9 ez9 => ?_)
  refine lv_iload_n hx hb dX5_run_26 rfl (lv_at hl 3 rfl) ?_
  refine lv_isub hx hb dX5_run_27 ?_
  refine lv_topi (fun z10 ez10 => ?_)
  refine c_ist hx hb hK hP hD hS (sx_2 mx) (ss_2 mx) (iv_in hp0 (by decide) (by decide)) dX5_run_28 (fun s11 H9 locs9 es11 hP9 hD9 hS9 => ?_)
  clear hP hD hS
  have hS := hS9
  have hP := hP9
  have hD := hD9
  clear hP9 hD9 hS9
  have hBs11 : CB s11 := by rw [es11]; exact cb_sw hBs7 (by rw [kx_2 mx]; trivial)
  have hFs11 : FR [(x + 1), (x + 2)] st s11 := fr_sw hFs7 (List.mem_of_getElem? (i := 1) rfl) es11
  refine lv_aload_n hx hb dX5_run_29 rfl (lv_at hl 0 rfl) ?_
  refine va_get (D := D) (ci := 5) (v := .ref (a (x + 2))) (C := RX5) (T := TX5) (N := 5) hx hb hT in_X5 hown hK hP x (sx_0 mx) rfl 1 (by decide) (hT _ t168) (fun _ h9 => h9) rfl dX5_run_30 ?_
  refine lv_iload_n hx hb dX5_run_33 rfl (lv_at hl 1 rfl) ?_
  refine va_iald hx hb hK hP (x + 2) 0 (sx_2 mx) rfl (iv_in hp0 (by decide) (by decide)) dX5_run_34 ?_
  refine lv_topi (fun z12 ez12 => ?_)
  refine lv_if_ge (tgt := 50) hx hb dX5_run_35 (by decide) (fun c13 => ?_) (fun c13 => ?_)
  · skip
    have n14 : (0 : Int32).toInt ≤ z12.toInt := (i_le c13)
    have h15 : Iv 0 2147483647 z12 := le_r (iv_c (by decide) : Iv 0 0 0) n14 (iv_full z12) (by decide)
    rw [hQ]
    exact W.vret hx hb hr (fun t ht hW => ⟨⟨s11, rfl, ⟨hBs11, hFs11, trivial⟩, by rw [ht]; exact hP, va_K.moved hW.alike (hK.sub (tys' := []) [] rfl), by rw [hAe]; exact hD⟩, by rw [hAe]; exact hS.F ht⟩) hS.2.2 dX5_run_50
  · skip
    have n16 : z12.toInt < (0 : Int32).toInt := (i_nle c13)
    have h17 : Iv (-2147483648) (-1) z12 := lt_l (iv_full z12) n16 (iv_c (by decide) : Iv 0 0 0) (by decide)
    refine lv_aload_n hx hb dX5_run_38 rfl (lv_at hl 0 rfl) ?_
    refine va_get (D := D) (ci := 5) (v := .ref (a (x + 2))) (C := RX5) (T := TX5) (N := 5) hx hb hT in_X5 hown hK hP x (sx_0 mx) rfl 1 (by decide) (hT _ t168) (fun _ h9 => h9) rfl dX5_run_39 ?_
    refine lv_iload_n hx hb dX5_run_42 rfl (lv_at hl 1 rfl) ?_
    refine lv_iconst (v := 0) hx hb dX5_run_43 (by decide) ?_
    refine c_ist hx hb hK hP hD hS (sx_2 mx) (ss_2 mx) (iv_in hp0 (by decide) (by decide)) dX5_run_44 (fun s18 H9 locs9 es18 hP9 hD9 hS9 => ?_)
    clear hP hD hS
    have hS := hS9
    have hP := hP9
    have hD := hD9
    clear hP9 hD9 hS9
    have hBs18 : CB s18 := by rw [es18]; exact cb_sw hBs11 (by rw [kx_2 mx]; trivial)
    have hFs18 : FR [(x + 1), (x + 2)] st s18 := fr_sw hFs11 (List.mem_of_getElem? (i := 1) rfl) es18
    refine lv_aload_n hx hb dX5_run_45 rfl (lv_at hl 0 rfl) ?_
    refine lv_iload_n hx hb dX5_run_46 rfl (lv_at hl 1 rfl) ?_
    refine ca_v hP hD hS hA (fun hDc => run_V (mc := 0) (ms := 0) (As := [.int p0]) (rest := []) S (s_X5_likeNothing l D k a s18 sl x p0 _ mx hBs18 hp0 ) lkX5_83 ok_X5_likeNothing ⟨rfl, rfl, Nat.le_of_ble_eq_true rfl, Nat.le_of_ble_eq_true rfl⟩ (pw_V (ci := 5) (q0 := x) hK hN rfl (sx_0 mx) hP hDc) rfl hl.1 rfl (Nat.le_of_ble_eq_true rfl) ⟨Nat.zero_le _, Nat.zero_le _⟩ dX5_run_47) (fun s19 H9 locs9 hs19 hP9 hD9 hS9 => ?_)
    clear hP hD hS
    have hS := hS9
    have hP := hP9
    have hD := hD9
    clear hP9 hD9 hS9
    obtain ⟨hBs19, gs19, fs19⟩ := hs19
    have hFs19 : FR [(x + 1), (x + 2)] st s19 := fr_ca hFs18 gs19 (sub_1 (List.mem_of_getElem? (i := 0) rfl) sub_0)
    rw [hQ]
    exact W.vret hx hb hr (fun t ht hW => ⟨⟨s19, rfl, ⟨hBs19, hFs19, trivial⟩, by rw [ht]; exact hP, va_K.moved hW.alike (hK.sub (tys' := []) [] rfl), by rw [hAe]; exact hD⟩, by rw [hAe]; exact hS.F ht⟩) hS.2.2 dX5_run_50
set_option maxHeartbeats 4000000 in
set_option maxRecDepth 100000 in
theorem s_X5_goBy (l : Launch) (D : va_G) (k : Nat → ClassId) (a : Nat → Nat) (st : CT) (sl : CL) (x : Nat) (p0 : Int32) (p1 : Int32) (sz : Nat) (mx : x ∈ SC) (hB : CB st) (hp0 : Iv 0 2 p0) (hp1 : Iv 0 7 p1) : Met l yX5_goBy (.code yX5_goBy cX5_goBy 6 none :: TB) (rmw 3 0 0) (va_Pc [.ref (a x), .ref (a 18), .int p0, .int p1] (PW D k sz (CWS k a st sl))) (QV D (S := CT) (fun u => CB u ∧ FR [(x + 1), (x + 2), (x + 4), (x + 5)] st u ∧ (True)) (fun u => CWS k a u sl) (fun _ => []) (CWS k a st sl) sz) 0 0 (va_A (CWS k a st sl) sz) := by
  refine Met.ofW (cc := cX5_goBy) (maxL := 6) (ret := none) (by decide) rfl ?_
  intro p e s m args below meth c s₁ B hml hv
  obtain ⟨rfl, hsz, hP, hK, hD0, hN⟩ := hv
  have hx := B.exec
  have hb := B.bytes
  have hr := B.returns
  have hT : ∀ w9 ∈ TB, w9.before ([.ref (a x), .ref (a 18), .int p0, .int p1] : List Value).toArray s = true := fun w9 h => atoms_spec (ws := .code yX5_goBy cX5_goBy 6 none :: TB) B.pre w9 (List.mem_cons_of_mem _ h)
  have hown : s.vm.findClass RX5 = some m.cls := findClass_of_methodNamed B.named
  have S : CallFix p m c cX5_goBy 6 s _ TB RX5 := ⟨hx, hb, hml, hown, hT⟩
  subst hsz
  have hD := hD0.self (sz := s.heap.size)
  generalize hAe : va_A (CWS k a st sl) s.heap.size = A at hD ⊢
  have hA : ∀ q : Nat, s.heap.size ≤ q → A q := fun q h => by rw [← hAe]; exact Or.inr h
  have hS : va_S A s.heap s.heap [] := va_S.rf
  have hl := lv_entry ([.ref (a x), .ref (a 18), .int p0, .int p1]) (n := 6) (Nat.le_of_ble_eq_true rfl)
  rw [lg_entry_eq]
  generalize (lg_sl ([.ref (a x), .ref (a 18), .int p0, .int p1]) ++ List.replicate (6 - (lg_sl ([.ref (a x), .ref (a 18), .int p0, .int p1])).length) Slot.unset).toArray = ls at hl ⊢
  have hl : lv_has ls 6 [(0, .ref (a x)), (1, .ref (a 18)), (2, .int p0), (3, .int p1)] := hl
  refine nameQ (fun Q hQ => ?_)
  refine lv_aload_n hx hb dX5_goBy_0 rfl (lv_at hl 1 rfl) ?_
  refine va_get (D := D) (ci := 1) (v := .ref (a 21)) (C := RX1) (T := TX1) (N := 14) hx hb hT in_X1 hown hK hP 18 cw_18 rfl 9 (by decide) (hT _ t232) (fun _ h9 => h9) rfl dX5_goBy_1 ?_
  refine lv_iload_n hx hb dX5_goBy_4 rfl (lv_at hl 3 rfl) ?_
  refine va_iald hx hb hK hP 21 0 cw_21 rfl (iv_in hp1 (by decide) (by decide)) dX5_goBy_5 ?_
  refine lv_topi (fun z1 ez1 => ?_)
  refine lv_istore (lv' := [(4, .int z1), (0, .ref (a x)), (1, .ref (a 18)), (2, .int p0), (3, .int p1)]) hx hb dX5_goBy_6 hl (by decide) rfl (fun ls hl => ?_)
  refine lv_iconst (v := 0) hx hb dX5_goBy_8 (by decide) ?_
  refine lv_istore (lv' := [(5, .int 0), (4, .int z1), (0, .ref (a x)), (1, .ref (a 18)), (2, .int p0), (3, .int p1)]) hx hb dX5_goBy_9 hl (by decide) rfl (fun ls hl => ?_)
  have lp11 : ∀ (n9_11 : Nat) (v5_11 : Int32) (t11 : CT) (H9 : Heap) (locs9 : List Loc) (ls : Array Slot), Iv 0 8 v5_11 → CB t11 → FR [(x + 1), (x + 2)] st t11 → va_P D vwCl (CWS k a t11 sl) H9 → va_D A (CWS k a t11 sl) → va_S A s.heap H9 locs9 → lv_has ls 6 [(5, .int v5_11), (4, .int z1), (0, .ref (a x)), (1, .ref (a 18)), (2, .int p0), (3, .int p1)] → (8 : Int) - v5_11.toInt < (n9_11 : Int) → W p l e (rmw 3 0 0) s m ([.ref (a x), .ref (a 18), .int p0, .int p1] : List Value).toArray below meth c H9 locs9 0 0 Q (F0 m 11 ls []) := by
    clear hl hP hD hS
    intro n9_11
    induction n9_11 with
    | zero =>
      intro v5_11 t11 H9 locs9 ls iv5_11 hBt11 gt11 hP hD hS hl hm11
      exact (fu_0 iv5_11 hm11).elim
    | succ n9_11 ih11 =>
      intro v5_11 t11 H9 locs9 ls iv5_11 hBt11 gt11 hP hD hS hl hm11
      have hFt11 : FR [(x + 1), (x + 2), (x + 4), (x + 5)] st t11 := fr_ca fr_rf gt11 (sub_1 (List.mem_of_getElem? (i := 0) rfl) (sub_1 (List.mem_of_getElem? (i := 1) rfl) sub_0))
      refine lv_iload hx hb dX5_goBy_11 (lv_at hl 0 rfl) ?_
      refine lv_bipush (v := 8) hx hb dX5_goBy_13 (by decide) ?_
      refine lv_icmp_ge (tgt := 44) hx hb dX5_goBy_15 (by decide) (fun c112 => ?_) (fun c112 => ?_)
      · skip
        have n113 : (8 : Int32).toInt ≤ v5_11.toInt := (i_le c112)
        have h114 : Iv 8 8 v5_11 := le_r (iv_c (by decide) : Iv 8 8 8) n113 iv5_11 (by decide)
        refine lv_aload_n hx hb dX5_goBy_44 rfl (lv_at hl 2 rfl) ?_
        refine va_get (D := D) (ci := 5) (v := .ref (a (x + 4))) (C := RX5) (T := TX5) (N := 5) hx hb hT in_X5 hown hK hP x (sx_0 mx) rfl 3 (by decide) (hT _ t176) (fun _ h9 => h9) rfl dX5_goBy_45 ?_
        refine lv_iload_n hx hb dX5_goBy_48 rfl (lv_at hl 4 rfl) ?_
        refine lv_aload_n hx hb dX5_goBy_49 rfl (lv_at hl 3 rfl) ?_
        refine lv_iload_n hx hb dX5_goBy_50 rfl (lv_at hl 5 rfl) ?_
        refine lv_aload_n hx hb dX5_goBy_51 rfl (lv_at hl 2 rfl) ?_
        refine va_get (D := D) (ci := 5) (v := .ref (a (x + 4))) (C := RX5) (T := TX5) (N := 5) hx hb hT in_X5 hown hK hP x (sx_0 mx) rfl 3 (by decide) (hT _ t176) (fun _ h9 => h9) rfl dX5_goBy_52 ?_
        refine lv_iload_n hx hb dX5_goBy_55 rfl (lv_at hl 4 rfl) ?_
        refine va_iald hx hb hK hP (x + 4) 0 (sx_4 mx) rfl (iv_in hp0 (by decide) (by decide)) dX5_goBy_56 ?_
        refine lv_topi (fun z115 ez115 => ?_)
        have h116 : Iv 0 5 z115 := by rw [ez115]; exact (rx_4 mx hBt11 (vp_in_lt (iv_in hp0 (by decide) (by decide))))
        refine ro_V (As := [.int p1, .int z115]) (rest := [.int p0, .ref (a (x + 4))]) S (s_X1_otherEnd l D k a t11 sl  p1 z115 _  hBt11 hp1 ) lkX5_97 ok_X1_otherEnd ⟨rfl, rfl, Nat.le_of_ble_eq_true rfl, Nat.le_of_ble_eq_true rfl⟩ (pw_V (ci := 1) (q0 := 18) hK hN rfl cw_18 hP (hD.weaken (fun _ _ _ _ => trivial))) rfl hl.1 rfl (Nat.le_of_ble_eq_true rfl) ⟨Nat.zero_le _, Nat.zero_le _⟩ dX5_goBy_57 (fun r117 er117 => ?_)
        have h118 : Iv 0 5 r117 := er117.1
        refine c_ist hx hb hK hP hD hS (sx_4 mx) (ss_4 mx) (iv_in hp0 (by decide) (by decide)) dX5_goBy_60 (fun s119 H9 locs9 es119 hP9 hD9 hS9 => ?_)
        clear hP hD hS
        have hS := hS9
        have hP := hP9
        have hD := hD9
        clear hP9 hD9 hS9
        have hBs119 : CB s119 := by rw [es119]; exact cb_sw hBt11 (by rw [kx_4 mx]; exact (ki_2 (kb_4 mx hBt11) h118))
        have hFs119 : FR [(x + 1), (x + 2), (x + 4), (x + 5)] st s119 := fr_sw hFt11 (List.mem_of_getElem? (i := 2) rfl) es119
        refine lv_aload_n hx hb dX5_goBy_61 rfl (lv_at hl 2 rfl) ?_
        refine va_get (D := D) (ci := 5) (v := .ref (a (x + 5))) (C := RX5) (T := TX5) (N := 5) hx hb hT in_X5 hown hK hP x (sx_0 mx) rfl 4 (by decide) (hT _ t181) (fun _ h9 => h9) rfl dX5_goBy_62 ?_
        refine lv_iload_n hx hb dX5_goBy_65 rfl (lv_at hl 4 rfl) ?_
        refine lv_dup2_11 hx hb dX5_goBy_66 rfl rfl ?_
        refine va_iald hx hb hK hP (x + 5) 0 (sx_5 mx) rfl (iv_in hp0 (by decide) (by decide)) dX5_goBy_67 ?_
        refine lv_topi (fun z120 ez120 => ?_)
        refine lv_iload hx hb dX5_goBy_68 (lv_at hl 1 rfl) ?_
        refine lv_iadd hx hb dX5_goBy_70 ?_
        refine lv_topi (fun z121 ez121 => ?_)
        refine c_ist hx hb hK hP hD hS (sx_5 mx) (ss_5 mx) (iv_in hp0 (by decide) (by decide)) dX5_goBy_71 (fun s122 H9 locs9 es122 hP9 hD9 hS9 => ?_)
        clear hP hD hS
        have hS := hS9
        have hP := hP9
        have hD := hD9
        clear hP9 hD9 hS9
        have hBs122 : CB s122 := by rw [es122]; exact cb_sw hBs119 (by rw [kx_5 mx]; trivial)
        have hFs122 : FR [(x + 1), (x + 2), (x + 4), (x + 5)] st s122 := fr_sw hFs119 (List.mem_of_getElem? (i := 3) rfl) es122
        rw [hQ]
        exact W.vret hx hb hr (fun t ht hW => ⟨⟨s122, rfl, ⟨hBs122, hFs122, trivial⟩, by rw [ht]; exact hP, va_K.moved hW.alike (hK.sub (tys' := []) [] rfl), by rw [hAe]; exact hD⟩, by rw [hAe]; exact hS.F ht⟩) hS.2.2 dX5_goBy_72
      · skip
        have n123 : v5_11.toInt < (8 : Int32).toInt := (i_nle c112)
        have h124 : Iv 0 7 v5_11 := lt_l iv5_11 n123 (iv_c (by decide) : Iv 8 8 8) (by decide)
        refine lv_aload_n hx hb dX5_goBy_18 rfl (lv_at hl 2 rfl) ?_
        refine va_get (D := D) (ci := 5) (v := .ref (a (x + 3))) (C := RX5) (T := TX5) (N := 5) hx hb hT in_X5 hown hK hP x (sx_0 mx) rfl 2 (by decide) (hT _ t172) (fun _ h9 => h9) rfl dX5_goBy_19 ?_
        refine lv_iload hx hb dX5_goBy_22 (lv_at hl 0 rfl) ?_
        refine va_iald hx hb hK hP (x + 3) 0 (sx_3 mx) rfl (iv_in h124 (by decide) (by decide)) dX5_goBy_24 ?_
        refine lv_topi (fun z125 ez125 => ?_)
        refine lv_iload_n hx hb dX5_goBy_25 rfl (lv_at hl 4 rfl) ?_
        refine lv_icmp_ne (tgt := 38) hx hb dX5_goBy_26 (by decide) (fun c126 => ?_) (fun c126 => ?_)
        · skip
          obtain ⟨z127, ez127⟩ : ∃ z9 : Int32, z9 = v5_11 + Int32.ofInt 1 := ⟨_, rfl⟩
          have h128 : Iv 1 8 z127 := iv_inc ez127 h124 (by decide) (by decide) (by decide) (by decide) (by decide) (by decide)
          refine lv_iinc (v := z127) (lv' := [(5, .int z127), (4, .int z1), (0, .ref (a x)), (1, .ref (a 18)), (2, .int p0), (3, .int p1)]) hx hb dX5_goBy_38 hl (k := 0) rfl ez127.symm (by decide) rfl (fun ls hl => ?_)
          refine lv_goto (tgt := 11) hx hb dX5_goBy_41 (by decide) ?_
          exact ih11 z127 t11 _ _ _ (iv_mono (c := 0) (d := 8) h128 (by decide) (by decide)) hBt11 gt11 hP hD hS (lv_sub hl [0, 1, 2, 3, 4, 5] rfl) (fu_s (lo := 0) (ti_inc ez127 h124 (by decide) (by decide) (by decide) (by decide)) (by decide) hm11)
        · skip
          have h129 : Iv 0 2 z125 := eq_l c126 hp0
          refine lv_aload_n hx hb dX5_goBy_29 rfl (lv_at hl 2 rfl) ?_
          refine lv_iload hx hb dX5_goBy_30 (lv_at hl 0 rfl) ?_
          refine lv_iload_n hx hb dX5_goBy_32 rfl (lv_at hl 5 rfl) ?_
          refine lv_iload hx hb dX5_goBy_33 (lv_at hl 1 rfl) ?_
          refine ca_v hP hD hS hA (fun hDc => run_V (mc := 0) (ms := 0) (As := [.int v5_11, .int p1, .int z1]) (rest := []) S (s_X5_run l D k a t11 sl x v5_11 p1 z1 _ mx hBt11 h124 hp1 ) lkX5_94 ok_X5_run ⟨rfl, rfl, Nat.le_of_ble_eq_true rfl, Nat.le_of_ble_eq_true rfl⟩ (pw_V (ci := 5) (q0 := x) hK hN rfl (sx_0 mx) hP hDc) rfl hl.1 rfl (Nat.le_of_ble_eq_true rfl) ⟨Nat.zero_le _, Nat.zero_le _⟩ dX5_goBy_35) (fun s130 H9 locs9 hs130 hP9 hD9 hS9 => ?_)
          clear hP hD hS
          have hS := hS9
          have hP := hP9
          have hD := hD9
          clear hP9 hD9 hS9
          obtain ⟨hBs130, gs130, fs130⟩ := hs130
          have hFs130 : FR [(x + 1), (x + 2), (x + 4), (x + 5)] st s130 := fr_ca hFt11 gs130 (sub_1 (List.mem_of_getElem? (i := 0) rfl) (sub_1 (List.mem_of_getElem? (i := 1) rfl) sub_0))
          obtain ⟨z132, ez132⟩ : ∃ z9 : Int32, z9 = v5_11 + Int32.ofInt 1 := ⟨_, rfl⟩
          have h133 : Iv 1 8 z132 := iv_inc ez132 h124 (by decide) (by decide) (by decide) (by decide) (by decide) (by decide)
          refine lv_iinc (v := z132) (lv' := [(5, .int z132), (4, .int z1), (0, .ref (a x)), (1, .ref (a 18)), (2, .int p0), (3, .int p1)]) hx hb dX5_goBy_38 hl (k := 0) rfl ez132.symm (by decide) rfl (fun ls hl => ?_)
          refine lv_goto (tgt := 11) hx hb dX5_goBy_41 (by decide) ?_
          exact ih11 z132 s130 _ _ _ (iv_mono (c := 0) (d := 8) h133 (by decide) (by decide)) hBs130 (fr_ca gt11 gs130 (sub_1 (List.mem_of_getElem? (i := 0) rfl) (sub_1 (List.mem_of_getElem? (i := 1) rfl) sub_0))) hP hD hS (lv_sub hl [0, 1, 2, 3, 4, 5] rfl) (fu_s (lo := 0) (ti_inc ez132 h124 (by decide) (by decide) (by decide) (by decide)) (by decide) hm11)
  exact lp11 9 0 st _ _ _ (iv_mono (c := 0) (d := 8) (iv_c (by decide) : Iv 0 0 0) (by decide) (by decide)) hB fr_rf hP hD hS (lv_sub hl [0, 1, 2, 3, 4, 5] rfl) (fu_i (iv_mono (c := 0) (d := 8) (iv_c (by decide) : Iv 0 0 0) (by decide) (by decide)) (by decide))
set_option maxHeartbeats 4000000 in
set_option maxRecDepth 100000 in
theorem s_X5_go (l : Launch) (D : va_G) (k : Nat → ClassId) (a : Nat → Nat) (st : CT) (sl : CL) (x : Nat) (p0 : Int32) (p1 : Int32) (sz : Nat) (mx : x ∈ SC) (hB : CB st) (hp0 : Iv 0 2 p0) : Met l yX5_go (.code yX5_go cX5_go 5 (some .int) :: TB) (rmw 4 0 0) (va_Pc [.ref (a x), .ref (a 18), .int p0, .int p1] (PW D k sz (CWS k a st sl))) (QI D (S := CT) (fun r u => CB u ∧ FR [(x + 1), (x + 2), (x + 4), (x + 5)] st u ∧ (Iv (-1) 7 r ∧ (True))) (fun u => CWS k a u sl) (fun _ => []) (CWS k a st sl) sz) 0 0 (va_A (CWS k a st sl) sz) := by
  refine Met.ofW (cc := cX5_go) (maxL := 5) (ret := (some .int)) (by decide) rfl ?_
  intro p e s m args below meth c s₁ B hml hv
  obtain ⟨rfl, hsz, hP, hK, hD0, hN⟩ := hv
  have hx := B.exec
  have hb := B.bytes
  have hr := B.returns
  have hT : ∀ w9 ∈ TB, w9.before ([.ref (a x), .ref (a 18), .int p0, .int p1] : List Value).toArray s = true := fun w9 h => atoms_spec (ws := .code yX5_go cX5_go 5 (some .int) :: TB) B.pre w9 (List.mem_cons_of_mem _ h)
  have hown : s.vm.findClass RX5 = some m.cls := findClass_of_methodNamed B.named
  have S : CallFix p m c cX5_go 5 s _ TB RX5 := ⟨hx, hb, hml, hown, hT⟩
  subst hsz
  have hD := hD0.self (sz := s.heap.size)
  generalize hAe : va_A (CWS k a st sl) s.heap.size = A at hD ⊢
  have hA : ∀ q : Nat, s.heap.size ≤ q → A q := fun q h => by rw [← hAe]; exact Or.inr h
  have hS : va_S A s.heap s.heap [] := va_S.rf
  have hl := lv_entry ([.ref (a x), .ref (a 18), .int p0, .int p1]) (n := 5) (Nat.le_of_ble_eq_true rfl)
  rw [lg_entry_eq]
  generalize (lg_sl ([.ref (a x), .ref (a 18), .int p0, .int p1]) ++ List.replicate (5 - (lg_sl ([.ref (a x), .ref (a 18), .int p0, .int p1])).length) Slot.unset).toArray = ls at hl ⊢
  have hl : lv_has ls 5 [(0, .ref (a x)), (1, .ref (a 18)), (2, .int p0), (3, .int p1)] := hl
  refine nameQ (fun Q hQ => ?_)
  refine lv_iload_n hx hb dX5_go_0 rfl (lv_at hl 3 rfl) ?_
  refine lv_iconst (v := (-1)) hx hb dX5_go_1 (by decide) ?_
  refine lv_icmp_eq (tgt := 21) hx hb dX5_go_2 (by decide) (fun c1 => ?_) (fun c1 => ?_)
  · skip
    have h2 : Iv (-1) (-1) p1 := eq_l c1 (iv_c (by decide) : Iv (-1) (-1) (-1))
    refine lv_aload_n hx hb dX5_go_21 rfl (lv_at hl 0 rfl) ?_
    refine lv_aload_n hx hb dX5_go_22 rfl (lv_at hl 1 rfl) ?_
    refine lv_iload_n hx hb dX5_go_23 rfl (lv_at hl 2 rfl) ?_
    refine lv_iload_n hx hb dX5_go_24 rfl (lv_at hl 3 rfl) ?_
    refine ro_V (As := [.ref (a 18), .int p0, .int p1]) (rest := []) S (s_X5_turnOf l D k a st sl x p0 p1 _ mx hB hp0 (iv_mono (c := (-1)) (d := 7) h2 (by decide) (by decide)) ) lkX5_87 ok_X5_turnOf ⟨rfl, rfl, Nat.le_of_ble_eq_true rfl, Nat.le_of_ble_eq_true rfl⟩ (pw_V (ci := 5) (q0 := x) hK hN rfl (sx_0 mx) hP (hD.weaken (fun _ _ _ _ => trivial))) rfl hl.1 rfl (Nat.le_of_ble_eq_true rfl) ⟨Nat.zero_le _, Nat.zero_le _⟩ dX5_go_25 (fun r3 er3 => ?_)
    have h4 : Iv (-1) 7 r3 := er3.1
    refine lv_istore (lv' := [(4, .int r3), (0, .ref (a x)), (1, .ref (a 18)), (2, .int p0), (3, .int p1)]) hx hb dX5_go_28 hl (by decide) rfl (fun ls hl => ?_)
    refine lv_iload hx hb dX5_go_30 (lv_at hl 0 rfl) ?_
    refine lv_iconst (v := (-1)) hx hb dX5_go_32 (by decide) ?_
    refine lv_icmp_eq (tgt := 44) hx hb dX5_go_33 (by decide) (fun c5 => ?_) (fun c5 => ?_)
    · skip
      have h6 : Iv (-1) (-1) r3 := eq_l c5 (iv_c (by decide) : Iv (-1) (-1) (-1))
      refine lv_iload hx hb dX5_go_44 (lv_at hl 0 rfl) ?_
      rw [hQ]
      exact W.iret (v := r3) hx hb hr (fun t ht hW => ⟨⟨r3, st, rfl, ⟨hB, fr_rf, ⟨(iv_mono (c := (-1)) (d := 7) h6 (by decide) (by decide)), trivial⟩⟩, by rw [ht]; exact hP, va_K.moved hW.alike (hK.sub (tys' := []) [] rfl), by rw [hAe]; exact hD⟩, by rw [hAe]; exact hS.F ht⟩) hS.2.2 dX5_go_46
    · skip
      have h7 : Iv 0 7 r3 := ne_lo h4 c5 (by decide) (by decide)
      refine lv_aload_n hx hb dX5_go_36 rfl (lv_at hl 1 rfl) ?_
      refine lv_aload_n hx hb dX5_go_37 rfl (lv_at hl 2 rfl) ?_
      refine lv_iload_n hx hb dX5_go_38 rfl (lv_at hl 3 rfl) ?_
      refine lv_iload hx hb dX5_go_39 (lv_at hl 0 rfl) ?_
      refine ca_v hP hD hS hA (fun hDc => run_V (mc := 0) (ms := 0) (As := [.ref (a 18), .int p0, .int r3]) (rest := []) S (s_X5_goBy l D k a st sl x p0 r3 _ mx hB hp0 h7 ) lkX5_90 ok_X5_goBy ⟨rfl, rfl, Nat.le_of_ble_eq_true rfl, Nat.le_of_ble_eq_true rfl⟩ (pw_V (ci := 5) (q0 := x) hK hN rfl (sx_0 mx) hP hDc) rfl hl.1 rfl (Nat.le_of_ble_eq_true rfl) ⟨Nat.zero_le _, Nat.zero_le _⟩ dX5_go_41) (fun s8 H9 locs9 hs8 hP9 hD9 hS9 => ?_)
      clear hP hD hS
      have hS := hS9
      have hP := hP9
      have hD := hD9
      clear hP9 hD9 hS9
      obtain ⟨hBs8, gs8, fs8⟩ := hs8
      have hFs8 : FR [(x + 1), (x + 2), (x + 4), (x + 5)] st s8 := fr_ca fr_rf gs8 (sub_1 (List.mem_of_getElem? (i := 0) rfl) (sub_1 (List.mem_of_getElem? (i := 1) rfl) (sub_1 (List.mem_of_getElem? (i := 2) rfl) (sub_1 (List.mem_of_getElem? (i := 3) rfl) sub_0))))
      refine lv_iload hx hb dX5_go_44 (lv_at hl 0 rfl) ?_
      rw [hQ]
      exact W.iret (v := r3) hx hb hr (fun t ht hW => ⟨⟨r3, s8, rfl, ⟨hBs8, hFs8, ⟨(iv_mono (c := (-1)) (d := 7) h7 (by decide) (by decide)), trivial⟩⟩, by rw [ht]; exact hP, va_K.moved hW.alike (hK.sub (tys' := []) [] rfl), by rw [hAe]; exact hD⟩, by rw [hAe]; exact hS.F ht⟩) hS.2.2 dX5_go_46
  · skip
    refine lv_aload_n hx hb dX5_go_5 rfl (lv_at hl 1 rfl) ?_
    refine lv_iload_n hx hb dX5_go_6 rfl (lv_at hl 3 rfl) ?_
    refine lv_aload_n hx hb dX5_go_7 rfl (lv_at hl 0 rfl) ?_
    refine va_get (D := D) (ci := 5) (v := .ref (a (x + 4))) (C := RX5) (T := TX5) (N := 5) hx hb hT in_X5 hown hK hP x (sx_0 mx) rfl 3 (by decide) (hT _ t176) (fun _ h9 => h9) rfl dX5_go_8 ?_
    refine lv_iload_n hx hb dX5_go_11 rfl (lv_at hl 2 rfl) ?_
    refine va_iald hx hb hK hP (x + 4) 0 (sx_4 mx) rfl (iv_in hp0 (by decide) (by decide)) dX5_go_12 ?_
    refine lv_topi (fun z10 ez10 => ?_)
    have h11 : Iv 0 5 z10 := by rw [ez10]; exact (rx_4 mx hB (vp_in_lt (iv_in hp0 (by decide) (by decide))))
    refine ro_V (As := [.int p1, .int z10]) (rest := []) S (s_X1_touches l D k a st sl  p1 z10 _  hB  ) lkX5_52 ok_X1_touches ⟨rfl, rfl, Nat.le_of_ble_eq_true rfl, Nat.le_of_ble_eq_true rfl⟩ (pw_V (ci := 1) (q0 := 18) hK hN rfl cw_18 hP (hD.weaken (fun _ _ _ _ => trivial))) rfl hl.1 rfl (Nat.le_of_ble_eq_true rfl) ⟨Nat.zero_le _, Nat.zero_le _⟩ dX5_go_13 (fun r12 er12 => ?_)
    rcases er12 with ⟨rfl, g9⟩ | ⟨rfl, g9⟩
    · skip
      have g13 := g9
      have h14 : Iv 0 7 p1 := g13.1
      have k15 := g13.2.2
      refine lv_if_ne (tgt := 21) hx hb dX5_go_16 (by decide) (fun c16 => ?_) (fun c16 => ?_)
      rotate_left
      · first | exact absurd c16 (by decide) | exact absurd (by decide) c16
      refine lv_aload_n hx hb dX5_go_21 rfl (lv_at hl 0 rfl) ?_
      refine lv_aload_n hx hb dX5_go_22 rfl (lv_at hl 1 rfl) ?_
      refine lv_iload_n hx hb dX5_go_23 rfl (lv_at hl 2 rfl) ?_
      refine lv_iload_n hx hb dX5_go_24 rfl (lv_at hl 3 rfl) ?_
      refine ro_V (As := [.ref (a 18), .int p0, .int p1]) (rest := []) S (s_X5_turnOf l D k a st sl x p0 p1 _ mx hB hp0 (iv_mono (c := (-1)) (d := 7) h14 (by decide) (by decide)) ) lkX5_87 ok_X5_turnOf ⟨rfl, rfl, Nat.le_of_ble_eq_true rfl, Nat.le_of_ble_eq_true rfl⟩ (pw_V (ci := 5) (q0 := x) hK hN rfl (sx_0 mx) hP (hD.weaken (fun _ _ _ _ => trivial))) rfl hl.1 rfl (Nat.le_of_ble_eq_true rfl) ⟨Nat.zero_le _, Nat.zero_le _⟩ dX5_go_25 (fun r17 er17 => ?_)
      have h18 : Iv (-1) 7 r17 := er17.1
      refine lv_istore (lv' := [(4, .int r17), (0, .ref (a x)), (1, .ref (a 18)), (2, .int p0), (3, .int p1)]) hx hb dX5_go_28 hl (by decide) rfl (fun ls hl => ?_)
      refine lv_iload hx hb dX5_go_30 (lv_at hl 0 rfl) ?_
      refine lv_iconst (v := (-1)) hx hb dX5_go_32 (by decide) ?_
      refine lv_icmp_eq (tgt := 44) hx hb dX5_go_33 (by decide) (fun c19 => ?_) (fun c19 => ?_)
      · skip
        have h20 : Iv (-1) (-1) r17 := eq_l c19 (iv_c (by decide) : Iv (-1) (-1) (-1))
        refine lv_iload hx hb dX5_go_44 (lv_at hl 0 rfl) ?_
        rw [hQ]
        exact W.iret (v := r17) hx hb hr (fun t ht hW => ⟨⟨r17, st, rfl, ⟨hB, fr_rf, ⟨(iv_mono (c := (-1)) (d := 7) h20 (by decide) (by decide)), trivial⟩⟩, by rw [ht]; exact hP, va_K.moved hW.alike (hK.sub (tys' := []) [] rfl), by rw [hAe]; exact hD⟩, by rw [hAe]; exact hS.F ht⟩) hS.2.2 dX5_go_46
      · skip
        have h21 : Iv 0 7 r17 := ne_lo h18 c19 (by decide) (by decide)
        refine lv_aload_n hx hb dX5_go_36 rfl (lv_at hl 1 rfl) ?_
        refine lv_aload_n hx hb dX5_go_37 rfl (lv_at hl 2 rfl) ?_
        refine lv_iload_n hx hb dX5_go_38 rfl (lv_at hl 3 rfl) ?_
        refine lv_iload hx hb dX5_go_39 (lv_at hl 0 rfl) ?_
        refine ca_v hP hD hS hA (fun hDc => run_V (mc := 0) (ms := 0) (As := [.ref (a 18), .int p0, .int r17]) (rest := []) S (s_X5_goBy l D k a st sl x p0 r17 _ mx hB hp0 h21 ) lkX5_90 ok_X5_goBy ⟨rfl, rfl, Nat.le_of_ble_eq_true rfl, Nat.le_of_ble_eq_true rfl⟩ (pw_V (ci := 5) (q0 := x) hK hN rfl (sx_0 mx) hP hDc) rfl hl.1 rfl (Nat.le_of_ble_eq_true rfl) ⟨Nat.zero_le _, Nat.zero_le _⟩ dX5_go_41) (fun s22 H9 locs9 hs22 hP9 hD9 hS9 => ?_)
        clear hP hD hS
        have hS := hS9
        have hP := hP9
        have hD := hD9
        clear hP9 hD9 hS9
        obtain ⟨hBs22, gs22, fs22⟩ := hs22
        have hFs22 : FR [(x + 1), (x + 2), (x + 4), (x + 5)] st s22 := fr_ca fr_rf gs22 (sub_1 (List.mem_of_getElem? (i := 0) rfl) (sub_1 (List.mem_of_getElem? (i := 1) rfl) (sub_1 (List.mem_of_getElem? (i := 2) rfl) (sub_1 (List.mem_of_getElem? (i := 3) rfl) sub_0))))
        refine lv_iload hx hb dX5_go_44 (lv_at hl 0 rfl) ?_
        rw [hQ]
        exact W.iret (v := r17) hx hb hr (fun t ht hW => ⟨⟨r17, s22, rfl, ⟨hBs22, hFs22, ⟨(iv_mono (c := (-1)) (d := 7) h21 (by decide) (by decide)), trivial⟩⟩, by rw [ht]; exact hP, va_K.moved hW.alike (hK.sub (tys' := []) [] rfl), by rw [hAe]; exact hD⟩, by rw [hAe]; exact hS.F ht⟩) hS.2.2 dX5_go_46
    · skip
      have g24 := g9
      have k25 := g24
      refine lv_if_ne (tgt := 21) hx hb dX5_go_16 (by decide) (fun c26 => ?_) (fun c26 => ?_)
      · first | exact absurd c26 (by decide) | exact absurd (by decide) c26
      refine lv_iconst (v := (-1)) hx hb dX5_go_19 (by decide) ?_
      rw [hQ]
      exact W.iret (v := (-1)) hx hb hr (fun t ht hW => ⟨⟨(-1), st, rfl, ⟨hB, fr_rf, ⟨(iv_mono (c := (-1)) (d := 7) (iv_c (by decide) : Iv (-1) (-1) (-1)) (by decide) (by decide)), trivial⟩⟩, by rw [ht]; exact hP, va_K.moved hW.alike (hK.sub (tys' := []) [] rfl), by rw [hAe]; exact hD⟩, by rw [hAe]; exact hS.F ht⟩) hS.2.2 dX5_go_20
set_option maxHeartbeats 4000000 in
set_option maxRecDepth 100000 in
theorem s_X5_hasWornWheel (l : Launch) (D : va_G) (k : Nat → ClassId) (a : Nat → Nat) (st : CT) (sl : CL) (x : Nat) (p0 : Int32) (sz : Nat) (mx : x ∈ SC) (hB : CB st)  : Met l yX5_hasWornWheel (.code yX5_hasWornWheel cX5_hasWornWheel 3 (some .boolean) :: TB) (rmk 1) (va_Pc [.ref (a x), .int p0] (PW D k sz (CWS k a st sl))) (vp_Si (fun r => (r = 1 ∧ (True)) ∨ (r = 0 ∧ (True)))) 0 0 (fun _ => False) := by
  refine Met.ofW (cc := cX5_hasWornWheel) (maxL := 3) (ret := (some .boolean)) (by decide) rfl ?_
  intro p e s m args below meth c s₁ B hml hv
  obtain ⟨rfl, hsz, hP, hK, hD0, hN⟩ := hv
  have hx := B.exec
  have hb := B.bytes
  have hr := B.returns
  have hT : ∀ w9 ∈ TB, w9.before ([.ref (a x), .int p0] : List Value).toArray s = true := fun w9 h => atoms_spec (ws := .code yX5_hasWornWheel cX5_hasWornWheel 3 (some .boolean) :: TB) B.pre w9 (List.mem_cons_of_mem _ h)
  have hown : s.vm.findClass RX5 = some m.cls := findClass_of_methodNamed B.named
  have S : CallFix p m c cX5_hasWornWheel 3 s _ TB RX5 := ⟨hx, hb, hml, hown, hT⟩
  subst hsz
  have hl := lv_entry ([.ref (a x), .int p0]) (n := 3) (Nat.le_of_ble_eq_true rfl)
  rw [lg_entry_eq]
  generalize (lg_sl ([.ref (a x), .int p0]) ++ List.replicate (3 - (lg_sl ([.ref (a x), .int p0])).length) Slot.unset).toArray = ls at hl ⊢
  have hl : lv_has ls 3 [(0, .ref (a x)), (1, .int p0)] := hl
  refine nameQ (fun Q hQ => ?_)
  refine lv_iconst (v := 0) hx hb dX5_hasWornWheel_0 (by decide) ?_
  refine lv_istore_n (lv' := [(2, .int 0), (0, .ref (a x)), (1, .int p0)]) hx hb dX5_hasWornWheel_1 rfl hl (by decide) rfl (fun ls hl => ?_)
  have lp2 : ∀ (n9_2 : Nat) (v2_2 : Int32) (ls : Array Slot), Iv 0 8 v2_2 → lv_has ls 3 [(2, .int v2_2), (0, .ref (a x)), (1, .int p0)] → (8 : Int) - v2_2.toInt < (n9_2 : Int) → W p l e (rmk 1) s m ([.ref (a x), .int p0] : List Value).toArray below meth c s.heap [] 0 0 Q (F0 m 2 ls []) := by
    clear hl
    intro n9_2
    induction n9_2 with
    | zero =>
      intro v2_2 ls iv2_2 hl hm2
      exact (fu_0 iv2_2 hm2).elim
    | succ n9_2 ih2 =>
      intro v2_2 ls iv2_2 hl hm2
      refine lv_iload_n hx hb dX5_hasWornWheel_2 rfl (lv_at hl 0 rfl) ?_
      refine lv_bipush (v := 8) hx hb dX5_hasWornWheel_3 (by decide) ?_
      refine lv_icmp_ge (tgt := 35) hx hb dX5_hasWornWheel_5 (by decide) (fun c111 => ?_) (fun c111 => ?_)
      · skip
        have n112 : (8 : Int32).toInt ≤ v2_2.toInt := (i_le c111)
        have h113 : Iv 8 8 v2_2 := le_r (iv_c (by decide) : Iv 8 8 8) n112 iv2_2 (by decide)
        refine lv_iconst (v := 0) hx hb dX5_hasWornWheel_35 (by decide) ?_
        rw [hQ]
        exact W.zret (v := 0) (ty := .boolean) hx hb hr rfl (fun t ht hW => ⟨0, rfl, Or.inr ⟨rfl, trivial⟩, ht⟩) (fun _ h9 => by cases h9) dX5_hasWornWheel_36
      · skip
        have n114 : v2_2.toInt < (8 : Int32).toInt := (i_nle c111)
        have h115 : Iv 0 7 v2_2 := lt_l iv2_2 n114 (iv_c (by decide) : Iv 8 8 8) (by decide)
        refine lv_aload_n hx hb dX5_hasWornWheel_8 rfl (lv_at hl 1 rfl) ?_
        refine va_get (D := D) (ci := 5) (v := .ref (a (x + 3))) (C := RX5) (T := TX5) (N := 5) hx hb hT in_X5 hown hK hP x (sx_0 mx) rfl 2 (by decide) (hT _ t172) (fun _ h9 => h9) rfl dX5_hasWornWheel_9 ?_
        refine lv_iload_n hx hb dX5_hasWornWheel_12 rfl (lv_at hl 0 rfl) ?_
        refine va_iald hx hb hK hP (x + 3) 0 (sx_3 mx) rfl (iv_in h115 (by decide) (by decide)) dX5_hasWornWheel_13 ?_
        refine lv_topi (fun z116 ez116 => ?_)
        refine lv_iload_n hx hb dX5_hasWornWheel_14 rfl (lv_at hl 2 rfl) ?_
        refine lv_icmp_ne (tgt := 29) hx hb dX5_hasWornWheel_15 (by decide) (fun c117 => ?_) (fun c117 => ?_)
        · skip
          obtain ⟨z118, ez118⟩ : ∃ z9 : Int32, z9 = v2_2 + Int32.ofInt 1 := ⟨_, rfl⟩
          have h119 : Iv 1 8 z118 := iv_inc ez118 h115 (by decide) (by decide) (by decide) (by decide) (by decide) (by decide)
          refine lv_iinc (v := z118) (lv' := [(2, .int z118), (0, .ref (a x)), (1, .int p0)]) hx hb dX5_hasWornWheel_29 hl (k := 0) rfl ez118.symm (by decide) rfl (fun ls hl => ?_)
          refine lv_goto (tgt := 2) hx hb dX5_hasWornWheel_32 (by decide) ?_
          exact ih2 z118 _ (iv_mono (c := 0) (d := 8) h119 (by decide) (by decide)) (lv_sub hl [0, 1, 2] rfl) (fu_s (lo := 0) (ti_inc ez118 h115 (by decide) (by decide) (by decide) (by decide)) (by decide) hm2)
        · skip
          refine lv_aload_n hx hb dX5_hasWornWheel_18 rfl (lv_at hl 1 rfl) ?_
          refine va_get (D := D) (ci := 5) (v := .ref (a (x + 2))) (C := RX5) (T := TX5) (N := 5) hx hb hT in_X5 hown hK hP x (sx_0 mx) rfl 1 (by decide) (hT _ t168) (fun _ h9 => h9) rfl dX5_hasWornWheel_19 ?_
          refine lv_iload_n hx hb dX5_hasWornWheel_22 rfl (lv_at hl 0 rfl) ?_
          refine va_iald hx hb hK hP (x + 2) 0 (sx_2 mx) rfl (iv_in h115 (by decide) (by decide)) dX5_hasWornWheel_23 ?_
          refine lv_topi (fun z120 ez120 => ?_)
          refine lv_if_ne (tgt := 29) hx hb dX5_hasWornWheel_24 (by decide) (fun c121 => ?_) (fun c121 => ?_)
          · skip
            obtain ⟨z122, ez122⟩ : ∃ z9 : Int32, z9 = v2_2 + Int32.ofInt 1 := ⟨_, rfl⟩
            have h123 : Iv 1 8 z122 := iv_inc ez122 h115 (by decide) (by decide) (by decide) (by decide) (by decide) (by decide)
            refine lv_iinc (v := z122) (lv' := [(2, .int z122), (0, .ref (a x)), (1, .int p0)]) hx hb dX5_hasWornWheel_29 hl (k := 0) rfl ez122.symm (by decide) rfl (fun ls hl => ?_)
            refine lv_goto (tgt := 2) hx hb dX5_hasWornWheel_32 (by decide) ?_
            exact ih2 z122 _ (iv_mono (c := 0) (d := 8) h123 (by decide) (by decide)) (lv_sub hl [0, 1, 2] rfl) (fu_s (lo := 0) (ti_inc ez122 h115 (by decide) (by decide) (by decide) (by decide)) (by decide) hm2)
          · skip
            have h124 : Iv 0 0 z120 := eq_l c121 (iv_c (by decide) : Iv 0 0 0)
            refine lv_iconst (v := 1) hx hb dX5_hasWornWheel_27 (by decide) ?_
            rw [hQ]
            exact W.zret (v := 1) (ty := .boolean) hx hb hr rfl (fun t ht hW => ⟨1, rfl, Or.inl ⟨rfl, trivial⟩, ht⟩) (fun _ h9 => by cases h9) dX5_hasWornWheel_28
  exact lp2 9 0 _ (iv_mono (c := 0) (d := 8) (iv_c (by decide) : Iv 0 0 0) (by decide) (by decide)) (lv_sub hl [0, 1, 2] rfl) (fu_i (iv_mono (c := 0) (d := 8) (iv_c (by decide) : Iv 0 0 0) (by decide) (by decide)) (by decide))
set_option maxHeartbeats 4000000 in
set_option maxRecDepth 100000 in
theorem s_X5_copy (l : Launch) (D : va_G) (k : Nat → ClassId) (a : Nat → Nat) (st : CT) (sl : CL) (x : Nat) (y : Nat) (sz : Nat) (mx : x ∈ SC) (my : y ∈ SC) (hB : CB st)  : Met l yX5_copy (.code yX5_copy cX5_copy 2 none :: TB) (rmw 1 0 0) (va_Pc [.ref (a x), .ref (a y)] (PW D k sz (CWS k a st sl))) (QV D (S := CT) (fun u => CB u ∧ FR [(x + 1), (x + 2), (x + 3), (x + 4), (x + 5)] st u ∧ (True)) (fun u => CWS k a u sl) (fun _ => []) (CWS k a st sl) sz) 0 0 (va_A (CWS k a st sl) sz) := by
  refine Met.ofW (cc := cX5_copy) (maxL := 2) (ret := none) (by decide) rfl ?_
  intro p e s m args below meth c s₁ B hml hv
  obtain ⟨rfl, hsz, hP, hK, hD0, hN⟩ := hv
  have hx := B.exec
  have hb := B.bytes
  have hr := B.returns
  have hT : ∀ w9 ∈ TB, w9.before ([.ref (a x), .ref (a y)] : List Value).toArray s = true := fun w9 h => atoms_spec (ws := .code yX5_copy cX5_copy 2 none :: TB) B.pre w9 (List.mem_cons_of_mem _ h)
  have hown : s.vm.findClass RX5 = some m.cls := findClass_of_methodNamed B.named
  have S : CallFix p m c cX5_copy 2 s _ TB RX5 := ⟨hx, hb, hml, hown, hT⟩
  subst hsz
  have hD := hD0.self (sz := s.heap.size)
  generalize hAe : va_A (CWS k a st sl) s.heap.size = A at hD ⊢
  have hA : ∀ q : Nat, s.heap.size ≤ q → A q := fun q h => by rw [← hAe]; exact Or.inr h
  have hS : va_S A s.heap s.heap [] := va_S.rf
  have hl := lv_entry ([.ref (a x), .ref (a y)]) (n := 2) (Nat.le_of_ble_eq_true rfl)
  rw [lg_entry_eq]
  generalize (lg_sl ([.ref (a x), .ref (a y)]) ++ List.replicate (2 - (lg_sl ([.ref (a x), .ref (a y)])).length) Slot.unset).toArray = ls at hl ⊢
  have hl : lv_has ls 2 [(0, .ref (a x)), (1, .ref (a y))] := hl
  refine nameQ (fun Q hQ => ?_)
  refine lv_aload_n hx hb dX5_copy_0 rfl (lv_at hl 1 rfl) ?_
  refine va_get (D := D) (ci := 5) (v := .ref (a (y + 1))) (C := RX5) (T := TX5) (N := 5) hx hb hT in_X5 hown hK hP y (sx_0 my) rfl 0 (by decide) (hT _ t167) (fun _ h9 => h9) rfl dX5_copy_1 ?_
  refine lv_iconst (v := 0) hx hb dX5_copy_4 (by decide) ?_
  refine lv_aload_n hx hb dX5_copy_5 rfl (lv_at hl 0 rfl) ?_
  refine va_get (D := D) (ci := 5) (v := .ref (a (x + 1))) (C := RX5) (T := TX5) (N := 5) hx hb hT in_X5 hown hK hP x (sx_0 mx) rfl 0 (by decide) (hT _ t167) (fun _ h9 => h9) rfl dX5_copy_6 ?_
  refine lv_iconst (v := 0) hx hb dX5_copy_9 (by decide) ?_
  refine lv_aload_n hx hb dX5_copy_10 rfl (lv_at hl 0 rfl) ?_
  refine va_get (D := D) (ci := 5) (v := .ref (a (x + 1))) (C := RX5) (T := TX5) (N := 5) hx hb hT in_X5 hown hK hP x (sx_0 mx) rfl 0 (by decide) (hT _ t167) (fun _ h9 => h9) rfl dX5_copy_11 ?_
  refine va_alen (v := 64) hx hb hK hP (x + 1) 0 (sx_1 mx) rfl (show Int32.ofNat 64 = 64 from by decide) dX5_copy_14 ?_
  refine c_cpy hx hb (hml.trans hl.1.symm) hown (hT _ t691) (hT _ t686) (hT _ t685) (hT _ t121) hK hP hD hS (sx_1 my) (sx_1 mx) (ss_1 mx) (Nat.le_of_ble_eq_true rfl) (Nat.le_of_ble_eq_true rfl) (by decide) (by decide) (by decide) dX5_copy_15 (fun s1 H9 locs9 fs1 es1 gs1 hP9 hD9 hS9 => ?_)
  clear hP hD hS
  have hS := hS9
  have hP := hP9
  have hD := hD9
  clear hP9 hD9 hS9
  have hBs1 : CB s1 := by rw [es1]; exact cb_sw hB (by rw [kx_1 mx]; exact (show KI 1 fs1 from fun j9 h9 => by rw [gs1 j9 h9]; exact (rx_1 my hB h9)))
  have hFs1 : FR [(x + 1), (x + 2), (x + 3), (x + 4), (x + 5)] st s1 := fr_sw fr_rf (List.mem_of_getElem? (i := 0) rfl) es1
  refine lv_aload_n hx hb dX5_copy_18 rfl (lv_at hl 1 rfl) ?_
  refine va_get (D := D) (ci := 5) (v := .ref (a (y + 2))) (C := RX5) (T := TX5) (N := 5) hx hb hT in_X5 hown hK hP y (sx_0 my) rfl 1 (by decide) (hT _ t168) (fun _ h9 => h9) rfl dX5_copy_19 ?_
  refine lv_iconst (v := 0) hx hb dX5_copy_22 (by decide) ?_
  refine lv_aload_n hx hb dX5_copy_23 rfl (lv_at hl 0 rfl) ?_
  refine va_get (D := D) (ci := 5) (v := .ref (a (x + 2))) (C := RX5) (T := TX5) (N := 5) hx hb hT in_X5 hown hK hP x (sx_0 mx) rfl 1 (by decide) (hT _ t168) (fun _ h9 => h9) rfl dX5_copy_24 ?_
  refine lv_iconst (v := 0) hx hb dX5_copy_27 (by decide) ?_
  refine lv_bipush (v := 8) hx hb dX5_copy_28 (by decide) ?_
  refine c_cpy hx hb (hml.trans hl.1.symm) hown (hT _ t691) (hT _ t686) (hT _ t685) (hT _ t121) hK hP hD hS (sx_2 my) (sx_2 mx) (ss_2 mx) (Nat.le_of_ble_eq_true rfl) (Nat.le_of_ble_eq_true rfl) (by decide) (by decide) (by decide) dX5_copy_30 (fun s2 H9 locs9 fs2 es2 gs2 hP9 hD9 hS9 => ?_)
  clear hP hD hS
  have hS := hS9
  have hP := hP9
  have hD := hD9
  clear hP9 hD9 hS9
  have hBs2 : CB s2 := by rw [es2]; exact cb_sw hBs1 (by rw [kx_2 mx]; trivial)
  have hFs2 : FR [(x + 1), (x + 2), (x + 3), (x + 4), (x + 5)] st s2 := fr_sw hFs1 (List.mem_of_getElem? (i := 1) rfl) es2
  refine lv_aload_n hx hb dX5_copy_33 rfl (lv_at hl 1 rfl) ?_
  refine va_get (D := D) (ci := 5) (v := .ref (a (y + 3))) (C := RX5) (T := TX5) (N := 5) hx hb hT in_X5 hown hK hP y (sx_0 my) rfl 2 (by decide) (hT _ t172) (fun _ h9 => h9) rfl dX5_copy_34 ?_
  refine lv_iconst (v := 0) hx hb dX5_copy_37 (by decide) ?_
  refine lv_aload_n hx hb dX5_copy_38 rfl (lv_at hl 0 rfl) ?_
  refine va_get (D := D) (ci := 5) (v := .ref (a (x + 3))) (C := RX5) (T := TX5) (N := 5) hx hb hT in_X5 hown hK hP x (sx_0 mx) rfl 2 (by decide) (hT _ t172) (fun _ h9 => h9) rfl dX5_copy_39 ?_
  refine lv_iconst (v := 0) hx hb dX5_copy_42 (by decide) ?_
  refine lv_bipush (v := 8) hx hb dX5_copy_43 (by decide) ?_
  refine c_cpy hx hb (hml.trans hl.1.symm) hown (hT _ t691) (hT _ t686) (hT _ t685) (hT _ t121) hK hP hD hS (sx_3 my) (sx_3 mx) (ss_3 mx) (Nat.le_of_ble_eq_true rfl) (Nat.le_of_ble_eq_true rfl) (by decide) (by decide) (by decide) dX5_copy_45 (fun s3 H9 locs9 fs3 es3 gs3 hP9 hD9 hS9 => ?_)
  clear hP hD hS
  have hS := hS9
  have hP := hP9
  have hD := hD9
  clear hP9 hD9 hS9
  have hBs3 : CB s3 := by rw [es3]; exact cb_sw hBs2 (by rw [kx_3 mx]; trivial)
  have hFs3 : FR [(x + 1), (x + 2), (x + 3), (x + 4), (x + 5)] st s3 := fr_sw hFs2 (List.mem_of_getElem? (i := 2) rfl) es3
  refine lv_aload_n hx hb dX5_copy_48 rfl (lv_at hl 1 rfl) ?_
  refine va_get (D := D) (ci := 5) (v := .ref (a (y + 4))) (C := RX5) (T := TX5) (N := 5) hx hb hT in_X5 hown hK hP y (sx_0 my) rfl 3 (by decide) (hT _ t176) (fun _ h9 => h9) rfl dX5_copy_49 ?_
  refine lv_iconst (v := 0) hx hb dX5_copy_52 (by decide) ?_
  refine lv_aload_n hx hb dX5_copy_53 rfl (lv_at hl 0 rfl) ?_
  refine va_get (D := D) (ci := 5) (v := .ref (a (x + 4))) (C := RX5) (T := TX5) (N := 5) hx hb hT in_X5 hown hK hP x (sx_0 mx) rfl 3 (by decide) (hT _ t176) (fun _ h9 => h9) rfl dX5_copy_54 ?_
  refine lv_iconst (v := 0) hx hb dX5_copy_57 (by decide) ?_
  refine lv_iconst (v := 3) hx hb dX5_copy_58 (by decide) ?_
  refine c_cpy hx hb (hml.trans hl.1.symm) hown (hT _ t691) (hT _ t686) (hT _ t685) (hT _ t121) hK hP hD hS (sx_4 my) (sx_4 mx) (ss_4 mx) (Nat.le_of_ble_eq_true rfl) (Nat.le_of_ble_eq_true rfl) (by decide) (by decide) (by decide) dX5_copy_59 (fun s4 H9 locs9 fs4 es4 gs4 hP9 hD9 hS9 => ?_)
  clear hP hD hS
  have hS := hS9
  have hP := hP9
  have hD := hD9
  clear hP9 hD9 hS9
  have hBs4 : CB s4 := by rw [es4]; exact cb_sw hBs3 (by rw [kx_4 mx]; exact (show KI 2 fs4 from fun j9 h9 => by rw [gs4 j9 h9]; exact (rx_4 my hBs3 h9)))
  have hFs4 : FR [(x + 1), (x + 2), (x + 3), (x + 4), (x + 5)] st s4 := fr_sw hFs3 (List.mem_of_getElem? (i := 3) rfl) es4
  refine lv_aload_n hx hb dX5_copy_62 rfl (lv_at hl 1 rfl) ?_
  refine va_get (D := D) (ci := 5) (v := .ref (a (y + 5))) (C := RX5) (T := TX5) (N := 5) hx hb hT in_X5 hown hK hP y (sx_0 my) rfl 4 (by decide) (hT _ t181) (fun _ h9 => h9) rfl dX5_copy_63 ?_
  refine lv_iconst (v := 0) hx hb dX5_copy_66 (by decide) ?_
  refine lv_aload_n hx hb dX5_copy_67 rfl (lv_at hl 0 rfl) ?_
  refine va_get (D := D) (ci := 5) (v := .ref (a (x + 5))) (C := RX5) (T := TX5) (N := 5) hx hb hT in_X5 hown hK hP x (sx_0 mx) rfl 4 (by decide) (hT _ t181) (fun _ h9 => h9) rfl dX5_copy_68 ?_
  refine lv_iconst (v := 0) hx hb dX5_copy_71 (by decide) ?_
  refine lv_iconst (v := 3) hx hb dX5_copy_72 (by decide) ?_
  refine c_cpy hx hb (hml.trans hl.1.symm) hown (hT _ t691) (hT _ t686) (hT _ t685) (hT _ t121) hK hP hD hS (sx_5 my) (sx_5 mx) (ss_5 mx) (Nat.le_of_ble_eq_true rfl) (Nat.le_of_ble_eq_true rfl) (by decide) (by decide) (by decide) dX5_copy_73 (fun s5 H9 locs9 fs5 es5 gs5 hP9 hD9 hS9 => ?_)
  clear hP hD hS
  have hS := hS9
  have hP := hP9
  have hD := hD9
  clear hP9 hD9 hS9
  have hBs5 : CB s5 := by rw [es5]; exact cb_sw hBs4 (by rw [kx_5 mx]; trivial)
  have hFs5 : FR [(x + 1), (x + 2), (x + 3), (x + 4), (x + 5)] st s5 := fr_sw hFs4 (List.mem_of_getElem? (i := 4) rfl) es5
  rw [hQ]
  exact W.vret hx hb hr (fun t ht hW => ⟨⟨s5, rfl, ⟨hBs5, hFs5, trivial⟩, by rw [ht]; exact hP, va_K.moved hW.alike (hK.sub (tys' := []) [] rfl), by rw [hAe]; exact hD⟩, by rw [hAe]; exact hS.F ht⟩) hS.2.2 dX5_copy_76
set_option maxHeartbeats 4000000 in
set_option maxRecDepth 100000 in
theorem s_X5_clear (l : Launch) (D : va_G) (k : Nat → ClassId) (a : Nat → Nat) (st : CT) (sl : CL) (sz : Nat) (hB : CB st)  : Met l yX5_clear (.code yX5_clear cX5_clear 1 none :: TB) (rmw 2 0 0) (va_Pc [.ref (a 11)] (PW D k sz (CWS k a st sl))) (QV D (S := CT) (fun u => CB u ∧ FR [12, 13, 14, 15, 16] st u ∧ (True)) (fun u => CWS k a u sl) (fun _ => []) (CWS k a st sl) sz) 0 0 (va_A (CWS k a st sl) sz) := by
  refine Met.ofW (cc := cX5_clear) (maxL := 1) (ret := none) (by decide) rfl ?_
  intro p e s m args below meth c s₁ B hml hv
  obtain ⟨rfl, hsz, hP, hK, hD0, hN⟩ := hv
  have hx := B.exec
  have hb := B.bytes
  have hr := B.returns
  have hT : ∀ w9 ∈ TB, w9.before ([.ref (a 11)] : List Value).toArray s = true := fun w9 h => atoms_spec (ws := .code yX5_clear cX5_clear 1 none :: TB) B.pre w9 (List.mem_cons_of_mem _ h)
  have hown : s.vm.findClass RX5 = some m.cls := findClass_of_methodNamed B.named
  have S : CallFix p m c cX5_clear 1 s _ TB RX5 := ⟨hx, hb, hml, hown, hT⟩
  subst hsz
  have hD := hD0.self (sz := s.heap.size)
  generalize hAe : va_A (CWS k a st sl) s.heap.size = A at hD ⊢
  have hA : ∀ q : Nat, s.heap.size ≤ q → A q := fun q h => by rw [← hAe]; exact Or.inr h
  have hS : va_S A s.heap s.heap [] := va_S.rf
  have hl := lv_entry ([.ref (a 11)]) (n := 1) (Nat.le_of_ble_eq_true rfl)
  rw [lg_entry_eq]
  generalize (lg_sl ([.ref (a 11)]) ++ List.replicate (1 - (lg_sl ([.ref (a 11)])).length) Slot.unset).toArray = ls at hl ⊢
  have hl : lv_has ls 1 [(0, .ref (a 11))] := hl
  refine nameQ (fun Q hQ => ?_)
  refine lv_aload_n hx hb dX5_clear_0 rfl (lv_at hl 0 rfl) ?_
  refine va_get (D := D) (ci := 5) (v := .ref (a 12)) (C := RX5) (T := TX5) (N := 5) hx hb hT in_X5 hown hK hP 11 cw_11 rfl 0 (by decide) (hT _ t167) (fun _ h9 => h9) rfl dX5_clear_1 ?_
  refine lv_iconst (v := 0) hx hb dX5_clear_4 (by decide) ?_
  refine c_fil hP hD hS hA cw_12 cs_12 (fun hPc hDc => run_S (mc := 0) (ms := 0) (C := RJ7) (As := [.ref (a 12), .int 0]) (rest := []) S (c_fillI l D k (a 12) 64 _ 0 (by decide) _) (gdC t166) t164 t165 t109 ok_J7_fill_53178 ⟨rfl, rfl, Nat.le_of_ble_eq_true rfl, Nat.le_of_ble_eq_true rfl⟩ (pw_S hK hN hPc hDc) rfl hl.1 rfl (Nat.le_of_ble_eq_true rfl) ⟨Nat.zero_le _, Nat.zero_le _⟩ dX5_clear_5) (fun s1 H9 locs9 fs1 es1 gs1 hP9 hD9 hS9 => ?_)
  clear hP hD hS
  have hS := hS9
  have hP := hP9
  have hD := hD9
  clear hP9 hD9 hS9
  have hBs1 : CB s1 := by rw [es1]; exact cb_sw hB (show KI 1 fs1 from fun j9 h9 => by rw [gs1 j9 h9]; exact (iv_mono (c := 0) (d := 9) (iv_c (by decide) : Iv 0 0 0) (by decide) (by decide)))
  have hFs1 : FR [12, 13, 14, 15, 16] st s1 := fr_sw fr_rf (List.mem_of_getElem? (i := 0) rfl) es1
  refine lv_aload_n hx hb dX5_clear_8 rfl (lv_at hl 0 rfl) ?_
  refine va_get (D := D) (ci := 5) (v := .ref (a 13)) (C := RX5) (T := TX5) (N := 5) hx hb hT in_X5 hown hK hP 11 cw_11 rfl 1 (by decide) (hT _ t168) (fun _ h9 => h9) rfl dX5_clear_9 ?_
  refine lv_iconst (v := 0) hx hb dX5_clear_12 (by decide) ?_
  refine c_fil hP hD hS hA cw_13 cs_13 (fun hPc hDc => run_S (mc := 0) (ms := 0) (C := RJ7) (As := [.ref (a 13), .int 0]) (rest := []) S (c_fillI l D k (a 13) 8 _ 0 (by decide) _) (gdC t166) t164 t165 t109 ok_J7_fill_53178 ⟨rfl, rfl, Nat.le_of_ble_eq_true rfl, Nat.le_of_ble_eq_true rfl⟩ (pw_S hK hN hPc hDc) rfl hl.1 rfl (Nat.le_of_ble_eq_true rfl) ⟨Nat.zero_le _, Nat.zero_le _⟩ dX5_clear_13) (fun s2 H9 locs9 fs2 es2 gs2 hP9 hD9 hS9 => ?_)
  clear hP hD hS
  have hS := hS9
  have hP := hP9
  have hD := hD9
  clear hP9 hD9 hS9
  have hBs2 : CB s2 := by rw [es2]; exact cb_sw hBs1 trivial
  have hFs2 : FR [12, 13, 14, 15, 16] st s2 := fr_sw hFs1 (List.mem_of_getElem? (i := 1) rfl) es2
  refine lv_aload_n hx hb dX5_clear_16 rfl (lv_at hl 0 rfl) ?_
  refine va_get (D := D) (ci := 5) (v := .ref (a 14)) (C := RX5) (T := TX5) (N := 5) hx hb hT in_X5 hown hK hP 11 cw_11 rfl 2 (by decide) (hT _ t172) (fun _ h9 => h9) rfl dX5_clear_17 ?_
  refine lv_iconst (v := (-1)) hx hb dX5_clear_20 (by decide) ?_
  refine c_fil hP hD hS hA cw_14 cs_14 (fun hPc hDc => run_S (mc := 0) (ms := 0) (C := RJ7) (As := [.ref (a 14), .int (-1)]) (rest := []) S (c_fillI l D k (a 14) 8 _ (-1) (by decide) _) (gdC t166) t164 t165 t109 ok_J7_fill_53178 ⟨rfl, rfl, Nat.le_of_ble_eq_true rfl, Nat.le_of_ble_eq_true rfl⟩ (pw_S hK hN hPc hDc) rfl hl.1 rfl (Nat.le_of_ble_eq_true rfl) ⟨Nat.zero_le _, Nat.zero_le _⟩ dX5_clear_21) (fun s3 H9 locs9 fs3 es3 gs3 hP9 hD9 hS9 => ?_)
  clear hP hD hS
  have hS := hS9
  have hP := hP9
  have hD := hD9
  clear hP9 hD9 hS9
  have hBs3 : CB s3 := by rw [es3]; exact cb_sw hBs2 trivial
  have hFs3 : FR [12, 13, 14, 15, 16] st s3 := fr_sw hFs2 (List.mem_of_getElem? (i := 2) rfl) es3
  refine lv_aload_n hx hb dX5_clear_24 rfl (lv_at hl 0 rfl) ?_
  refine va_get (D := D) (ci := 5) (v := .ref (a 15)) (C := RX5) (T := TX5) (N := 5) hx hb hT in_X5 hown hK hP 11 cw_11 rfl 3 (by decide) (hT _ t176) (fun _ h9 => h9) rfl dX5_clear_25 ?_
  refine lv_iconst (v := 0) hx hb dX5_clear_28 (by decide) ?_
  refine c_fil hP hD hS hA cw_15 cs_15 (fun hPc hDc => run_S (mc := 0) (ms := 0) (C := RJ7) (As := [.ref (a 15), .int 0]) (rest := []) S (c_fillI l D k (a 15) 3 _ 0 (by decide) _) (gdC t166) t164 t165 t109 ok_J7_fill_53178 ⟨rfl, rfl, Nat.le_of_ble_eq_true rfl, Nat.le_of_ble_eq_true rfl⟩ (pw_S hK hN hPc hDc) rfl hl.1 rfl (Nat.le_of_ble_eq_true rfl) ⟨Nat.zero_le _, Nat.zero_le _⟩ dX5_clear_29) (fun s4 H9 locs9 fs4 es4 gs4 hP9 hD9 hS9 => ?_)
  clear hP hD hS
  have hS := hS9
  have hP := hP9
  have hD := hD9
  clear hP9 hD9 hS9
  have hBs4 : CB s4 := by rw [es4]; exact cb_sw hBs3 (show KI 2 fs4 from fun j9 h9 => by rw [gs4 j9 h9]; exact (iv_mono (c := 0) (d := 5) (iv_c (by decide) : Iv 0 0 0) (by decide) (by decide)))
  have hFs4 : FR [12, 13, 14, 15, 16] st s4 := fr_sw hFs3 (List.mem_of_getElem? (i := 3) rfl) es4
  refine lv_aload_n hx hb dX5_clear_32 rfl (lv_at hl 0 rfl) ?_
  refine va_get (D := D) (ci := 5) (v := .ref (a 16)) (C := RX5) (T := TX5) (N := 5) hx hb hT in_X5 hown hK hP 11 cw_11 rfl 4 (by decide) (hT _ t181) (fun _ h9 => h9) rfl dX5_clear_33 ?_
  refine lv_iconst (v := 0) hx hb dX5_clear_36 (by decide) ?_
  refine c_fil hP hD hS hA cw_16 cs_16 (fun hPc hDc => run_S (mc := 0) (ms := 0) (C := RJ7) (As := [.ref (a 16), .int 0]) (rest := []) S (c_fillI l D k (a 16) 3 _ 0 (by decide) _) (gdC t166) t164 t165 t109 ok_J7_fill_53178 ⟨rfl, rfl, Nat.le_of_ble_eq_true rfl, Nat.le_of_ble_eq_true rfl⟩ (pw_S hK hN hPc hDc) rfl hl.1 rfl (Nat.le_of_ble_eq_true rfl) ⟨Nat.zero_le _, Nat.zero_le _⟩ dX5_clear_37) (fun s5 H9 locs9 fs5 es5 gs5 hP9 hD9 hS9 => ?_)
  clear hP hD hS
  have hS := hS9
  have hP := hP9
  have hD := hD9
  clear hP9 hD9 hS9
  have hBs5 : CB s5 := by rw [es5]; exact cb_sw hBs4 trivial
  have hFs5 : FR [12, 13, 14, 15, 16] st s5 := fr_sw hFs4 (List.mem_of_getElem? (i := 4) rfl) es5
  rw [hQ]
  exact W.vret hx hb hr (fun t ht hW => ⟨⟨s5, rfl, ⟨hBs5, hFs5, trivial⟩, by rw [ht]; exact hP, va_K.moved hW.alike (hK.sub (tys' := []) [] rfl), by rw [hAe]; exact hD⟩, by rw [hAe]; exact hS.F ht⟩) hS.2.2 dX5_clear_40
