def a_end (x : Int32) : Int32 := if x = 0 then 0 else -1
theorem a_end_n {x : Int32} (h : ¬ x = 0) : -1 = a_end x := by rw [a_end, if_neg h]
theorem a_end_0 {x : Int32} (h0 : ¬ x < 0) (h1 : x ≤ 0) : x = a_end x := by
  have e : x = 0 := Int32.le_antisymm h1 (Int32.not_lt.mp h0)
  rw [a_end, if_pos e, e]
set_option maxHeartbeats 4000000 in
set_option maxRecDepth 100000 in
theorem c_X6_hasRoom0 (l : Launch) (D : va_G) (k : Nat → ClassId) (x0 x1 : Nat) (sz : Nat) : Met l yX6_hasRoom (.code yX6_hasRoom cX6_hasRoom 1 (some .boolean) :: TB) (rmk 1) (va_Pc [.ref x0] (PW D k sz [(x0, .inr (6, [.ref x1, .int 0]))])) (vp_Si (fun r => r = 1)) 0 0 (fun _ => False) := by
  refine Met.ofW (cc := cX6_hasRoom) (maxL := 1) (ret := (some .boolean)) (by decide) rfl ?_
  intro p e s m args below meth c s₁ B hml hv
  obtain ⟨rfl, hsz, hP, hK, hD0, hN⟩ := hv
  have hx := B.exec
  have hb := B.bytes
  have hr := B.returns
  have hT : ∀ w ∈ TB, w.before ([.ref x0] : List Value).toArray s = true := fun w h => atoms_spec (ws := .code yX6_hasRoom cX6_hasRoom 1 (some .boolean) :: TB) B.pre w (List.mem_cons_of_mem _ h)
  have hown : s.vm.findClass RX6 = some m.cls := findClass_of_methodNamed B.named
  have S : CallFix p m c cX6_hasRoom 1 s _ TB RX6 := ⟨hx, hb, hml, hown, hT⟩
  subst hsz
  have hD := hD0.self (sz := s.heap.size)
  have hP : va_P D vwCl [(x0, .inr (6, [.ref x1, .int 0]))] s.heap := hP
  have hl := lv_entry ([.ref x0]) (n := 1) (Nat.le_of_ble_eq_true rfl)
  rw [lg_entry_eq]
  generalize (lg_sl ([.ref x0]) ++ List.replicate (1 - (lg_sl ([.ref x0])).length) Slot.unset).toArray = ls at hl ⊢
  have hl : lv_has ls 1 [(0, .ref x0)] := hl
  refine lv_aload_n hx hb dX6_hasRoom_0 rfl (lv_at hl 0 rfl) ?_
  refine va_get (D := D) (ci := 6) (v := .int 0) (C := RX6) (T := TX6) (N := 2) hx hb hT in_X6 hown hK hP 0 rfl rfl 1 (by decide) (hT _ t144) (fun _ h9 => h9) rfl dX6_hasRoom_1 ?_
  refine lv_bipush (v := 20) hx hb dX6_hasRoom_4 (by decide) ?_
  refine lv_iadd hx hb dX6_hasRoom_6 ?_
  refine k_top (y := 20) (by decide) ?_
  refine lv_sipush (v := 1000) hx hb dX6_hasRoom_7 (by decide) ?_
  refine lv_icmp_gt (tgt := 17) hx hb dX6_hasRoom_10 (by decide) (fun c_1 => ?_) (fun c_1 => ?_)
  · first | exact absurd c_1 (by decide) | exact absurd (by decide) c_1
  refine lv_iconst (v := 1) hx hb dX6_hasRoom_13 (by decide) ?_
  refine lv_goto (tgt := 18) hx hb dX6_hasRoom_14 (by decide) ?_
  exact W.zret (v := 1) (ty := .boolean) hx hb hr rfl (fun t ht hW => ⟨1, rfl, rfl, ht⟩) (fun _ h9 => by cases h9) dX6_hasRoom_18
set_option maxHeartbeats 4000000 in
set_option maxRecDepth 100000 in
theorem c_X6_byteAt0 (l : Launch) (D : va_G) (k : Nat → ClassId) (x0 x1 : Nat) (p0 : Int32) (sz : Nat) : Met l yX6_byteAt (.code yX6_byteAt cX6_byteAt 2 (some .int) :: TB) (rmk 1) (va_Pc [.ref x0, .int p0] (PW D k sz [(x0, .inr (6, [.ref x1, .int 0]))])) (vp_Si (fun r => r = (-1))) 0 0 (fun _ => False) := by
  refine Met.ofW (cc := cX6_byteAt) (maxL := 2) (ret := (some .int)) (by decide) rfl ?_
  intro p e s m args below meth c s₁ B hml hv
  obtain ⟨rfl, hsz, hP, hK, hD0, hN⟩ := hv
  have hx := B.exec
  have hb := B.bytes
  have hr := B.returns
  have hT : ∀ w ∈ TB, w.before ([.ref x0, .int p0] : List Value).toArray s = true := fun w h => atoms_spec (ws := .code yX6_byteAt cX6_byteAt 2 (some .int) :: TB) B.pre w (List.mem_cons_of_mem _ h)
  have hown : s.vm.findClass RX6 = some m.cls := findClass_of_methodNamed B.named
  have S : CallFix p m c cX6_byteAt 2 s _ TB RX6 := ⟨hx, hb, hml, hown, hT⟩
  subst hsz
  have hD := hD0.self (sz := s.heap.size)
  have hP : va_P D vwCl [(x0, .inr (6, [.ref x1, .int 0]))] s.heap := hP
  have hl := lv_entry ([.ref x0, .int p0]) (n := 2) (Nat.le_of_ble_eq_true rfl)
  rw [lg_entry_eq]
  generalize (lg_sl ([.ref x0, .int p0]) ++ List.replicate (2 - (lg_sl ([.ref x0, .int p0])).length) Slot.unset).toArray = ls at hl ⊢
  have hl : lv_has ls 2 [(0, .ref x0), (1, .int p0)] := hl
  refine lv_iload_n hx hb dX6_byteAt_0 rfl (lv_at hl 1 rfl) ?_
  refine lv_if_lt (tgt := 25) hx hb dX6_byteAt_1 (by decide) (fun c_1 => ?_) (fun c_1 => ?_)
  · skip
    refine lv_iconst (v := (-1)) hx hb dX6_byteAt_25 (by decide) ?_
    exact W.iret (v := (-1)) hx hb hr (fun t ht hW => ⟨(-1), rfl, rfl, ht⟩) (fun _ h9 => by cases h9) dX6_byteAt_26
  · skip
    refine lv_iload_n hx hb dX6_byteAt_4 rfl (lv_at hl 1 rfl) ?_
    refine lv_aload_n hx hb dX6_byteAt_5 rfl (lv_at hl 0 rfl) ?_
    refine va_get (D := D) (ci := 6) (v := .int 0) (C := RX6) (T := TX6) (N := 2) hx hb hT in_X6 hown hK hP 0 rfl rfl 1 (by decide) (hT _ t144) (fun _ h9 => h9) rfl dX6_byteAt_6 ?_
    refine lv_icmp_ge (tgt := 25) hx hb dX6_byteAt_9 (by decide) (fun c_2 => ?_) (fun c_2 => ?_)
    · skip
      refine lv_iconst (v := (-1)) hx hb dX6_byteAt_25 (by decide) ?_
      exact W.iret (v := (-1)) hx hb hr (fun t ht hW => ⟨(-1), rfl, rfl, ht⟩) (fun _ h9 => by cases h9) dX6_byteAt_26
    · skip
      exact absurd (i32_nn c_1) c_2
set_option maxHeartbeats 4000000 in
set_option maxRecDepth 100000 in
theorem c_X2_isBlank0 (l : Launch) (D : va_G) (k : Nat → ClassId) (sz : Nat) : Met l yX2_isBlank (.code yX2_isBlank cX2_isBlank 1 (some .boolean) :: TB) (rmk 1) (va_Pc [.int (-1)] (PW D k sz [])) (vp_Si (fun r => r = 0)) 0 0 (fun _ => False) := by
  refine Met.ofW (cc := cX2_isBlank) (maxL := 1) (ret := (some .boolean)) (by decide) rfl ?_
  intro p e s m args below meth c s₁ B hml hv
  obtain ⟨rfl, hsz, hP, hK, hD0, hN⟩ := hv
  have hx := B.exec
  have hb := B.bytes
  have hr := B.returns
  have hT : ∀ w ∈ TB, w.before ([.int (-1)] : List Value).toArray s = true := fun w h => atoms_spec (ws := .code yX2_isBlank cX2_isBlank 1 (some .boolean) :: TB) B.pre w (List.mem_cons_of_mem _ h)
  have hown : s.vm.findClass RX2 = some m.cls := findClass_of_methodNamed B.named
  have S : CallFix p m c cX2_isBlank 1 s _ TB RX2 := ⟨hx, hb, hml, hown, hT⟩
  subst hsz
  have hD := hD0.self (sz := s.heap.size)
  have hP : va_P D vwCl [] s.heap := hP
  have hl := lv_entry ([.int (-1)]) (n := 1) (Nat.le_of_ble_eq_true rfl)
  rw [lg_entry_eq]
  generalize (lg_sl ([.int (-1)]) ++ List.replicate (1 - (lg_sl ([.int (-1)])).length) Slot.unset).toArray = ls at hl ⊢
  have hl : lv_has ls 1 [(0, .int (-1))] := hl
  refine lv_iload_n hx hb dX2_isBlank_0 rfl (lv_at hl 0 rfl) ?_
  refine lv_bipush (v := 32) hx hb dX2_isBlank_1 (by decide) ?_
  refine lv_icmp_eq (tgt := 12) hx hb dX2_isBlank_3 (by decide) (fun c_1 => ?_) (fun c_1 => ?_)
  · first | exact absurd c_1 (by decide) | exact absurd (by decide) c_1
  refine lv_iload_n hx hb dX2_isBlank_6 rfl (lv_at hl 0 rfl) ?_
  refine lv_bipush (v := 10) hx hb dX2_isBlank_7 (by decide) ?_
  refine lv_icmp_ne (tgt := 16) hx hb dX2_isBlank_9 (by decide) (fun c_2 => ?_) (fun c_2 => ?_)
  rotate_left
  · first | exact absurd c_2 (by decide) | exact absurd (by decide) c_2
  refine lv_iconst (v := 0) hx hb dX2_isBlank_16 (by decide) ?_
  exact W.zret (v := 0) (ty := .boolean) hx hb hr rfl (fun t ht hW => ⟨0, rfl, rfl, ht⟩) (fun _ h9 => by cases h9) dX2_isBlank_17
set_option maxHeartbeats 4000000 in
set_option maxRecDepth 100000 in
theorem c_X6_append0 (l : Launch) (D : va_G) (k : Nat → ClassId) (x0 x1 : Nat) (g0 : Nat → Int32) (p0 : Int32) (sz : Nat) : Met l yX6_append (.code yX6_append cX6_append 3 none :: TB) (rmw 1 0 0) (va_Pc [.ref x0, .int p0] (PW D k sz [(x0, .inr (6, [.ref x1, .int 0])), (x1, .inl (k 1, 1000, .inl g0))])) (QV D (S := UT) (fun u => True) (fun u => [(x0, .inr (6, [.ref x1, .int 4])), (x1, .inl (k 1, 1000, .inl (u.2 0)))]) (fun _ => []) [(x0, .inr (6, [.ref x1, .int 0])), (x1, .inl (k 1, 1000, .inl g0))] sz) 0 0 (va_A [(x0, .inr (6, [.ref x1, .int 0])), (x1, .inl (k 1, 1000, .inl g0))] sz) := by
  refine Met.ofW (cc := cX6_append) (maxL := 3) (ret := none) (by decide) rfl ?_
  intro p e s m args below meth c s₁ B hml hv
  obtain ⟨rfl, hsz, hP, hK, hD0, hN⟩ := hv
  have hx := B.exec
  have hb := B.bytes
  have hr := B.returns
  have hT : ∀ w ∈ TB, w.before ([.ref x0, .int p0] : List Value).toArray s = true := fun w h => atoms_spec (ws := .code yX6_append cX6_append 3 none :: TB) B.pre w (List.mem_cons_of_mem _ h)
  have hown : s.vm.findClass RX6 = some m.cls := findClass_of_methodNamed B.named
  have S : CallFix p m c cX6_append 3 s _ TB RX6 := ⟨hx, hb, hml, hown, hT⟩
  subst hsz
  have hD := hD0.self (sz := s.heap.size)
  generalize hAe : va_A [(x0, .inr (6, [.ref x1, .int 0])), (x1, .inl (k 1, 1000, .inl g0))] s.heap.size = A at hD ⊢
  have hA : ∀ q : Nat, s.heap.size ≤ q → A q := fun q h => by rw [← hAe]; exact Or.inr h
  have hS : va_S A s.heap s.heap [] := va_S.rf
  have hP : va_P D vwCl [(x0, .inr (6, [.ref x1, .int 0])), (x1, .inl (k 1, 1000, .inl g0))] s.heap := hP
  have hl := lv_entry ([.ref x0, .int p0]) (n := 3) (Nat.le_of_ble_eq_true rfl)
  rw [lg_entry_eq]
  generalize (lg_sl ([.ref x0, .int p0]) ++ List.replicate (3 - (lg_sl ([.ref x0, .int p0])).length) Slot.unset).toArray = ls at hl ⊢
  have hl : lv_has ls 3 [(0, .ref x0), (1, .int p0)] := hl
  refine lv_bipush (v := 24) hx hb dX6_append_0 (by decide) ?_
  refine lv_istore_n (lv' := [(2, .int 24), (0, .ref x0), (1, .int p0)]) hx hb dX6_append_2 rfl hl (by decide) rfl (fun ls hl => ?_)
  refine lv_iload_n hx hb dX6_append_3 rfl (lv_at hl 0 rfl) ?_
  refine lv_if_lt (tgt := 46) hx hb dX6_append_4 (by decide) (fun c_1 => ?_) (fun c_1 => ?_)
  · first | exact absurd c_1 (by decide) | exact absurd (by decide) c_1
  refine lv_aload_n hx hb dX6_append_7 rfl (lv_at hl 1 rfl) ?_
  refine va_get (D := D) (ci := 6) (v := .int 0) (C := RX6) (T := TX6) (N := 2) hx hb hT in_X6 hown hK hP 0 rfl rfl 1 (by decide) (hT _ t144) (fun _ h9 => h9) rfl dX6_append_8 ?_
  refine lv_sipush (v := 1000) hx hb dX6_append_11 (by decide) ?_
  refine lv_icmp_ge (tgt := 40) hx hb dX6_append_14 (by decide) (fun c_2 => ?_) (fun c_2 => ?_)
  · first | exact absurd c_2 (by decide) | exact absurd (by decide) c_2
  refine lv_aload_n hx hb dX6_append_17 rfl (lv_at hl 1 rfl) ?_
  refine va_get (D := D) (ci := 6) (v := .ref x1) (C := RX6) (T := TX6) (N := 2) hx hb hT in_X6 hown hK hP 0 rfl rfl 0 (by decide) (hT _ t143) (fun _ h9 => h9) rfl dX6_append_18 ?_
  refine lv_aload_n hx hb dX6_append_21 rfl (lv_at hl 1 rfl) ?_
  refine va_get (D := D) (ci := 6) (v := .int 0) (C := RX6) (T := TX6) (N := 2) hx hb hT in_X6 hown hK hP 0 rfl rfl 1 (by decide) (hT _ t144) (fun _ h9 => h9) rfl dX6_append_22 ?_
  refine lv_iload_n hx hb dX6_append_25 rfl (lv_at hl 2 rfl) ?_
  refine lv_iload_n hx hb dX6_append_26 rfl (lv_at hl 0 rfl) ?_
  refine lv_ishr hx hb dX6_append_27 ?_
  refine lv_i2b (v := ((p0 >>> (24 &&& 31)).toInt8.toInt32)) hx hb dX6_append_28 rfl ?_
  refine va_bast hx hb hK hP hD hS 1 1 rfl rfl (by unfold vp_in; decide) dX6_append_29 (fun H locs hP9 hD9 hS9 => ?_)
  clear hP hD hS
  have hS := hS9
  have hP := hP9
  have hD := hD9
  clear hP9 hD9 hS9
  obtain ⟨f29_1, hP9, hD9⟩ : ∃ f29_1 : Nat → Int32, va_P D vwCl [(x0, .inr (6, [.ref x1, .int 0])), (x1, .inl (k 1, 1000, .inl f29_1))] H ∧ va_D A [(x0, .inr (6, [.ref x1, .int 0])), (x1, .inl (k 1, 1000, .inl f29_1))] := ⟨_, hP, hD⟩
  clear hP hD
  have hP := hP9
  have hD := hD9
  clear hP9 hD9
  refine lv_aload_n hx hb dX6_append_30 rfl (lv_at hl 1 rfl) ?_
  refine lv_dup hx hb dX6_append_31 rfl ?_
  refine va_get (D := D) (ci := 6) (v := .int 0) (C := RX6) (T := TX6) (N := 2) hx hb hT in_X6 hown hK hP 0 rfl rfl 1 (by decide) (hT _ t144) (fun _ h9 => h9) rfl dX6_append_32 ?_
  refine lv_iconst (v := 1) hx hb dX6_append_35 (by decide) ?_
  refine lv_iadd hx hb dX6_append_36 ?_
  refine k_top (y := 1) (by decide) ?_
  refine va_put (D := D) (ci := 6) (v := .int 1) (ty := .int) (C := RX6) (T := TX6) (N := 2) hx hb hT in_X6 tyX6 tyX6_ok nmX6 hown hK hP hD hS 0 rfl rfl 1 (by decide) (hT _ t144) (fun _ h9 => h9) rfl (by decide +kernel) rfl rfl (Nat.le_of_ble_eq_true rfl) dX6_append_37 (fun H locs hP9 hD9 hS9 => ?_)
  clear hP hD hS
  have hS := hS9
  have hP := hP9
  have hD := hD9
  clear hP9 hD9 hS9
  replace hP : va_P D vwCl [(x0, .inr (6, [.ref x1, .int 1])), (x1, .inl (k 1, 1000, .inl f29_1))] H := hP
  replace hD : va_D A [(x0, .inr (6, [.ref x1, .int 1])), (x1, .inl (k 1, 1000, .inl f29_1))] := hD
  refine lv_iinc (v := 16) (lv' := [(2, .int 16), (0, .ref x0), (1, .int p0)]) hx hb dX6_append_40 hl (k := 0) rfl (by decide) (by decide) rfl (fun ls hl => ?_)
  refine lv_goto (tgt := 3) hx hb dX6_append_43 (by decide) ?_
  refine lv_iload_n hx hb dX6_append_3 rfl (lv_at hl 0 rfl) ?_
  refine lv_if_lt (tgt := 46) hx hb dX6_append_4 (by decide) (fun c_3 => ?_) (fun c_3 => ?_)
  · first | exact absurd c_3 (by decide) | exact absurd (by decide) c_3
  refine lv_aload_n hx hb dX6_append_7 rfl (lv_at hl 1 rfl) ?_
  refine va_get (D := D) (ci := 6) (v := .int 1) (C := RX6) (T := TX6) (N := 2) hx hb hT in_X6 hown hK hP 0 rfl rfl 1 (by decide) (hT _ t144) (fun _ h9 => h9) rfl dX6_append_8 ?_
  refine lv_sipush (v := 1000) hx hb dX6_append_11 (by decide) ?_
  refine lv_icmp_ge (tgt := 40) hx hb dX6_append_14 (by decide) (fun c_4 => ?_) (fun c_4 => ?_)
  · first | exact absurd c_4 (by decide) | exact absurd (by decide) c_4
  refine lv_aload_n hx hb dX6_append_17 rfl (lv_at hl 1 rfl) ?_
  refine va_get (D := D) (ci := 6) (v := .ref x1) (C := RX6) (T := TX6) (N := 2) hx hb hT in_X6 hown hK hP 0 rfl rfl 0 (by decide) (hT _ t143) (fun _ h9 => h9) rfl dX6_append_18 ?_
  refine lv_aload_n hx hb dX6_append_21 rfl (lv_at hl 1 rfl) ?_
  refine va_get (D := D) (ci := 6) (v := .int 1) (C := RX6) (T := TX6) (N := 2) hx hb hT in_X6 hown hK hP 0 rfl rfl 1 (by decide) (hT _ t144) (fun _ h9 => h9) rfl dX6_append_22 ?_
  refine lv_iload_n hx hb dX6_append_25 rfl (lv_at hl 2 rfl) ?_
  refine lv_iload_n hx hb dX6_append_26 rfl (lv_at hl 0 rfl) ?_
  refine lv_ishr hx hb dX6_append_27 ?_
  refine lv_i2b (v := ((p0 >>> (16 &&& 31)).toInt8.toInt32)) hx hb dX6_append_28 rfl ?_
  refine va_bast hx hb hK hP hD hS 1 1 rfl rfl (by unfold vp_in; decide) dX6_append_29 (fun H locs hP9 hD9 hS9 => ?_)
  clear hP hD hS
  have hS := hS9
  have hP := hP9
  have hD := hD9
  clear hP9 hD9 hS9
  obtain ⟨f29_2, hP9, hD9⟩ : ∃ f29_2 : Nat → Int32, va_P D vwCl [(x0, .inr (6, [.ref x1, .int 1])), (x1, .inl (k 1, 1000, .inl f29_2))] H ∧ va_D A [(x0, .inr (6, [.ref x1, .int 1])), (x1, .inl (k 1, 1000, .inl f29_2))] := ⟨_, hP, hD⟩
  clear hP hD
  have hP := hP9
  have hD := hD9
  clear hP9 hD9
  refine lv_aload_n hx hb dX6_append_30 rfl (lv_at hl 1 rfl) ?_
  refine lv_dup hx hb dX6_append_31 rfl ?_
  refine va_get (D := D) (ci := 6) (v := .int 1) (C := RX6) (T := TX6) (N := 2) hx hb hT in_X6 hown hK hP 0 rfl rfl 1 (by decide) (hT _ t144) (fun _ h9 => h9) rfl dX6_append_32 ?_
  refine lv_iconst (v := 1) hx hb dX6_append_35 (by decide) ?_
  refine lv_iadd hx hb dX6_append_36 ?_
  refine k_top (y := 2) (by decide) ?_
  refine va_put (D := D) (ci := 6) (v := .int 2) (ty := .int) (C := RX6) (T := TX6) (N := 2) hx hb hT in_X6 tyX6 tyX6_ok nmX6 hown hK hP hD hS 0 rfl rfl 1 (by decide) (hT _ t144) (fun _ h9 => h9) rfl (by decide +kernel) rfl rfl (Nat.le_of_ble_eq_true rfl) dX6_append_37 (fun H locs hP9 hD9 hS9 => ?_)
  clear hP hD hS
  have hS := hS9
  have hP := hP9
  have hD := hD9
  clear hP9 hD9 hS9
  replace hP : va_P D vwCl [(x0, .inr (6, [.ref x1, .int 2])), (x1, .inl (k 1, 1000, .inl f29_2))] H := hP
  replace hD : va_D A [(x0, .inr (6, [.ref x1, .int 2])), (x1, .inl (k 1, 1000, .inl f29_2))] := hD
  refine lv_iinc (v := 8) (lv' := [(2, .int 8), (0, .ref x0), (1, .int p0)]) hx hb dX6_append_40 hl (k := 0) rfl (by decide) (by decide) rfl (fun ls hl => ?_)
  refine lv_goto (tgt := 3) hx hb dX6_append_43 (by decide) ?_
  refine lv_iload_n hx hb dX6_append_3 rfl (lv_at hl 0 rfl) ?_
  refine lv_if_lt (tgt := 46) hx hb dX6_append_4 (by decide) (fun c_5 => ?_) (fun c_5 => ?_)
  · first | exact absurd c_5 (by decide) | exact absurd (by decide) c_5
  refine lv_aload_n hx hb dX6_append_7 rfl (lv_at hl 1 rfl) ?_
  refine va_get (D := D) (ci := 6) (v := .int 2) (C := RX6) (T := TX6) (N := 2) hx hb hT in_X6 hown hK hP 0 rfl rfl 1 (by decide) (hT _ t144) (fun _ h9 => h9) rfl dX6_append_8 ?_
  refine lv_sipush (v := 1000) hx hb dX6_append_11 (by decide) ?_
  refine lv_icmp_ge (tgt := 40) hx hb dX6_append_14 (by decide) (fun c_6 => ?_) (fun c_6 => ?_)
  · first | exact absurd c_6 (by decide) | exact absurd (by decide) c_6
  refine lv_aload_n hx hb dX6_append_17 rfl (lv_at hl 1 rfl) ?_
  refine va_get (D := D) (ci := 6) (v := .ref x1) (C := RX6) (T := TX6) (N := 2) hx hb hT in_X6 hown hK hP 0 rfl rfl 0 (by decide) (hT _ t143) (fun _ h9 => h9) rfl dX6_append_18 ?_
  refine lv_aload_n hx hb dX6_append_21 rfl (lv_at hl 1 rfl) ?_
  refine va_get (D := D) (ci := 6) (v := .int 2) (C := RX6) (T := TX6) (N := 2) hx hb hT in_X6 hown hK hP 0 rfl rfl 1 (by decide) (hT _ t144) (fun _ h9 => h9) rfl dX6_append_22 ?_
  refine lv_iload_n hx hb dX6_append_25 rfl (lv_at hl 2 rfl) ?_
  refine lv_iload_n hx hb dX6_append_26 rfl (lv_at hl 0 rfl) ?_
  refine lv_ishr hx hb dX6_append_27 ?_
  refine lv_i2b (v := ((p0 >>> (8 &&& 31)).toInt8.toInt32)) hx hb dX6_append_28 rfl ?_
  refine va_bast hx hb hK hP hD hS 1 1 rfl rfl (by unfold vp_in; decide) dX6_append_29 (fun H locs hP9 hD9 hS9 => ?_)
  clear hP hD hS
  have hS := hS9
  have hP := hP9
  have hD := hD9
  clear hP9 hD9 hS9
  obtain ⟨f29_3, hP9, hD9⟩ : ∃ f29_3 : Nat → Int32, va_P D vwCl [(x0, .inr (6, [.ref x1, .int 2])), (x1, .inl (k 1, 1000, .inl f29_3))] H ∧ va_D A [(x0, .inr (6, [.ref x1, .int 2])), (x1, .inl (k 1, 1000, .inl f29_3))] := ⟨_, hP, hD⟩
  clear hP hD
  have hP := hP9
  have hD := hD9
  clear hP9 hD9
  refine lv_aload_n hx hb dX6_append_30 rfl (lv_at hl 1 rfl) ?_
  refine lv_dup hx hb dX6_append_31 rfl ?_
  refine va_get (D := D) (ci := 6) (v := .int 2) (C := RX6) (T := TX6) (N := 2) hx hb hT in_X6 hown hK hP 0 rfl rfl 1 (by decide) (hT _ t144) (fun _ h9 => h9) rfl dX6_append_32 ?_
  refine lv_iconst (v := 1) hx hb dX6_append_35 (by decide) ?_
  refine lv_iadd hx hb dX6_append_36 ?_
  refine k_top (y := 3) (by decide) ?_
  refine va_put (D := D) (ci := 6) (v := .int 3) (ty := .int) (C := RX6) (T := TX6) (N := 2) hx hb hT in_X6 tyX6 tyX6_ok nmX6 hown hK hP hD hS 0 rfl rfl 1 (by decide) (hT _ t144) (fun _ h9 => h9) rfl (by decide +kernel) rfl rfl (Nat.le_of_ble_eq_true rfl) dX6_append_37 (fun H locs hP9 hD9 hS9 => ?_)
  clear hP hD hS
  have hS := hS9
  have hP := hP9
  have hD := hD9
  clear hP9 hD9 hS9
  replace hP : va_P D vwCl [(x0, .inr (6, [.ref x1, .int 3])), (x1, .inl (k 1, 1000, .inl f29_3))] H := hP
  replace hD : va_D A [(x0, .inr (6, [.ref x1, .int 3])), (x1, .inl (k 1, 1000, .inl f29_3))] := hD
  refine lv_iinc (v := 0) (lv' := [(2, .int 0), (0, .ref x0), (1, .int p0)]) hx hb dX6_append_40 hl (k := 0) rfl (by decide) (by decide) rfl (fun ls hl => ?_)
  refine lv_goto (tgt := 3) hx hb dX6_append_43 (by decide) ?_
  refine lv_iload_n hx hb dX6_append_3 rfl (lv_at hl 0 rfl) ?_
  refine lv_if_lt (tgt := 46) hx hb dX6_append_4 (by decide) (fun c_7 => ?_) (fun c_7 => ?_)
  · first | exact absurd c_7 (by decide) | exact absurd (by decide) c_7
  refine lv_aload_n hx hb dX6_append_7 rfl (lv_at hl 1 rfl) ?_
  refine va_get (D := D) (ci := 6) (v := .int 3) (C := RX6) (T := TX6) (N := 2) hx hb hT in_X6 hown hK hP 0 rfl rfl 1 (by decide) (hT _ t144) (fun _ h9 => h9) rfl dX6_append_8 ?_
  refine lv_sipush (v := 1000) hx hb dX6_append_11 (by decide) ?_
  refine lv_icmp_ge (tgt := 40) hx hb dX6_append_14 (by decide) (fun c_8 => ?_) (fun c_8 => ?_)
  · first | exact absurd c_8 (by decide) | exact absurd (by decide) c_8
  refine lv_aload_n hx hb dX6_append_17 rfl (lv_at hl 1 rfl) ?_
  refine va_get (D := D) (ci := 6) (v := .ref x1) (C := RX6) (T := TX6) (N := 2) hx hb hT in_X6 hown hK hP 0 rfl rfl 0 (by decide) (hT _ t143) (fun _ h9 => h9) rfl dX6_append_18 ?_
  refine lv_aload_n hx hb dX6_append_21 rfl (lv_at hl 1 rfl) ?_
  refine va_get (D := D) (ci := 6) (v := .int 3) (C := RX6) (T := TX6) (N := 2) hx hb hT in_X6 hown hK hP 0 rfl rfl 1 (by decide) (hT _ t144) (fun _ h9 => h9) rfl dX6_append_22 ?_
  refine lv_iload_n hx hb dX6_append_25 rfl (lv_at hl 2 rfl) ?_
  refine lv_iload_n hx hb dX6_append_26 rfl (lv_at hl 0 rfl) ?_
  refine lv_ishr hx hb dX6_append_27 ?_
  refine lv_i2b (v := ((p0 >>> (0 &&& 31)).toInt8.toInt32)) hx hb dX6_append_28 rfl ?_
  refine va_bast hx hb hK hP hD hS 1 1 rfl rfl (by unfold vp_in; decide) dX6_append_29 (fun H locs hP9 hD9 hS9 => ?_)
  clear hP hD hS
  have hS := hS9
  have hP := hP9
  have hD := hD9
  clear hP9 hD9 hS9
  obtain ⟨f29_4, hP9, hD9⟩ : ∃ f29_4 : Nat → Int32, va_P D vwCl [(x0, .inr (6, [.ref x1, .int 3])), (x1, .inl (k 1, 1000, .inl f29_4))] H ∧ va_D A [(x0, .inr (6, [.ref x1, .int 3])), (x1, .inl (k 1, 1000, .inl f29_4))] := ⟨_, hP, hD⟩
  clear hP hD
  have hP := hP9
  have hD := hD9
  clear hP9 hD9
  refine lv_aload_n hx hb dX6_append_30 rfl (lv_at hl 1 rfl) ?_
  refine lv_dup hx hb dX6_append_31 rfl ?_
  refine va_get (D := D) (ci := 6) (v := .int 3) (C := RX6) (T := TX6) (N := 2) hx hb hT in_X6 hown hK hP 0 rfl rfl 1 (by decide) (hT _ t144) (fun _ h9 => h9) rfl dX6_append_32 ?_
  refine lv_iconst (v := 1) hx hb dX6_append_35 (by decide) ?_
  refine lv_iadd hx hb dX6_append_36 ?_
  refine k_top (y := 4) (by decide) ?_
  refine va_put (D := D) (ci := 6) (v := .int 4) (ty := .int) (C := RX6) (T := TX6) (N := 2) hx hb hT in_X6 tyX6 tyX6_ok nmX6 hown hK hP hD hS 0 rfl rfl 1 (by decide) (hT _ t144) (fun _ h9 => h9) rfl (by decide +kernel) rfl rfl (Nat.le_of_ble_eq_true rfl) dX6_append_37 (fun H locs hP9 hD9 hS9 => ?_)
  clear hP hD hS
  have hS := hS9
  have hP := hP9
  have hD := hD9
  clear hP9 hD9 hS9
  replace hP : va_P D vwCl [(x0, .inr (6, [.ref x1, .int 4])), (x1, .inl (k 1, 1000, .inl f29_4))] H := hP
  replace hD : va_D A [(x0, .inr (6, [.ref x1, .int 4])), (x1, .inl (k 1, 1000, .inl f29_4))] := hD
  refine lv_iinc (v := (-8)) (lv' := [(2, .int (-8)), (0, .ref x0), (1, .int p0)]) hx hb dX6_append_40 hl (k := 0) rfl (by decide) (by decide) rfl (fun ls hl => ?_)
  refine lv_goto (tgt := 3) hx hb dX6_append_43 (by decide) ?_
  refine lv_iload_n hx hb dX6_append_3 rfl (lv_at hl 0 rfl) ?_
  refine lv_if_lt (tgt := 46) hx hb dX6_append_4 (by decide) (fun c_9 => ?_) (fun c_9 => ?_)
  rotate_left
  · first | exact absurd c_9 (by decide) | exact absurd (by decide) c_9
  have hP9 := hP.sub (ws' := [(x0, .inr (6, [.ref x1, .int 4])), (x1, .inl (k 1, 1000, .inl f29_4))]) [0, 1] rfl
  have hD9 := d_sub (ws' := [(x0, .inr (6, [.ref x1, .int 4])), (x1, .inl (k 1, 1000, .inl f29_4))]) hD [0, 1] (by decide +kernel) rfl
  have hK9 := hK.sub (tys' := []) [] rfl
  exact W.vret hx hb hr (fun t ht hW => ⟨⟨mkU [] [f29_4], rfl, trivial, by rw [ht]; exact hP9, va_K.moved hW.alike hK9, by rw [hAe]; exact hD9⟩, by rw [hAe]; exact hS.F ht⟩) hS.2.2 dX6_append_46
set_option maxHeartbeats 4000000 in
set_option maxRecDepth 100000 in
theorem c_X6_append4 (l : Launch) (D : va_G) (k : Nat → ClassId) (x0 x1 : Nat) (g0 : Nat → Int32) (p0 : Int32) (sz : Nat) : Met l yX6_append (.code yX6_append cX6_append 3 none :: TB) (rmw 1 0 0) (va_Pc [.ref x0, .int p0] (PW D k sz [(x0, .inr (6, [.ref x1, .int 4])), (x1, .inl (k 1, 1000, .inl g0))])) (QV D (S := UT) (fun u => True) (fun u => [(x0, .inr (6, [.ref x1, .int 8])), (x1, .inl (k 1, 1000, .inl (u.2 0)))]) (fun _ => []) [(x0, .inr (6, [.ref x1, .int 4])), (x1, .inl (k 1, 1000, .inl g0))] sz) 0 0 (va_A [(x0, .inr (6, [.ref x1, .int 4])), (x1, .inl (k 1, 1000, .inl g0))] sz) := by
  refine Met.ofW (cc := cX6_append) (maxL := 3) (ret := none) (by decide) rfl ?_
  intro p e s m args below meth c s₁ B hml hv
  obtain ⟨rfl, hsz, hP, hK, hD0, hN⟩ := hv
  have hx := B.exec
  have hb := B.bytes
  have hr := B.returns
  have hT : ∀ w ∈ TB, w.before ([.ref x0, .int p0] : List Value).toArray s = true := fun w h => atoms_spec (ws := .code yX6_append cX6_append 3 none :: TB) B.pre w (List.mem_cons_of_mem _ h)
  have hown : s.vm.findClass RX6 = some m.cls := findClass_of_methodNamed B.named
  have S : CallFix p m c cX6_append 3 s _ TB RX6 := ⟨hx, hb, hml, hown, hT⟩
  subst hsz
  have hD := hD0.self (sz := s.heap.size)
  generalize hAe : va_A [(x0, .inr (6, [.ref x1, .int 4])), (x1, .inl (k 1, 1000, .inl g0))] s.heap.size = A at hD ⊢
  have hA : ∀ q : Nat, s.heap.size ≤ q → A q := fun q h => by rw [← hAe]; exact Or.inr h
  have hS : va_S A s.heap s.heap [] := va_S.rf
  have hP : va_P D vwCl [(x0, .inr (6, [.ref x1, .int 4])), (x1, .inl (k 1, 1000, .inl g0))] s.heap := hP
  have hl := lv_entry ([.ref x0, .int p0]) (n := 3) (Nat.le_of_ble_eq_true rfl)
  rw [lg_entry_eq]
  generalize (lg_sl ([.ref x0, .int p0]) ++ List.replicate (3 - (lg_sl ([.ref x0, .int p0])).length) Slot.unset).toArray = ls at hl ⊢
  have hl : lv_has ls 3 [(0, .ref x0), (1, .int p0)] := hl
  refine lv_bipush (v := 24) hx hb dX6_append_0 (by decide) ?_
  refine lv_istore_n (lv' := [(2, .int 24), (0, .ref x0), (1, .int p0)]) hx hb dX6_append_2 rfl hl (by decide) rfl (fun ls hl => ?_)
  refine lv_iload_n hx hb dX6_append_3 rfl (lv_at hl 0 rfl) ?_
  refine lv_if_lt (tgt := 46) hx hb dX6_append_4 (by decide) (fun c_1 => ?_) (fun c_1 => ?_)
  · first | exact absurd c_1 (by decide) | exact absurd (by decide) c_1
  refine lv_aload_n hx hb dX6_append_7 rfl (lv_at hl 1 rfl) ?_
  refine va_get (D := D) (ci := 6) (v := .int 4) (C := RX6) (T := TX6) (N := 2) hx hb hT in_X6 hown hK hP 0 rfl rfl 1 (by decide) (hT _ t144) (fun _ h9 => h9) rfl dX6_append_8 ?_
  refine lv_sipush (v := 1000) hx hb dX6_append_11 (by decide) ?_
  refine lv_icmp_ge (tgt := 40) hx hb dX6_append_14 (by decide) (fun c_2 => ?_) (fun c_2 => ?_)
  · first | exact absurd c_2 (by decide) | exact absurd (by decide) c_2
  refine lv_aload_n hx hb dX6_append_17 rfl (lv_at hl 1 rfl) ?_
  refine va_get (D := D) (ci := 6) (v := .ref x1) (C := RX6) (T := TX6) (N := 2) hx hb hT in_X6 hown hK hP 0 rfl rfl 0 (by decide) (hT _ t143) (fun _ h9 => h9) rfl dX6_append_18 ?_
  refine lv_aload_n hx hb dX6_append_21 rfl (lv_at hl 1 rfl) ?_
  refine va_get (D := D) (ci := 6) (v := .int 4) (C := RX6) (T := TX6) (N := 2) hx hb hT in_X6 hown hK hP 0 rfl rfl 1 (by decide) (hT _ t144) (fun _ h9 => h9) rfl dX6_append_22 ?_
  refine lv_iload_n hx hb dX6_append_25 rfl (lv_at hl 2 rfl) ?_
  refine lv_iload_n hx hb dX6_append_26 rfl (lv_at hl 0 rfl) ?_
  refine lv_ishr hx hb dX6_append_27 ?_
  refine lv_i2b (v := ((p0 >>> (24 &&& 31)).toInt8.toInt32)) hx hb dX6_append_28 rfl ?_
  refine va_bast hx hb hK hP hD hS 1 1 rfl rfl (by unfold vp_in; decide) dX6_append_29 (fun H locs hP9 hD9 hS9 => ?_)
  clear hP hD hS
  have hS := hS9
  have hP := hP9
  have hD := hD9
  clear hP9 hD9 hS9
  obtain ⟨f29_1, hP9, hD9⟩ : ∃ f29_1 : Nat → Int32, va_P D vwCl [(x0, .inr (6, [.ref x1, .int 4])), (x1, .inl (k 1, 1000, .inl f29_1))] H ∧ va_D A [(x0, .inr (6, [.ref x1, .int 4])), (x1, .inl (k 1, 1000, .inl f29_1))] := ⟨_, hP, hD⟩
  clear hP hD
  have hP := hP9
  have hD := hD9
  clear hP9 hD9
  refine lv_aload_n hx hb dX6_append_30 rfl (lv_at hl 1 rfl) ?_
  refine lv_dup hx hb dX6_append_31 rfl ?_
  refine va_get (D := D) (ci := 6) (v := .int 4) (C := RX6) (T := TX6) (N := 2) hx hb hT in_X6 hown hK hP 0 rfl rfl 1 (by decide) (hT _ t144) (fun _ h9 => h9) rfl dX6_append_32 ?_
  refine lv_iconst (v := 1) hx hb dX6_append_35 (by decide) ?_
  refine lv_iadd hx hb dX6_append_36 ?_
  refine k_top (y := 5) (by decide) ?_
  refine va_put (D := D) (ci := 6) (v := .int 5) (ty := .int) (C := RX6) (T := TX6) (N := 2) hx hb hT in_X6 tyX6 tyX6_ok nmX6 hown hK hP hD hS 0 rfl rfl 1 (by decide) (hT _ t144) (fun _ h9 => h9) rfl (by decide +kernel) rfl rfl (Nat.le_of_ble_eq_true rfl) dX6_append_37 (fun H locs hP9 hD9 hS9 => ?_)
  clear hP hD hS
  have hS := hS9
  have hP := hP9
  have hD := hD9
  clear hP9 hD9 hS9
  replace hP : va_P D vwCl [(x0, .inr (6, [.ref x1, .int 5])), (x1, .inl (k 1, 1000, .inl f29_1))] H := hP
  replace hD : va_D A [(x0, .inr (6, [.ref x1, .int 5])), (x1, .inl (k 1, 1000, .inl f29_1))] := hD
  refine lv_iinc (v := 16) (lv' := [(2, .int 16), (0, .ref x0), (1, .int p0)]) hx hb dX6_append_40 hl (k := 0) rfl (by decide) (by decide) rfl (fun ls hl => ?_)
  refine lv_goto (tgt := 3) hx hb dX6_append_43 (by decide) ?_
  refine lv_iload_n hx hb dX6_append_3 rfl (lv_at hl 0 rfl) ?_
  refine lv_if_lt (tgt := 46) hx hb dX6_append_4 (by decide) (fun c_3 => ?_) (fun c_3 => ?_)
  · first | exact absurd c_3 (by decide) | exact absurd (by decide) c_3
  refine lv_aload_n hx hb dX6_append_7 rfl (lv_at hl 1 rfl) ?_
  refine va_get (D := D) (ci := 6) (v := .int 5) (C := RX6) (T := TX6) (N := 2) hx hb hT in_X6 hown hK hP 0 rfl rfl 1 (by decide) (hT _ t144) (fun _ h9 => h9) rfl dX6_append_8 ?_
  refine lv_sipush (v := 1000) hx hb dX6_append_11 (by decide) ?_
  refine lv_icmp_ge (tgt := 40) hx hb dX6_append_14 (by decide) (fun c_4 => ?_) (fun c_4 => ?_)
  · first | exact absurd c_4 (by decide) | exact absurd (by decide) c_4
  refine lv_aload_n hx hb dX6_append_17 rfl (lv_at hl 1 rfl) ?_
  refine va_get (D := D) (ci := 6) (v := .ref x1) (C := RX6) (T := TX6) (N := 2) hx hb hT in_X6 hown hK hP 0 rfl rfl 0 (by decide) (hT _ t143) (fun _ h9 => h9) rfl dX6_append_18 ?_
  refine lv_aload_n hx hb dX6_append_21 rfl (lv_at hl 1 rfl) ?_
  refine va_get (D := D) (ci := 6) (v := .int 5) (C := RX6) (T := TX6) (N := 2) hx hb hT in_X6 hown hK hP 0 rfl rfl 1 (by decide) (hT _ t144) (fun _ h9 => h9) rfl dX6_append_22 ?_
  refine lv_iload_n hx hb dX6_append_25 rfl (lv_at hl 2 rfl) ?_
  refine lv_iload_n hx hb dX6_append_26 rfl (lv_at hl 0 rfl) ?_
  refine lv_ishr hx hb dX6_append_27 ?_
  refine lv_i2b (v := ((p0 >>> (16 &&& 31)).toInt8.toInt32)) hx hb dX6_append_28 rfl ?_
  refine va_bast hx hb hK hP hD hS 1 1 rfl rfl (by unfold vp_in; decide) dX6_append_29 (fun H locs hP9 hD9 hS9 => ?_)
  clear hP hD hS
  have hS := hS9
  have hP := hP9
  have hD := hD9
  clear hP9 hD9 hS9
  obtain ⟨f29_2, hP9, hD9⟩ : ∃ f29_2 : Nat → Int32, va_P D vwCl [(x0, .inr (6, [.ref x1, .int 5])), (x1, .inl (k 1, 1000, .inl f29_2))] H ∧ va_D A [(x0, .inr (6, [.ref x1, .int 5])), (x1, .inl (k 1, 1000, .inl f29_2))] := ⟨_, hP, hD⟩
  clear hP hD
  have hP := hP9
  have hD := hD9
  clear hP9 hD9
  refine lv_aload_n hx hb dX6_append_30 rfl (lv_at hl 1 rfl) ?_
  refine lv_dup hx hb dX6_append_31 rfl ?_
  refine va_get (D := D) (ci := 6) (v := .int 5) (C := RX6) (T := TX6) (N := 2) hx hb hT in_X6 hown hK hP 0 rfl rfl 1 (by decide) (hT _ t144) (fun _ h9 => h9) rfl dX6_append_32 ?_
  refine lv_iconst (v := 1) hx hb dX6_append_35 (by decide) ?_
  refine lv_iadd hx hb dX6_append_36 ?_
  refine k_top (y := 6) (by decide) ?_
  refine va_put (D := D) (ci := 6) (v := .int 6) (ty := .int) (C := RX6) (T := TX6) (N := 2) hx hb hT in_X6 tyX6 tyX6_ok nmX6 hown hK hP hD hS 0 rfl rfl 1 (by decide) (hT _ t144) (fun _ h9 => h9) rfl (by decide +kernel) rfl rfl (Nat.le_of_ble_eq_true rfl) dX6_append_37 (fun H locs hP9 hD9 hS9 => ?_)
  clear hP hD hS
  have hS := hS9
  have hP := hP9
  have hD := hD9
  clear hP9 hD9 hS9
  replace hP : va_P D vwCl [(x0, .inr (6, [.ref x1, .int 6])), (x1, .inl (k 1, 1000, .inl f29_2))] H := hP
  replace hD : va_D A [(x0, .inr (6, [.ref x1, .int 6])), (x1, .inl (k 1, 1000, .inl f29_2))] := hD
  refine lv_iinc (v := 8) (lv' := [(2, .int 8), (0, .ref x0), (1, .int p0)]) hx hb dX6_append_40 hl (k := 0) rfl (by decide) (by decide) rfl (fun ls hl => ?_)
  refine lv_goto (tgt := 3) hx hb dX6_append_43 (by decide) ?_
  refine lv_iload_n hx hb dX6_append_3 rfl (lv_at hl 0 rfl) ?_
  refine lv_if_lt (tgt := 46) hx hb dX6_append_4 (by decide) (fun c_5 => ?_) (fun c_5 => ?_)
  · first | exact absurd c_5 (by decide) | exact absurd (by decide) c_5
  refine lv_aload_n hx hb dX6_append_7 rfl (lv_at hl 1 rfl) ?_
  refine va_get (D := D) (ci := 6) (v := .int 6) (C := RX6) (T := TX6) (N := 2) hx hb hT in_X6 hown hK hP 0 rfl rfl 1 (by decide) (hT _ t144) (fun _ h9 => h9) rfl dX6_append_8 ?_
  refine lv_sipush (v := 1000) hx hb dX6_append_11 (by decide) ?_
  refine lv_icmp_ge (tgt := 40) hx hb dX6_append_14 (by decide) (fun c_6 => ?_) (fun c_6 => ?_)
  · first | exact absurd c_6 (by decide) | exact absurd (by decide) c_6
  refine lv_aload_n hx hb dX6_append_17 rfl (lv_at hl 1 rfl) ?_
  refine va_get (D := D) (ci := 6) (v := .ref x1) (C := RX6) (T := TX6) (N := 2) hx hb hT in_X6 hown hK hP 0 rfl rfl 0 (by decide) (hT _ t143) (fun _ h9 => h9) rfl dX6_append_18 ?_
  refine lv_aload_n hx hb dX6_append_21 rfl (lv_at hl 1 rfl) ?_
  refine va_get (D := D) (ci := 6) (v := .int 6) (C := RX6) (T := TX6) (N := 2) hx hb hT in_X6 hown hK hP 0 rfl rfl 1 (by decide) (hT _ t144) (fun _ h9 => h9) rfl dX6_append_22 ?_
  refine lv_iload_n hx hb dX6_append_25 rfl (lv_at hl 2 rfl) ?_
  refine lv_iload_n hx hb dX6_append_26 rfl (lv_at hl 0 rfl) ?_
  refine lv_ishr hx hb dX6_append_27 ?_
  refine lv_i2b (v := ((p0 >>> (8 &&& 31)).toInt8.toInt32)) hx hb dX6_append_28 rfl ?_
  refine va_bast hx hb hK hP hD hS 1 1 rfl rfl (by unfold vp_in; decide) dX6_append_29 (fun H locs hP9 hD9 hS9 => ?_)
  clear hP hD hS
  have hS := hS9
  have hP := hP9
  have hD := hD9
  clear hP9 hD9 hS9
  obtain ⟨f29_3, hP9, hD9⟩ : ∃ f29_3 : Nat → Int32, va_P D vwCl [(x0, .inr (6, [.ref x1, .int 6])), (x1, .inl (k 1, 1000, .inl f29_3))] H ∧ va_D A [(x0, .inr (6, [.ref x1, .int 6])), (x1, .inl (k 1, 1000, .inl f29_3))] := ⟨_, hP, hD⟩
  clear hP hD
  have hP := hP9
  have hD := hD9
  clear hP9 hD9
  refine lv_aload_n hx hb dX6_append_30 rfl (lv_at hl 1 rfl) ?_
  refine lv_dup hx hb dX6_append_31 rfl ?_
  refine va_get (D := D) (ci := 6) (v := .int 6) (C := RX6) (T := TX6) (N := 2) hx hb hT in_X6 hown hK hP 0 rfl rfl 1 (by decide) (hT _ t144) (fun _ h9 => h9) rfl dX6_append_32 ?_
  refine lv_iconst (v := 1) hx hb dX6_append_35 (by decide) ?_
  refine lv_iadd hx hb dX6_append_36 ?_
  refine k_top (y := 7) (by decide) ?_
  refine va_put (D := D) (ci := 6) (v := .int 7) (ty := .int) (C := RX6) (T := TX6) (N := 2) hx hb hT in_X6 tyX6 tyX6_ok nmX6 hown hK hP hD hS 0 rfl rfl 1 (by decide) (hT _ t144) (fun _ h9 => h9) rfl (by decide +kernel) rfl rfl (Nat.le_of_ble_eq_true rfl) dX6_append_37 (fun H locs hP9 hD9 hS9 => ?_)
  clear hP hD hS
  have hS := hS9
  have hP := hP9
  have hD := hD9
  clear hP9 hD9 hS9
  replace hP : va_P D vwCl [(x0, .inr (6, [.ref x1, .int 7])), (x1, .inl (k 1, 1000, .inl f29_3))] H := hP
  replace hD : va_D A [(x0, .inr (6, [.ref x1, .int 7])), (x1, .inl (k 1, 1000, .inl f29_3))] := hD
  refine lv_iinc (v := 0) (lv' := [(2, .int 0), (0, .ref x0), (1, .int p0)]) hx hb dX6_append_40 hl (k := 0) rfl (by decide) (by decide) rfl (fun ls hl => ?_)
  refine lv_goto (tgt := 3) hx hb dX6_append_43 (by decide) ?_
  refine lv_iload_n hx hb dX6_append_3 rfl (lv_at hl 0 rfl) ?_
  refine lv_if_lt (tgt := 46) hx hb dX6_append_4 (by decide) (fun c_7 => ?_) (fun c_7 => ?_)
  · first | exact absurd c_7 (by decide) | exact absurd (by decide) c_7
  refine lv_aload_n hx hb dX6_append_7 rfl (lv_at hl 1 rfl) ?_
  refine va_get (D := D) (ci := 6) (v := .int 7) (C := RX6) (T := TX6) (N := 2) hx hb hT in_X6 hown hK hP 0 rfl rfl 1 (by decide) (hT _ t144) (fun _ h9 => h9) rfl dX6_append_8 ?_
  refine lv_sipush (v := 1000) hx hb dX6_append_11 (by decide) ?_
  refine lv_icmp_ge (tgt := 40) hx hb dX6_append_14 (by decide) (fun c_8 => ?_) (fun c_8 => ?_)
  · first | exact absurd c_8 (by decide) | exact absurd (by decide) c_8
  refine lv_aload_n hx hb dX6_append_17 rfl (lv_at hl 1 rfl) ?_
  refine va_get (D := D) (ci := 6) (v := .ref x1) (C := RX6) (T := TX6) (N := 2) hx hb hT in_X6 hown hK hP 0 rfl rfl 0 (by decide) (hT _ t143) (fun _ h9 => h9) rfl dX6_append_18 ?_
  refine lv_aload_n hx hb dX6_append_21 rfl (lv_at hl 1 rfl) ?_
  refine va_get (D := D) (ci := 6) (v := .int 7) (C := RX6) (T := TX6) (N := 2) hx hb hT in_X6 hown hK hP 0 rfl rfl 1 (by decide) (hT _ t144) (fun _ h9 => h9) rfl dX6_append_22 ?_
  refine lv_iload_n hx hb dX6_append_25 rfl (lv_at hl 2 rfl) ?_
  refine lv_iload_n hx hb dX6_append_26 rfl (lv_at hl 0 rfl) ?_
  refine lv_ishr hx hb dX6_append_27 ?_
  refine lv_i2b (v := ((p0 >>> (0 &&& 31)).toInt8.toInt32)) hx hb dX6_append_28 rfl ?_
  refine va_bast hx hb hK hP hD hS 1 1 rfl rfl (by unfold vp_in; decide) dX6_append_29 (fun H locs hP9 hD9 hS9 => ?_)
  clear hP hD hS
  have hS := hS9
  have hP := hP9
  have hD := hD9
  clear hP9 hD9 hS9
  obtain ⟨f29_4, hP9, hD9⟩ : ∃ f29_4 : Nat → Int32, va_P D vwCl [(x0, .inr (6, [.ref x1, .int 7])), (x1, .inl (k 1, 1000, .inl f29_4))] H ∧ va_D A [(x0, .inr (6, [.ref x1, .int 7])), (x1, .inl (k 1, 1000, .inl f29_4))] := ⟨_, hP, hD⟩
  clear hP hD
  have hP := hP9
  have hD := hD9
  clear hP9 hD9
  refine lv_aload_n hx hb dX6_append_30 rfl (lv_at hl 1 rfl) ?_
  refine lv_dup hx hb dX6_append_31 rfl ?_
  refine va_get (D := D) (ci := 6) (v := .int 7) (C := RX6) (T := TX6) (N := 2) hx hb hT in_X6 hown hK hP 0 rfl rfl 1 (by decide) (hT _ t144) (fun _ h9 => h9) rfl dX6_append_32 ?_
  refine lv_iconst (v := 1) hx hb dX6_append_35 (by decide) ?_
  refine lv_iadd hx hb dX6_append_36 ?_
  refine k_top (y := 8) (by decide) ?_
  refine va_put (D := D) (ci := 6) (v := .int 8) (ty := .int) (C := RX6) (T := TX6) (N := 2) hx hb hT in_X6 tyX6 tyX6_ok nmX6 hown hK hP hD hS 0 rfl rfl 1 (by decide) (hT _ t144) (fun _ h9 => h9) rfl (by decide +kernel) rfl rfl (Nat.le_of_ble_eq_true rfl) dX6_append_37 (fun H locs hP9 hD9 hS9 => ?_)
  clear hP hD hS
  have hS := hS9
  have hP := hP9
  have hD := hD9
  clear hP9 hD9 hS9
  replace hP : va_P D vwCl [(x0, .inr (6, [.ref x1, .int 8])), (x1, .inl (k 1, 1000, .inl f29_4))] H := hP
  replace hD : va_D A [(x0, .inr (6, [.ref x1, .int 8])), (x1, .inl (k 1, 1000, .inl f29_4))] := hD
  refine lv_iinc (v := (-8)) (lv' := [(2, .int (-8)), (0, .ref x0), (1, .int p0)]) hx hb dX6_append_40 hl (k := 0) rfl (by decide) (by decide) rfl (fun ls hl => ?_)
  refine lv_goto (tgt := 3) hx hb dX6_append_43 (by decide) ?_
  refine lv_iload_n hx hb dX6_append_3 rfl (lv_at hl 0 rfl) ?_
  refine lv_if_lt (tgt := 46) hx hb dX6_append_4 (by decide) (fun c_9 => ?_) (fun c_9 => ?_)
  rotate_left
  · first | exact absurd c_9 (by decide) | exact absurd (by decide) c_9
  have hP9 := hP.sub (ws' := [(x0, .inr (6, [.ref x1, .int 8])), (x1, .inl (k 1, 1000, .inl f29_4))]) [0, 1] rfl
  have hD9 := d_sub (ws' := [(x0, .inr (6, [.ref x1, .int 8])), (x1, .inl (k 1, 1000, .inl f29_4))]) hD [0, 1] (by decide +kernel) rfl
  have hK9 := hK.sub (tys' := []) [] rfl
  exact W.vret hx hb hr (fun t ht hW => ⟨⟨mkU [] [f29_4], rfl, trivial, by rw [ht]; exact hP9, va_K.moved hW.alike hK9, by rw [hAe]; exact hD9⟩, by rw [hAe]; exact hS.F ht⟩) hS.2.2 dX6_append_46
set_option maxHeartbeats 4000000 in
set_option maxRecDepth 100000 in
theorem c_X6_append8 (l : Launch) (D : va_G) (k : Nat → ClassId) (x0 x1 : Nat) (g0 : Nat → Int32) (p0 : Int32) (sz : Nat) : Met l yX6_append (.code yX6_append cX6_append 3 none :: TB) (rmw 1 0 0) (va_Pc [.ref x0, .int p0] (PW D k sz [(x0, .inr (6, [.ref x1, .int 8])), (x1, .inl (k 1, 1000, .inl g0))])) (QV D (S := UT) (fun u => True) (fun u => [(x0, .inr (6, [.ref x1, .int 12])), (x1, .inl (k 1, 1000, .inl (u.2 0)))]) (fun _ => []) [(x0, .inr (6, [.ref x1, .int 8])), (x1, .inl (k 1, 1000, .inl g0))] sz) 0 0 (va_A [(x0, .inr (6, [.ref x1, .int 8])), (x1, .inl (k 1, 1000, .inl g0))] sz) := by
  refine Met.ofW (cc := cX6_append) (maxL := 3) (ret := none) (by decide) rfl ?_
  intro p e s m args below meth c s₁ B hml hv
  obtain ⟨rfl, hsz, hP, hK, hD0, hN⟩ := hv
  have hx := B.exec
  have hb := B.bytes
  have hr := B.returns
  have hT : ∀ w ∈ TB, w.before ([.ref x0, .int p0] : List Value).toArray s = true := fun w h => atoms_spec (ws := .code yX6_append cX6_append 3 none :: TB) B.pre w (List.mem_cons_of_mem _ h)
  have hown : s.vm.findClass RX6 = some m.cls := findClass_of_methodNamed B.named
  have S : CallFix p m c cX6_append 3 s _ TB RX6 := ⟨hx, hb, hml, hown, hT⟩
  subst hsz
  have hD := hD0.self (sz := s.heap.size)
  generalize hAe : va_A [(x0, .inr (6, [.ref x1, .int 8])), (x1, .inl (k 1, 1000, .inl g0))] s.heap.size = A at hD ⊢
  have hA : ∀ q : Nat, s.heap.size ≤ q → A q := fun q h => by rw [← hAe]; exact Or.inr h
  have hS : va_S A s.heap s.heap [] := va_S.rf
  have hP : va_P D vwCl [(x0, .inr (6, [.ref x1, .int 8])), (x1, .inl (k 1, 1000, .inl g0))] s.heap := hP
  have hl := lv_entry ([.ref x0, .int p0]) (n := 3) (Nat.le_of_ble_eq_true rfl)
  rw [lg_entry_eq]
  generalize (lg_sl ([.ref x0, .int p0]) ++ List.replicate (3 - (lg_sl ([.ref x0, .int p0])).length) Slot.unset).toArray = ls at hl ⊢
  have hl : lv_has ls 3 [(0, .ref x0), (1, .int p0)] := hl
  refine lv_bipush (v := 24) hx hb dX6_append_0 (by decide) ?_
  refine lv_istore_n (lv' := [(2, .int 24), (0, .ref x0), (1, .int p0)]) hx hb dX6_append_2 rfl hl (by decide) rfl (fun ls hl => ?_)
  refine lv_iload_n hx hb dX6_append_3 rfl (lv_at hl 0 rfl) ?_
  refine lv_if_lt (tgt := 46) hx hb dX6_append_4 (by decide) (fun c_1 => ?_) (fun c_1 => ?_)
  · first | exact absurd c_1 (by decide) | exact absurd (by decide) c_1
  refine lv_aload_n hx hb dX6_append_7 rfl (lv_at hl 1 rfl) ?_
  refine va_get (D := D) (ci := 6) (v := .int 8) (C := RX6) (T := TX6) (N := 2) hx hb hT in_X6 hown hK hP 0 rfl rfl 1 (by decide) (hT _ t144) (fun _ h9 => h9) rfl dX6_append_8 ?_
  refine lv_sipush (v := 1000) hx hb dX6_append_11 (by decide) ?_
  refine lv_icmp_ge (tgt := 40) hx hb dX6_append_14 (by decide) (fun c_2 => ?_) (fun c_2 => ?_)
  · first | exact absurd c_2 (by decide) | exact absurd (by decide) c_2
  refine lv_aload_n hx hb dX6_append_17 rfl (lv_at hl 1 rfl) ?_
  refine va_get (D := D) (ci := 6) (v := .ref x1) (C := RX6) (T := TX6) (N := 2) hx hb hT in_X6 hown hK hP 0 rfl rfl 0 (by decide) (hT _ t143) (fun _ h9 => h9) rfl dX6_append_18 ?_
  refine lv_aload_n hx hb dX6_append_21 rfl (lv_at hl 1 rfl) ?_
  refine va_get (D := D) (ci := 6) (v := .int 8) (C := RX6) (T := TX6) (N := 2) hx hb hT in_X6 hown hK hP 0 rfl rfl 1 (by decide) (hT _ t144) (fun _ h9 => h9) rfl dX6_append_22 ?_
  refine lv_iload_n hx hb dX6_append_25 rfl (lv_at hl 2 rfl) ?_
  refine lv_iload_n hx hb dX6_append_26 rfl (lv_at hl 0 rfl) ?_
  refine lv_ishr hx hb dX6_append_27 ?_
  refine lv_i2b (v := ((p0 >>> (24 &&& 31)).toInt8.toInt32)) hx hb dX6_append_28 rfl ?_
  refine va_bast hx hb hK hP hD hS 1 1 rfl rfl (by unfold vp_in; decide) dX6_append_29 (fun H locs hP9 hD9 hS9 => ?_)
  clear hP hD hS
  have hS := hS9
  have hP := hP9
  have hD := hD9
  clear hP9 hD9 hS9
  obtain ⟨f29_1, hP9, hD9⟩ : ∃ f29_1 : Nat → Int32, va_P D vwCl [(x0, .inr (6, [.ref x1, .int 8])), (x1, .inl (k 1, 1000, .inl f29_1))] H ∧ va_D A [(x0, .inr (6, [.ref x1, .int 8])), (x1, .inl (k 1, 1000, .inl f29_1))] := ⟨_, hP, hD⟩
  clear hP hD
  have hP := hP9
  have hD := hD9
  clear hP9 hD9
  refine lv_aload_n hx hb dX6_append_30 rfl (lv_at hl 1 rfl) ?_
  refine lv_dup hx hb dX6_append_31 rfl ?_
  refine va_get (D := D) (ci := 6) (v := .int 8) (C := RX6) (T := TX6) (N := 2) hx hb hT in_X6 hown hK hP 0 rfl rfl 1 (by decide) (hT _ t144) (fun _ h9 => h9) rfl dX6_append_32 ?_
  refine lv_iconst (v := 1) hx hb dX6_append_35 (by decide) ?_
  refine lv_iadd hx hb dX6_append_36 ?_
  refine k_top (y := 9) (by decide) ?_
  refine va_put (D := D) (ci := 6) (v := .int 9) (ty := .int) (C := RX6) (T := TX6) (N := 2) hx hb hT in_X6 tyX6 tyX6_ok nmX6 hown hK hP hD hS 0 rfl rfl 1 (by decide) (hT _ t144) (fun _ h9 => h9) rfl (by decide +kernel) rfl rfl (Nat.le_of_ble_eq_true rfl) dX6_append_37 (fun H locs hP9 hD9 hS9 => ?_)
  clear hP hD hS
  have hS := hS9
  have hP := hP9
  have hD := hD9
  clear hP9 hD9 hS9
  replace hP : va_P D vwCl [(x0, .inr (6, [.ref x1, .int 9])), (x1, .inl (k 1, 1000, .inl f29_1))] H := hP
  replace hD : va_D A [(x0, .inr (6, [.ref x1, .int 9])), (x1, .inl (k 1, 1000, .inl f29_1))] := hD
  refine lv_iinc (v := 16) (lv' := [(2, .int 16), (0, .ref x0), (1, .int p0)]) hx hb dX6_append_40 hl (k := 0) rfl (by decide) (by decide) rfl (fun ls hl => ?_)
  refine lv_goto (tgt := 3) hx hb dX6_append_43 (by decide) ?_
  refine lv_iload_n hx hb dX6_append_3 rfl (lv_at hl 0 rfl) ?_
  refine lv_if_lt (tgt := 46) hx hb dX6_append_4 (by decide) (fun c_3 => ?_) (fun c_3 => ?_)
  · first | exact absurd c_3 (by decide) | exact absurd (by decide) c_3
  refine lv_aload_n hx hb dX6_append_7 rfl (lv_at hl 1 rfl) ?_
  refine va_get (D := D) (ci := 6) (v := .int 9) (C := RX6) (T := TX6) (N := 2) hx hb hT in_X6 hown hK hP 0 rfl rfl 1 (by decide) (hT _ t144) (fun _ h9 => h9) rfl dX6_append_8 ?_
  refine lv_sipush (v := 1000) hx hb dX6_append_11 (by decide) ?_
  refine lv_icmp_ge (tgt := 40) hx hb dX6_append_14 (by decide) (fun c_4 => ?_) (fun c_4 => ?_)
  · first | exact absurd c_4 (by decide) | exact absurd (by decide) c_4
  refine lv_aload_n hx hb dX6_append_17 rfl (lv_at hl 1 rfl) ?_
  refine va_get (D := D) (ci := 6) (v := .ref x1) (C := RX6) (T := TX6) (N := 2) hx hb hT in_X6 hown hK hP 0 rfl rfl 0 (by decide) (hT _ t143) (fun _ h9 => h9) rfl dX6_append_18 ?_
  refine lv_aload_n hx hb dX6_append_21 rfl (lv_at hl 1 rfl) ?_
  refine va_get (D := D) (ci := 6) (v := .int 9) (C := RX6) (T := TX6) (N := 2) hx hb hT in_X6 hown hK hP 0 rfl rfl 1 (by decide) (hT _ t144) (fun _ h9 => h9) rfl dX6_append_22 ?_
  refine lv_iload_n hx hb dX6_append_25 rfl (lv_at hl 2 rfl) ?_
  refine lv_iload_n hx hb dX6_append_26 rfl (lv_at hl 0 rfl) ?_
  refine lv_ishr hx hb dX6_append_27 ?_
  refine lv_i2b (v := ((p0 >>> (16 &&& 31)).toInt8.toInt32)) hx hb dX6_append_28 rfl ?_
  refine va_bast hx hb hK hP hD hS 1 1 rfl rfl (by unfold vp_in; decide) dX6_append_29 (fun H locs hP9 hD9 hS9 => ?_)
  clear hP hD hS
  have hS := hS9
  have hP := hP9
  have hD := hD9
  clear hP9 hD9 hS9
  obtain ⟨f29_2, hP9, hD9⟩ : ∃ f29_2 : Nat → Int32, va_P D vwCl [(x0, .inr (6, [.ref x1, .int 9])), (x1, .inl (k 1, 1000, .inl f29_2))] H ∧ va_D A [(x0, .inr (6, [.ref x1, .int 9])), (x1, .inl (k 1, 1000, .inl f29_2))] := ⟨_, hP, hD⟩
  clear hP hD
  have hP := hP9
  have hD := hD9
  clear hP9 hD9
  refine lv_aload_n hx hb dX6_append_30 rfl (lv_at hl 1 rfl) ?_
  refine lv_dup hx hb dX6_append_31 rfl ?_
  refine va_get (D := D) (ci := 6) (v := .int 9) (C := RX6) (T := TX6) (N := 2) hx hb hT in_X6 hown hK hP 0 rfl rfl 1 (by decide) (hT _ t144) (fun _ h9 => h9) rfl dX6_append_32 ?_
  refine lv_iconst (v := 1) hx hb dX6_append_35 (by decide) ?_
  refine lv_iadd hx hb dX6_append_36 ?_
  refine k_top (y := 10) (by decide) ?_
  refine va_put (D := D) (ci := 6) (v := .int 10) (ty := .int) (C := RX6) (T := TX6) (N := 2) hx hb hT in_X6 tyX6 tyX6_ok nmX6 hown hK hP hD hS 0 rfl rfl 1 (by decide) (hT _ t144) (fun _ h9 => h9) rfl (by decide +kernel) rfl rfl (Nat.le_of_ble_eq_true rfl) dX6_append_37 (fun H locs hP9 hD9 hS9 => ?_)
  clear hP hD hS
  have hS := hS9
  have hP := hP9
  have hD := hD9
  clear hP9 hD9 hS9
  replace hP : va_P D vwCl [(x0, .inr (6, [.ref x1, .int 10])), (x1, .inl (k 1, 1000, .inl f29_2))] H := hP
  replace hD : va_D A [(x0, .inr (6, [.ref x1, .int 10])), (x1, .inl (k 1, 1000, .inl f29_2))] := hD
  refine lv_iinc (v := 8) (lv' := [(2, .int 8), (0, .ref x0), (1, .int p0)]) hx hb dX6_append_40 hl (k := 0) rfl (by decide) (by decide) rfl (fun ls hl => ?_)
  refine lv_goto (tgt := 3) hx hb dX6_append_43 (by decide) ?_
  refine lv_iload_n hx hb dX6_append_3 rfl (lv_at hl 0 rfl) ?_
  refine lv_if_lt (tgt := 46) hx hb dX6_append_4 (by decide) (fun c_5 => ?_) (fun c_5 => ?_)
  · first | exact absurd c_5 (by decide) | exact absurd (by decide) c_5
  refine lv_aload_n hx hb dX6_append_7 rfl (lv_at hl 1 rfl) ?_
  refine va_get (D := D) (ci := 6) (v := .int 10) (C := RX6) (T := TX6) (N := 2) hx hb hT in_X6 hown hK hP 0 rfl rfl 1 (by decide) (hT _ t144) (fun _ h9 => h9) rfl dX6_append_8 ?_
  refine lv_sipush (v := 1000) hx hb dX6_append_11 (by decide) ?_
  refine lv_icmp_ge (tgt := 40) hx hb dX6_append_14 (by decide) (fun c_6 => ?_) (fun c_6 => ?_)
  · first | exact absurd c_6 (by decide) | exact absurd (by decide) c_6
  refine lv_aload_n hx hb dX6_append_17 rfl (lv_at hl 1 rfl) ?_
  refine va_get (D := D) (ci := 6) (v := .ref x1) (C := RX6) (T := TX6) (N := 2) hx hb hT in_X6 hown hK hP 0 rfl rfl 0 (by decide) (hT _ t143) (fun _ h9 => h9) rfl dX6_append_18 ?_
  refine lv_aload_n hx hb dX6_append_21 rfl (lv_at hl 1 rfl) ?_
  refine va_get (D := D) (ci := 6) (v := .int 10) (C := RX6) (T := TX6) (N := 2) hx hb hT in_X6 hown hK hP 0 rfl rfl 1 (by decide) (hT _ t144) (fun _ h9 => h9) rfl dX6_append_22 ?_
  refine lv_iload_n hx hb dX6_append_25 rfl (lv_at hl 2 rfl) ?_
  refine lv_iload_n hx hb dX6_append_26 rfl (lv_at hl 0 rfl) ?_
  refine lv_ishr hx hb dX6_append_27 ?_
  refine lv_i2b (v := ((p0 >>> (8 &&& 31)).toInt8.toInt32)) hx hb dX6_append_28 rfl ?_
  refine va_bast hx hb hK hP hD hS 1 1 rfl rfl (by unfold vp_in; decide) dX6_append_29 (fun H locs hP9 hD9 hS9 => ?_)
  clear hP hD hS
  have hS := hS9
  have hP := hP9
  have hD := hD9
  clear hP9 hD9 hS9
  obtain ⟨f29_3, hP9, hD9⟩ : ∃ f29_3 : Nat → Int32, va_P D vwCl [(x0, .inr (6, [.ref x1, .int 10])), (x1, .inl (k 1, 1000, .inl f29_3))] H ∧ va_D A [(x0, .inr (6, [.ref x1, .int 10])), (x1, .inl (k 1, 1000, .inl f29_3))] := ⟨_, hP, hD⟩
  clear hP hD
  have hP := hP9
  have hD := hD9
  clear hP9 hD9
  refine lv_aload_n hx hb dX6_append_30 rfl (lv_at hl 1 rfl) ?_
  refine lv_dup hx hb dX6_append_31 rfl ?_
  refine va_get (D := D) (ci := 6) (v := .int 10) (C := RX6) (T := TX6) (N := 2) hx hb hT in_X6 hown hK hP 0 rfl rfl 1 (by decide) (hT _ t144) (fun _ h9 => h9) rfl dX6_append_32 ?_
  refine lv_iconst (v := 1) hx hb dX6_append_35 (by decide) ?_
  refine lv_iadd hx hb dX6_append_36 ?_
  refine k_top (y := 11) (by decide) ?_
  refine va_put (D := D) (ci := 6) (v := .int 11) (ty := .int) (C := RX6) (T := TX6) (N := 2) hx hb hT in_X6 tyX6 tyX6_ok nmX6 hown hK hP hD hS 0 rfl rfl 1 (by decide) (hT _ t144) (fun _ h9 => h9) rfl (by decide +kernel) rfl rfl (Nat.le_of_ble_eq_true rfl) dX6_append_37 (fun H locs hP9 hD9 hS9 => ?_)
  clear hP hD hS
  have hS := hS9
  have hP := hP9
  have hD := hD9
  clear hP9 hD9 hS9
  replace hP : va_P D vwCl [(x0, .inr (6, [.ref x1, .int 11])), (x1, .inl (k 1, 1000, .inl f29_3))] H := hP
  replace hD : va_D A [(x0, .inr (6, [.ref x1, .int 11])), (x1, .inl (k 1, 1000, .inl f29_3))] := hD
  refine lv_iinc (v := 0) (lv' := [(2, .int 0), (0, .ref x0), (1, .int p0)]) hx hb dX6_append_40 hl (k := 0) rfl (by decide) (by decide) rfl (fun ls hl => ?_)
  refine lv_goto (tgt := 3) hx hb dX6_append_43 (by decide) ?_
  refine lv_iload_n hx hb dX6_append_3 rfl (lv_at hl 0 rfl) ?_
  refine lv_if_lt (tgt := 46) hx hb dX6_append_4 (by decide) (fun c_7 => ?_) (fun c_7 => ?_)
  · first | exact absurd c_7 (by decide) | exact absurd (by decide) c_7
  refine lv_aload_n hx hb dX6_append_7 rfl (lv_at hl 1 rfl) ?_
  refine va_get (D := D) (ci := 6) (v := .int 11) (C := RX6) (T := TX6) (N := 2) hx hb hT in_X6 hown hK hP 0 rfl rfl 1 (by decide) (hT _ t144) (fun _ h9 => h9) rfl dX6_append_8 ?_
  refine lv_sipush (v := 1000) hx hb dX6_append_11 (by decide) ?_
  refine lv_icmp_ge (tgt := 40) hx hb dX6_append_14 (by decide) (fun c_8 => ?_) (fun c_8 => ?_)
  · first | exact absurd c_8 (by decide) | exact absurd (by decide) c_8
  refine lv_aload_n hx hb dX6_append_17 rfl (lv_at hl 1 rfl) ?_
  refine va_get (D := D) (ci := 6) (v := .ref x1) (C := RX6) (T := TX6) (N := 2) hx hb hT in_X6 hown hK hP 0 rfl rfl 0 (by decide) (hT _ t143) (fun _ h9 => h9) rfl dX6_append_18 ?_
  refine lv_aload_n hx hb dX6_append_21 rfl (lv_at hl 1 rfl) ?_
  refine va_get (D := D) (ci := 6) (v := .int 11) (C := RX6) (T := TX6) (N := 2) hx hb hT in_X6 hown hK hP 0 rfl rfl 1 (by decide) (hT _ t144) (fun _ h9 => h9) rfl dX6_append_22 ?_
  refine lv_iload_n hx hb dX6_append_25 rfl (lv_at hl 2 rfl) ?_
  refine lv_iload_n hx hb dX6_append_26 rfl (lv_at hl 0 rfl) ?_
  refine lv_ishr hx hb dX6_append_27 ?_
  refine lv_i2b (v := ((p0 >>> (0 &&& 31)).toInt8.toInt32)) hx hb dX6_append_28 rfl ?_
  refine va_bast hx hb hK hP hD hS 1 1 rfl rfl (by unfold vp_in; decide) dX6_append_29 (fun H locs hP9 hD9 hS9 => ?_)
  clear hP hD hS
  have hS := hS9
  have hP := hP9
  have hD := hD9
  clear hP9 hD9 hS9
  obtain ⟨f29_4, hP9, hD9⟩ : ∃ f29_4 : Nat → Int32, va_P D vwCl [(x0, .inr (6, [.ref x1, .int 11])), (x1, .inl (k 1, 1000, .inl f29_4))] H ∧ va_D A [(x0, .inr (6, [.ref x1, .int 11])), (x1, .inl (k 1, 1000, .inl f29_4))] := ⟨_, hP, hD⟩
  clear hP hD
  have hP := hP9
  have hD := hD9
  clear hP9 hD9
  refine lv_aload_n hx hb dX6_append_30 rfl (lv_at hl 1 rfl) ?_
  refine lv_dup hx hb dX6_append_31 rfl ?_
  refine va_get (D := D) (ci := 6) (v := .int 11) (C := RX6) (T := TX6) (N := 2) hx hb hT in_X6 hown hK hP 0 rfl rfl 1 (by decide) (hT _ t144) (fun _ h9 => h9) rfl dX6_append_32 ?_
  refine lv_iconst (v := 1) hx hb dX6_append_35 (by decide) ?_
  refine lv_iadd hx hb dX6_append_36 ?_
  refine k_top (y := 12) (by decide) ?_
  refine va_put (D := D) (ci := 6) (v := .int 12) (ty := .int) (C := RX6) (T := TX6) (N := 2) hx hb hT in_X6 tyX6 tyX6_ok nmX6 hown hK hP hD hS 0 rfl rfl 1 (by decide) (hT _ t144) (fun _ h9 => h9) rfl (by decide +kernel) rfl rfl (Nat.le_of_ble_eq_true rfl) dX6_append_37 (fun H locs hP9 hD9 hS9 => ?_)
  clear hP hD hS
  have hS := hS9
  have hP := hP9
  have hD := hD9
  clear hP9 hD9 hS9
  replace hP : va_P D vwCl [(x0, .inr (6, [.ref x1, .int 12])), (x1, .inl (k 1, 1000, .inl f29_4))] H := hP
  replace hD : va_D A [(x0, .inr (6, [.ref x1, .int 12])), (x1, .inl (k 1, 1000, .inl f29_4))] := hD
  refine lv_iinc (v := (-8)) (lv' := [(2, .int (-8)), (0, .ref x0), (1, .int p0)]) hx hb dX6_append_40 hl (k := 0) rfl (by decide) (by decide) rfl (fun ls hl => ?_)
  refine lv_goto (tgt := 3) hx hb dX6_append_43 (by decide) ?_
  refine lv_iload_n hx hb dX6_append_3 rfl (lv_at hl 0 rfl) ?_
  refine lv_if_lt (tgt := 46) hx hb dX6_append_4 (by decide) (fun c_9 => ?_) (fun c_9 => ?_)
  rotate_left
  · first | exact absurd c_9 (by decide) | exact absurd (by decide) c_9
  have hP9 := hP.sub (ws' := [(x0, .inr (6, [.ref x1, .int 12])), (x1, .inl (k 1, 1000, .inl f29_4))]) [0, 1] rfl
  have hD9 := d_sub (ws' := [(x0, .inr (6, [.ref x1, .int 12])), (x1, .inl (k 1, 1000, .inl f29_4))]) hD [0, 1] (by decide +kernel) rfl
  have hK9 := hK.sub (tys' := []) [] rfl
  exact W.vret hx hb hr (fun t ht hW => ⟨⟨mkU [] [f29_4], rfl, trivial, by rw [ht]; exact hP9, va_K.moved hW.alike hK9, by rw [hAe]; exact hD9⟩, by rw [hAe]; exact hS.F ht⟩) hS.2.2 dX6_append_46
set_option maxHeartbeats 4000000 in
set_option maxRecDepth 100000 in
theorem c_X6_append12 (l : Launch) (D : va_G) (k : Nat → ClassId) (x0 x1 : Nat) (g0 : Nat → Int32) (p0 : Int32) (sz : Nat) : Met l yX6_append (.code yX6_append cX6_append 3 none :: TB) (rmw 1 0 0) (va_Pc [.ref x0, .int p0] (PW D k sz [(x0, .inr (6, [.ref x1, .int 12])), (x1, .inl (k 1, 1000, .inl g0))])) (QV D (S := UT) (fun u => True) (fun u => [(x0, .inr (6, [.ref x1, .int 16])), (x1, .inl (k 1, 1000, .inl (u.2 0)))]) (fun _ => []) [(x0, .inr (6, [.ref x1, .int 12])), (x1, .inl (k 1, 1000, .inl g0))] sz) 0 0 (va_A [(x0, .inr (6, [.ref x1, .int 12])), (x1, .inl (k 1, 1000, .inl g0))] sz) := by
  refine Met.ofW (cc := cX6_append) (maxL := 3) (ret := none) (by decide) rfl ?_
  intro p e s m args below meth c s₁ B hml hv
  obtain ⟨rfl, hsz, hP, hK, hD0, hN⟩ := hv
  have hx := B.exec
  have hb := B.bytes
  have hr := B.returns
  have hT : ∀ w ∈ TB, w.before ([.ref x0, .int p0] : List Value).toArray s = true := fun w h => atoms_spec (ws := .code yX6_append cX6_append 3 none :: TB) B.pre w (List.mem_cons_of_mem _ h)
  have hown : s.vm.findClass RX6 = some m.cls := findClass_of_methodNamed B.named
  have S : CallFix p m c cX6_append 3 s _ TB RX6 := ⟨hx, hb, hml, hown, hT⟩
  subst hsz
  have hD := hD0.self (sz := s.heap.size)
  generalize hAe : va_A [(x0, .inr (6, [.ref x1, .int 12])), (x1, .inl (k 1, 1000, .inl g0))] s.heap.size = A at hD ⊢
  have hA : ∀ q : Nat, s.heap.size ≤ q → A q := fun q h => by rw [← hAe]; exact Or.inr h
  have hS : va_S A s.heap s.heap [] := va_S.rf
  have hP : va_P D vwCl [(x0, .inr (6, [.ref x1, .int 12])), (x1, .inl (k 1, 1000, .inl g0))] s.heap := hP
  have hl := lv_entry ([.ref x0, .int p0]) (n := 3) (Nat.le_of_ble_eq_true rfl)
  rw [lg_entry_eq]
  generalize (lg_sl ([.ref x0, .int p0]) ++ List.replicate (3 - (lg_sl ([.ref x0, .int p0])).length) Slot.unset).toArray = ls at hl ⊢
  have hl : lv_has ls 3 [(0, .ref x0), (1, .int p0)] := hl
  refine lv_bipush (v := 24) hx hb dX6_append_0 (by decide) ?_
  refine lv_istore_n (lv' := [(2, .int 24), (0, .ref x0), (1, .int p0)]) hx hb dX6_append_2 rfl hl (by decide) rfl (fun ls hl => ?_)
  refine lv_iload_n hx hb dX6_append_3 rfl (lv_at hl 0 rfl) ?_
  refine lv_if_lt (tgt := 46) hx hb dX6_append_4 (by decide) (fun c_1 => ?_) (fun c_1 => ?_)
  · first | exact absurd c_1 (by decide) | exact absurd (by decide) c_1
  refine lv_aload_n hx hb dX6_append_7 rfl (lv_at hl 1 rfl) ?_
  refine va_get (D := D) (ci := 6) (v := .int 12) (C := RX6) (T := TX6) (N := 2) hx hb hT in_X6 hown hK hP 0 rfl rfl 1 (by decide) (hT _ t144) (fun _ h9 => h9) rfl dX6_append_8 ?_
  refine lv_sipush (v := 1000) hx hb dX6_append_11 (by decide) ?_
  refine lv_icmp_ge (tgt := 40) hx hb dX6_append_14 (by decide) (fun c_2 => ?_) (fun c_2 => ?_)
  · first | exact absurd c_2 (by decide) | exact absurd (by decide) c_2
  refine lv_aload_n hx hb dX6_append_17 rfl (lv_at hl 1 rfl) ?_
  refine va_get (D := D) (ci := 6) (v := .ref x1) (C := RX6) (T := TX6) (N := 2) hx hb hT in_X6 hown hK hP 0 rfl rfl 0 (by decide) (hT _ t143) (fun _ h9 => h9) rfl dX6_append_18 ?_
  refine lv_aload_n hx hb dX6_append_21 rfl (lv_at hl 1 rfl) ?_
  refine va_get (D := D) (ci := 6) (v := .int 12) (C := RX6) (T := TX6) (N := 2) hx hb hT in_X6 hown hK hP 0 rfl rfl 1 (by decide) (hT _ t144) (fun _ h9 => h9) rfl dX6_append_22 ?_
  refine lv_iload_n hx hb dX6_append_25 rfl (lv_at hl 2 rfl) ?_
  refine lv_iload_n hx hb dX6_append_26 rfl (lv_at hl 0 rfl) ?_
  refine lv_ishr hx hb dX6_append_27 ?_
  refine lv_i2b (v := ((p0 >>> (24 &&& 31)).toInt8.toInt32)) hx hb dX6_append_28 rfl ?_
  refine va_bast hx hb hK hP hD hS 1 1 rfl rfl (by unfold vp_in; decide) dX6_append_29 (fun H locs hP9 hD9 hS9 => ?_)
  clear hP hD hS
  have hS := hS9
  have hP := hP9
  have hD := hD9
  clear hP9 hD9 hS9
  obtain ⟨f29_1, hP9, hD9⟩ : ∃ f29_1 : Nat → Int32, va_P D vwCl [(x0, .inr (6, [.ref x1, .int 12])), (x1, .inl (k 1, 1000, .inl f29_1))] H ∧ va_D A [(x0, .inr (6, [.ref x1, .int 12])), (x1, .inl (k 1, 1000, .inl f29_1))] := ⟨_, hP, hD⟩
  clear hP hD
  have hP := hP9
  have hD := hD9
  clear hP9 hD9
  refine lv_aload_n hx hb dX6_append_30 rfl (lv_at hl 1 rfl) ?_
  refine lv_dup hx hb dX6_append_31 rfl ?_
  refine va_get (D := D) (ci := 6) (v := .int 12) (C := RX6) (T := TX6) (N := 2) hx hb hT in_X6 hown hK hP 0 rfl rfl 1 (by decide) (hT _ t144) (fun _ h9 => h9) rfl dX6_append_32 ?_
  refine lv_iconst (v := 1) hx hb dX6_append_35 (by decide) ?_
  refine lv_iadd hx hb dX6_append_36 ?_
  refine k_top (y := 13) (by decide) ?_
  refine va_put (D := D) (ci := 6) (v := .int 13) (ty := .int) (C := RX6) (T := TX6) (N := 2) hx hb hT in_X6 tyX6 tyX6_ok nmX6 hown hK hP hD hS 0 rfl rfl 1 (by decide) (hT _ t144) (fun _ h9 => h9) rfl (by decide +kernel) rfl rfl (Nat.le_of_ble_eq_true rfl) dX6_append_37 (fun H locs hP9 hD9 hS9 => ?_)
  clear hP hD hS
  have hS := hS9
  have hP := hP9
  have hD := hD9
  clear hP9 hD9 hS9
  replace hP : va_P D vwCl [(x0, .inr (6, [.ref x1, .int 13])), (x1, .inl (k 1, 1000, .inl f29_1))] H := hP
  replace hD : va_D A [(x0, .inr (6, [.ref x1, .int 13])), (x1, .inl (k 1, 1000, .inl f29_1))] := hD
  refine lv_iinc (v := 16) (lv' := [(2, .int 16), (0, .ref x0), (1, .int p0)]) hx hb dX6_append_40 hl (k := 0) rfl (by decide) (by decide) rfl (fun ls hl => ?_)
  refine lv_goto (tgt := 3) hx hb dX6_append_43 (by decide) ?_
  refine lv_iload_n hx hb dX6_append_3 rfl (lv_at hl 0 rfl) ?_
  refine lv_if_lt (tgt := 46) hx hb dX6_append_4 (by decide) (fun c_3 => ?_) (fun c_3 => ?_)
  · first | exact absurd c_3 (by decide) | exact absurd (by decide) c_3
  refine lv_aload_n hx hb dX6_append_7 rfl (lv_at hl 1 rfl) ?_
  refine va_get (D := D) (ci := 6) (v := .int 13) (C := RX6) (T := TX6) (N := 2) hx hb hT in_X6 hown hK hP 0 rfl rfl 1 (by decide) (hT _ t144) (fun _ h9 => h9) rfl dX6_append_8 ?_
  refine lv_sipush (v := 1000) hx hb dX6_append_11 (by decide) ?_
  refine lv_icmp_ge (tgt := 40) hx hb dX6_append_14 (by decide) (fun c_4 => ?_) (fun c_4 => ?_)
  · first | exact absurd c_4 (by decide) | exact absurd (by decide) c_4
  refine lv_aload_n hx hb dX6_append_17 rfl (lv_at hl 1 rfl) ?_
  refine va_get (D := D) (ci := 6) (v := .ref x1) (C := RX6) (T := TX6) (N := 2) hx hb hT in_X6 hown hK hP 0 rfl rfl 0 (by decide) (hT _ t143) (fun _ h9 => h9) rfl dX6_append_18 ?_
  refine lv_aload_n hx hb dX6_append_21 rfl (lv_at hl 1 rfl) ?_
  refine va_get (D := D) (ci := 6) (v := .int 13) (C := RX6) (T := TX6) (N := 2) hx hb hT in_X6 hown hK hP 0 rfl rfl 1 (by decide) (hT _ t144) (fun _ h9 => h9) rfl dX6_append_22 ?_
  refine lv_iload_n hx hb dX6_append_25 rfl (lv_at hl 2 rfl) ?_
  refine lv_iload_n hx hb dX6_append_26 rfl (lv_at hl 0 rfl) ?_
  refine lv_ishr hx hb dX6_append_27 ?_
  refine lv_i2b (v := ((p0 >>> (16 &&& 31)).toInt8.toInt32)) hx hb dX6_append_28 rfl ?_
  refine va_bast hx hb hK hP hD hS 1 1 rfl rfl (by unfold vp_in; decide) dX6_append_29 (fun H locs hP9 hD9 hS9 => ?_)
  clear hP hD hS
  have hS := hS9
  have hP := hP9
  have hD := hD9
  clear hP9 hD9 hS9
  obtain ⟨f29_2, hP9, hD9⟩ : ∃ f29_2 : Nat → Int32, va_P D vwCl [(x0, .inr (6, [.ref x1, .int 13])), (x1, .inl (k 1, 1000, .inl f29_2))] H ∧ va_D A [(x0, .inr (6, [.ref x1, .int 13])), (x1, .inl (k 1, 1000, .inl f29_2))] := ⟨_, hP, hD⟩
  clear hP hD
  have hP := hP9
  have hD := hD9
  clear hP9 hD9
  refine lv_aload_n hx hb dX6_append_30 rfl (lv_at hl 1 rfl) ?_
  refine lv_dup hx hb dX6_append_31 rfl ?_
  refine va_get (D := D) (ci := 6) (v := .int 13) (C := RX6) (T := TX6) (N := 2) hx hb hT in_X6 hown hK hP 0 rfl rfl 1 (by decide) (hT _ t144) (fun _ h9 => h9) rfl dX6_append_32 ?_
  refine lv_iconst (v := 1) hx hb dX6_append_35 (by decide) ?_
  refine lv_iadd hx hb dX6_append_36 ?_
  refine k_top (y := 14) (by decide) ?_
  refine va_put (D := D) (ci := 6) (v := .int 14) (ty := .int) (C := RX6) (T := TX6) (N := 2) hx hb hT in_X6 tyX6 tyX6_ok nmX6 hown hK hP hD hS 0 rfl rfl 1 (by decide) (hT _ t144) (fun _ h9 => h9) rfl (by decide +kernel) rfl rfl (Nat.le_of_ble_eq_true rfl) dX6_append_37 (fun H locs hP9 hD9 hS9 => ?_)
  clear hP hD hS
  have hS := hS9
  have hP := hP9
  have hD := hD9
  clear hP9 hD9 hS9
  replace hP : va_P D vwCl [(x0, .inr (6, [.ref x1, .int 14])), (x1, .inl (k 1, 1000, .inl f29_2))] H := hP
  replace hD : va_D A [(x0, .inr (6, [.ref x1, .int 14])), (x1, .inl (k 1, 1000, .inl f29_2))] := hD
  refine lv_iinc (v := 8) (lv' := [(2, .int 8), (0, .ref x0), (1, .int p0)]) hx hb dX6_append_40 hl (k := 0) rfl (by decide) (by decide) rfl (fun ls hl => ?_)
  refine lv_goto (tgt := 3) hx hb dX6_append_43 (by decide) ?_
  refine lv_iload_n hx hb dX6_append_3 rfl (lv_at hl 0 rfl) ?_
  refine lv_if_lt (tgt := 46) hx hb dX6_append_4 (by decide) (fun c_5 => ?_) (fun c_5 => ?_)
  · first | exact absurd c_5 (by decide) | exact absurd (by decide) c_5
  refine lv_aload_n hx hb dX6_append_7 rfl (lv_at hl 1 rfl) ?_
  refine va_get (D := D) (ci := 6) (v := .int 14) (C := RX6) (T := TX6) (N := 2) hx hb hT in_X6 hown hK hP 0 rfl rfl 1 (by decide) (hT _ t144) (fun _ h9 => h9) rfl dX6_append_8 ?_
  refine lv_sipush (v := 1000) hx hb dX6_append_11 (by decide) ?_
  refine lv_icmp_ge (tgt := 40) hx hb dX6_append_14 (by decide) (fun c_6 => ?_) (fun c_6 => ?_)
  · first | exact absurd c_6 (by decide) | exact absurd (by decide) c_6
  refine lv_aload_n hx hb dX6_append_17 rfl (lv_at hl 1 rfl) ?_
  refine va_get (D := D) (ci := 6) (v := .ref x1) (C := RX6) (T := TX6) (N := 2) hx hb hT in_X6 hown hK hP 0 rfl rfl 0 (by decide) (hT _ t143) (fun _ h9 => h9) rfl dX6_append_18 ?_
  refine lv_aload_n hx hb dX6_append_21 rfl (lv_at hl 1 rfl) ?_
  refine va_get (D := D) (ci := 6) (v := .int 14) (C := RX6) (T := TX6) (N := 2) hx hb hT in_X6 hown hK hP 0 rfl rfl 1 (by decide) (hT _ t144) (fun _ h9 => h9) rfl dX6_append_22 ?_
  refine lv_iload_n hx hb dX6_append_25 rfl (lv_at hl 2 rfl) ?_
  refine lv_iload_n hx hb dX6_append_26 rfl (lv_at hl 0 rfl) ?_
  refine lv_ishr hx hb dX6_append_27 ?_
  refine lv_i2b (v := ((p0 >>> (8 &&& 31)).toInt8.toInt32)) hx hb dX6_append_28 rfl ?_
  refine va_bast hx hb hK hP hD hS 1 1 rfl rfl (by unfold vp_in; decide) dX6_append_29 (fun H locs hP9 hD9 hS9 => ?_)
  clear hP hD hS
  have hS := hS9
  have hP := hP9
  have hD := hD9
  clear hP9 hD9 hS9
  obtain ⟨f29_3, hP9, hD9⟩ : ∃ f29_3 : Nat → Int32, va_P D vwCl [(x0, .inr (6, [.ref x1, .int 14])), (x1, .inl (k 1, 1000, .inl f29_3))] H ∧ va_D A [(x0, .inr (6, [.ref x1, .int 14])), (x1, .inl (k 1, 1000, .inl f29_3))] := ⟨_, hP, hD⟩
  clear hP hD
  have hP := hP9
  have hD := hD9
  clear hP9 hD9
  refine lv_aload_n hx hb dX6_append_30 rfl (lv_at hl 1 rfl) ?_
  refine lv_dup hx hb dX6_append_31 rfl ?_
  refine va_get (D := D) (ci := 6) (v := .int 14) (C := RX6) (T := TX6) (N := 2) hx hb hT in_X6 hown hK hP 0 rfl rfl 1 (by decide) (hT _ t144) (fun _ h9 => h9) rfl dX6_append_32 ?_
  refine lv_iconst (v := 1) hx hb dX6_append_35 (by decide) ?_
  refine lv_iadd hx hb dX6_append_36 ?_
  refine k_top (y := 15) (by decide) ?_
  refine va_put (D := D) (ci := 6) (v := .int 15) (ty := .int) (C := RX6) (T := TX6) (N := 2) hx hb hT in_X6 tyX6 tyX6_ok nmX6 hown hK hP hD hS 0 rfl rfl 1 (by decide) (hT _ t144) (fun _ h9 => h9) rfl (by decide +kernel) rfl rfl (Nat.le_of_ble_eq_true rfl) dX6_append_37 (fun H locs hP9 hD9 hS9 => ?_)
  clear hP hD hS
  have hS := hS9
  have hP := hP9
  have hD := hD9
  clear hP9 hD9 hS9
  replace hP : va_P D vwCl [(x0, .inr (6, [.ref x1, .int 15])), (x1, .inl (k 1, 1000, .inl f29_3))] H := hP
  replace hD : va_D A [(x0, .inr (6, [.ref x1, .int 15])), (x1, .inl (k 1, 1000, .inl f29_3))] := hD
  refine lv_iinc (v := 0) (lv' := [(2, .int 0), (0, .ref x0), (1, .int p0)]) hx hb dX6_append_40 hl (k := 0) rfl (by decide) (by decide) rfl (fun ls hl => ?_)
  refine lv_goto (tgt := 3) hx hb dX6_append_43 (by decide) ?_
  refine lv_iload_n hx hb dX6_append_3 rfl (lv_at hl 0 rfl) ?_
  refine lv_if_lt (tgt := 46) hx hb dX6_append_4 (by decide) (fun c_7 => ?_) (fun c_7 => ?_)
  · first | exact absurd c_7 (by decide) | exact absurd (by decide) c_7
  refine lv_aload_n hx hb dX6_append_7 rfl (lv_at hl 1 rfl) ?_
  refine va_get (D := D) (ci := 6) (v := .int 15) (C := RX6) (T := TX6) (N := 2) hx hb hT in_X6 hown hK hP 0 rfl rfl 1 (by decide) (hT _ t144) (fun _ h9 => h9) rfl dX6_append_8 ?_
  refine lv_sipush (v := 1000) hx hb dX6_append_11 (by decide) ?_
  refine lv_icmp_ge (tgt := 40) hx hb dX6_append_14 (by decide) (fun c_8 => ?_) (fun c_8 => ?_)
  · first | exact absurd c_8 (by decide) | exact absurd (by decide) c_8
  refine lv_aload_n hx hb dX6_append_17 rfl (lv_at hl 1 rfl) ?_
  refine va_get (D := D) (ci := 6) (v := .ref x1) (C := RX6) (T := TX6) (N := 2) hx hb hT in_X6 hown hK hP 0 rfl rfl 0 (by decide) (hT _ t143) (fun _ h9 => h9) rfl dX6_append_18 ?_
  refine lv_aload_n hx hb dX6_append_21 rfl (lv_at hl 1 rfl) ?_
  refine va_get (D := D) (ci := 6) (v := .int 15) (C := RX6) (T := TX6) (N := 2) hx hb hT in_X6 hown hK hP 0 rfl rfl 1 (by decide) (hT _ t144) (fun _ h9 => h9) rfl dX6_append_22 ?_
  refine lv_iload_n hx hb dX6_append_25 rfl (lv_at hl 2 rfl) ?_
  refine lv_iload_n hx hb dX6_append_26 rfl (lv_at hl 0 rfl) ?_
  refine lv_ishr hx hb dX6_append_27 ?_
  refine lv_i2b (v := ((p0 >>> (0 &&& 31)).toInt8.toInt32)) hx hb dX6_append_28 rfl ?_
  refine va_bast hx hb hK hP hD hS 1 1 rfl rfl (by unfold vp_in; decide) dX6_append_29 (fun H locs hP9 hD9 hS9 => ?_)
  clear hP hD hS
  have hS := hS9
  have hP := hP9
  have hD := hD9
  clear hP9 hD9 hS9
  obtain ⟨f29_4, hP9, hD9⟩ : ∃ f29_4 : Nat → Int32, va_P D vwCl [(x0, .inr (6, [.ref x1, .int 15])), (x1, .inl (k 1, 1000, .inl f29_4))] H ∧ va_D A [(x0, .inr (6, [.ref x1, .int 15])), (x1, .inl (k 1, 1000, .inl f29_4))] := ⟨_, hP, hD⟩
  clear hP hD
  have hP := hP9
  have hD := hD9
  clear hP9 hD9
  refine lv_aload_n hx hb dX6_append_30 rfl (lv_at hl 1 rfl) ?_
  refine lv_dup hx hb dX6_append_31 rfl ?_
  refine va_get (D := D) (ci := 6) (v := .int 15) (C := RX6) (T := TX6) (N := 2) hx hb hT in_X6 hown hK hP 0 rfl rfl 1 (by decide) (hT _ t144) (fun _ h9 => h9) rfl dX6_append_32 ?_
  refine lv_iconst (v := 1) hx hb dX6_append_35 (by decide) ?_
  refine lv_iadd hx hb dX6_append_36 ?_
  refine k_top (y := 16) (by decide) ?_
  refine va_put (D := D) (ci := 6) (v := .int 16) (ty := .int) (C := RX6) (T := TX6) (N := 2) hx hb hT in_X6 tyX6 tyX6_ok nmX6 hown hK hP hD hS 0 rfl rfl 1 (by decide) (hT _ t144) (fun _ h9 => h9) rfl (by decide +kernel) rfl rfl (Nat.le_of_ble_eq_true rfl) dX6_append_37 (fun H locs hP9 hD9 hS9 => ?_)
  clear hP hD hS
  have hS := hS9
  have hP := hP9
  have hD := hD9
  clear hP9 hD9 hS9
  replace hP : va_P D vwCl [(x0, .inr (6, [.ref x1, .int 16])), (x1, .inl (k 1, 1000, .inl f29_4))] H := hP
  replace hD : va_D A [(x0, .inr (6, [.ref x1, .int 16])), (x1, .inl (k 1, 1000, .inl f29_4))] := hD
  refine lv_iinc (v := (-8)) (lv' := [(2, .int (-8)), (0, .ref x0), (1, .int p0)]) hx hb dX6_append_40 hl (k := 0) rfl (by decide) (by decide) rfl (fun ls hl => ?_)
  refine lv_goto (tgt := 3) hx hb dX6_append_43 (by decide) ?_
  refine lv_iload_n hx hb dX6_append_3 rfl (lv_at hl 0 rfl) ?_
  refine lv_if_lt (tgt := 46) hx hb dX6_append_4 (by decide) (fun c_9 => ?_) (fun c_9 => ?_)
  rotate_left
  · first | exact absurd c_9 (by decide) | exact absurd (by decide) c_9
  have hP9 := hP.sub (ws' := [(x0, .inr (6, [.ref x1, .int 16])), (x1, .inl (k 1, 1000, .inl f29_4))]) [0, 1] rfl
  have hD9 := d_sub (ws' := [(x0, .inr (6, [.ref x1, .int 16])), (x1, .inl (k 1, 1000, .inl f29_4))]) hD [0, 1] (by decide +kernel) rfl
  have hK9 := hK.sub (tys' := []) [] rfl
  exact W.vret hx hb hr (fun t ht hW => ⟨⟨mkU [] [f29_4], rfl, trivial, by rw [ht]; exact hP9, va_K.moved hW.alike hK9, by rw [hAe]; exact hD9⟩, by rw [hAe]; exact hS.F ht⟩) hS.2.2 dX6_append_46
set_option maxHeartbeats 4000000 in
set_option maxRecDepth 100000 in
theorem c_X6_append16 (l : Launch) (D : va_G) (k : Nat → ClassId) (x0 x1 : Nat) (g0 : Nat → Int32) (p0 : Int32) (sz : Nat) : Met l yX6_append (.code yX6_append cX6_append 3 none :: TB) (rmw 1 0 0) (va_Pc [.ref x0, .int p0] (PW D k sz [(x0, .inr (6, [.ref x1, .int 16])), (x1, .inl (k 1, 1000, .inl g0))])) (QV D (S := UT) (fun u => True) (fun u => [(x0, .inr (6, [.ref x1, .int 20])), (x1, .inl (k 1, 1000, .inl (u.2 0)))]) (fun _ => []) [(x0, .inr (6, [.ref x1, .int 16])), (x1, .inl (k 1, 1000, .inl g0))] sz) 0 0 (va_A [(x0, .inr (6, [.ref x1, .int 16])), (x1, .inl (k 1, 1000, .inl g0))] sz) := by
  refine Met.ofW (cc := cX6_append) (maxL := 3) (ret := none) (by decide) rfl ?_
  intro p e s m args below meth c s₁ B hml hv
  obtain ⟨rfl, hsz, hP, hK, hD0, hN⟩ := hv
  have hx := B.exec
  have hb := B.bytes
  have hr := B.returns
  have hT : ∀ w ∈ TB, w.before ([.ref x0, .int p0] : List Value).toArray s = true := fun w h => atoms_spec (ws := .code yX6_append cX6_append 3 none :: TB) B.pre w (List.mem_cons_of_mem _ h)
  have hown : s.vm.findClass RX6 = some m.cls := findClass_of_methodNamed B.named
  have S : CallFix p m c cX6_append 3 s _ TB RX6 := ⟨hx, hb, hml, hown, hT⟩
  subst hsz
  have hD := hD0.self (sz := s.heap.size)
  generalize hAe : va_A [(x0, .inr (6, [.ref x1, .int 16])), (x1, .inl (k 1, 1000, .inl g0))] s.heap.size = A at hD ⊢
  have hA : ∀ q : Nat, s.heap.size ≤ q → A q := fun q h => by rw [← hAe]; exact Or.inr h
  have hS : va_S A s.heap s.heap [] := va_S.rf
  have hP : va_P D vwCl [(x0, .inr (6, [.ref x1, .int 16])), (x1, .inl (k 1, 1000, .inl g0))] s.heap := hP
  have hl := lv_entry ([.ref x0, .int p0]) (n := 3) (Nat.le_of_ble_eq_true rfl)
  rw [lg_entry_eq]
  generalize (lg_sl ([.ref x0, .int p0]) ++ List.replicate (3 - (lg_sl ([.ref x0, .int p0])).length) Slot.unset).toArray = ls at hl ⊢
  have hl : lv_has ls 3 [(0, .ref x0), (1, .int p0)] := hl
  refine lv_bipush (v := 24) hx hb dX6_append_0 (by decide) ?_
  refine lv_istore_n (lv' := [(2, .int 24), (0, .ref x0), (1, .int p0)]) hx hb dX6_append_2 rfl hl (by decide) rfl (fun ls hl => ?_)
  refine lv_iload_n hx hb dX6_append_3 rfl (lv_at hl 0 rfl) ?_
  refine lv_if_lt (tgt := 46) hx hb dX6_append_4 (by decide) (fun c_1 => ?_) (fun c_1 => ?_)
  · first | exact absurd c_1 (by decide) | exact absurd (by decide) c_1
  refine lv_aload_n hx hb dX6_append_7 rfl (lv_at hl 1 rfl) ?_
  refine va_get (D := D) (ci := 6) (v := .int 16) (C := RX6) (T := TX6) (N := 2) hx hb hT in_X6 hown hK hP 0 rfl rfl 1 (by decide) (hT _ t144) (fun _ h9 => h9) rfl dX6_append_8 ?_
  refine lv_sipush (v := 1000) hx hb dX6_append_11 (by decide) ?_
  refine lv_icmp_ge (tgt := 40) hx hb dX6_append_14 (by decide) (fun c_2 => ?_) (fun c_2 => ?_)
  · first | exact absurd c_2 (by decide) | exact absurd (by decide) c_2
  refine lv_aload_n hx hb dX6_append_17 rfl (lv_at hl 1 rfl) ?_
  refine va_get (D := D) (ci := 6) (v := .ref x1) (C := RX6) (T := TX6) (N := 2) hx hb hT in_X6 hown hK hP 0 rfl rfl 0 (by decide) (hT _ t143) (fun _ h9 => h9) rfl dX6_append_18 ?_
  refine lv_aload_n hx hb dX6_append_21 rfl (lv_at hl 1 rfl) ?_
  refine va_get (D := D) (ci := 6) (v := .int 16) (C := RX6) (T := TX6) (N := 2) hx hb hT in_X6 hown hK hP 0 rfl rfl 1 (by decide) (hT _ t144) (fun _ h9 => h9) rfl dX6_append_22 ?_
  refine lv_iload_n hx hb dX6_append_25 rfl (lv_at hl 2 rfl) ?_
  refine lv_iload_n hx hb dX6_append_26 rfl (lv_at hl 0 rfl) ?_
  refine lv_ishr hx hb dX6_append_27 ?_
  refine lv_i2b (v := ((p0 >>> (24 &&& 31)).toInt8.toInt32)) hx hb dX6_append_28 rfl ?_
  refine va_bast hx hb hK hP hD hS 1 1 rfl rfl (by unfold vp_in; decide) dX6_append_29 (fun H locs hP9 hD9 hS9 => ?_)
  clear hP hD hS
  have hS := hS9
  have hP := hP9
  have hD := hD9
  clear hP9 hD9 hS9
  obtain ⟨f29_1, hP9, hD9⟩ : ∃ f29_1 : Nat → Int32, va_P D vwCl [(x0, .inr (6, [.ref x1, .int 16])), (x1, .inl (k 1, 1000, .inl f29_1))] H ∧ va_D A [(x0, .inr (6, [.ref x1, .int 16])), (x1, .inl (k 1, 1000, .inl f29_1))] := ⟨_, hP, hD⟩
  clear hP hD
  have hP := hP9
  have hD := hD9
  clear hP9 hD9
  refine lv_aload_n hx hb dX6_append_30 rfl (lv_at hl 1 rfl) ?_
  refine lv_dup hx hb dX6_append_31 rfl ?_
  refine va_get (D := D) (ci := 6) (v := .int 16) (C := RX6) (T := TX6) (N := 2) hx hb hT in_X6 hown hK hP 0 rfl rfl 1 (by decide) (hT _ t144) (fun _ h9 => h9) rfl dX6_append_32 ?_
  refine lv_iconst (v := 1) hx hb dX6_append_35 (by decide) ?_
  refine lv_iadd hx hb dX6_append_36 ?_
  refine k_top (y := 17) (by decide) ?_
  refine va_put (D := D) (ci := 6) (v := .int 17) (ty := .int) (C := RX6) (T := TX6) (N := 2) hx hb hT in_X6 tyX6 tyX6_ok nmX6 hown hK hP hD hS 0 rfl rfl 1 (by decide) (hT _ t144) (fun _ h9 => h9) rfl (by decide +kernel) rfl rfl (Nat.le_of_ble_eq_true rfl) dX6_append_37 (fun H locs hP9 hD9 hS9 => ?_)
  clear hP hD hS
  have hS := hS9
  have hP := hP9
  have hD := hD9
  clear hP9 hD9 hS9
  replace hP : va_P D vwCl [(x0, .inr (6, [.ref x1, .int 17])), (x1, .inl (k 1, 1000, .inl f29_1))] H := hP
  replace hD : va_D A [(x0, .inr (6, [.ref x1, .int 17])), (x1, .inl (k 1, 1000, .inl f29_1))] := hD
  refine lv_iinc (v := 16) (lv' := [(2, .int 16), (0, .ref x0), (1, .int p0)]) hx hb dX6_append_40 hl (k := 0) rfl (by decide) (by decide) rfl (fun ls hl => ?_)
  refine lv_goto (tgt := 3) hx hb dX6_append_43 (by decide) ?_
  refine lv_iload_n hx hb dX6_append_3 rfl (lv_at hl 0 rfl) ?_
  refine lv_if_lt (tgt := 46) hx hb dX6_append_4 (by decide) (fun c_3 => ?_) (fun c_3 => ?_)
  · first | exact absurd c_3 (by decide) | exact absurd (by decide) c_3
  refine lv_aload_n hx hb dX6_append_7 rfl (lv_at hl 1 rfl) ?_
  refine va_get (D := D) (ci := 6) (v := .int 17) (C := RX6) (T := TX6) (N := 2) hx hb hT in_X6 hown hK hP 0 rfl rfl 1 (by decide) (hT _ t144) (fun _ h9 => h9) rfl dX6_append_8 ?_
  refine lv_sipush (v := 1000) hx hb dX6_append_11 (by decide) ?_
  refine lv_icmp_ge (tgt := 40) hx hb dX6_append_14 (by decide) (fun c_4 => ?_) (fun c_4 => ?_)
  · first | exact absurd c_4 (by decide) | exact absurd (by decide) c_4
  refine lv_aload_n hx hb dX6_append_17 rfl (lv_at hl 1 rfl) ?_
  refine va_get (D := D) (ci := 6) (v := .ref x1) (C := RX6) (T := TX6) (N := 2) hx hb hT in_X6 hown hK hP 0 rfl rfl 0 (by decide) (hT _ t143) (fun _ h9 => h9) rfl dX6_append_18 ?_
  refine lv_aload_n hx hb dX6_append_21 rfl (lv_at hl 1 rfl) ?_
  refine va_get (D := D) (ci := 6) (v := .int 17) (C := RX6) (T := TX6) (N := 2) hx hb hT in_X6 hown hK hP 0 rfl rfl 1 (by decide) (hT _ t144) (fun _ h9 => h9) rfl dX6_append_22 ?_
  refine lv_iload_n hx hb dX6_append_25 rfl (lv_at hl 2 rfl) ?_
  refine lv_iload_n hx hb dX6_append_26 rfl (lv_at hl 0 rfl) ?_
  refine lv_ishr hx hb dX6_append_27 ?_
  refine lv_i2b (v := ((p0 >>> (16 &&& 31)).toInt8.toInt32)) hx hb dX6_append_28 rfl ?_
  refine va_bast hx hb hK hP hD hS 1 1 rfl rfl (by unfold vp_in; decide) dX6_append_29 (fun H locs hP9 hD9 hS9 => ?_)
  clear hP hD hS
  have hS := hS9
  have hP := hP9
  have hD := hD9
  clear hP9 hD9 hS9
  obtain ⟨f29_2, hP9, hD9⟩ : ∃ f29_2 : Nat → Int32, va_P D vwCl [(x0, .inr (6, [.ref x1, .int 17])), (x1, .inl (k 1, 1000, .inl f29_2))] H ∧ va_D A [(x0, .inr (6, [.ref x1, .int 17])), (x1, .inl (k 1, 1000, .inl f29_2))] := ⟨_, hP, hD⟩
  clear hP hD
  have hP := hP9
  have hD := hD9
  clear hP9 hD9
  refine lv_aload_n hx hb dX6_append_30 rfl (lv_at hl 1 rfl) ?_
  refine lv_dup hx hb dX6_append_31 rfl ?_
  refine va_get (D := D) (ci := 6) (v := .int 17) (C := RX6) (T := TX6) (N := 2) hx hb hT in_X6 hown hK hP 0 rfl rfl 1 (by decide) (hT _ t144) (fun _ h9 => h9) rfl dX6_append_32 ?_
  refine lv_iconst (v := 1) hx hb dX6_append_35 (by decide) ?_
  refine lv_iadd hx hb dX6_append_36 ?_
  refine k_top (y := 18) (by decide) ?_
  refine va_put (D := D) (ci := 6) (v := .int 18) (ty := .int) (C := RX6) (T := TX6) (N := 2) hx hb hT in_X6 tyX6 tyX6_ok nmX6 hown hK hP hD hS 0 rfl rfl 1 (by decide) (hT _ t144) (fun _ h9 => h9) rfl (by decide +kernel) rfl rfl (Nat.le_of_ble_eq_true rfl) dX6_append_37 (fun H locs hP9 hD9 hS9 => ?_)
  clear hP hD hS
  have hS := hS9
  have hP := hP9
  have hD := hD9
  clear hP9 hD9 hS9
  replace hP : va_P D vwCl [(x0, .inr (6, [.ref x1, .int 18])), (x1, .inl (k 1, 1000, .inl f29_2))] H := hP
  replace hD : va_D A [(x0, .inr (6, [.ref x1, .int 18])), (x1, .inl (k 1, 1000, .inl f29_2))] := hD
  refine lv_iinc (v := 8) (lv' := [(2, .int 8), (0, .ref x0), (1, .int p0)]) hx hb dX6_append_40 hl (k := 0) rfl (by decide) (by decide) rfl (fun ls hl => ?_)
  refine lv_goto (tgt := 3) hx hb dX6_append_43 (by decide) ?_
  refine lv_iload_n hx hb dX6_append_3 rfl (lv_at hl 0 rfl) ?_
  refine lv_if_lt (tgt := 46) hx hb dX6_append_4 (by decide) (fun c_5 => ?_) (fun c_5 => ?_)
  · first | exact absurd c_5 (by decide) | exact absurd (by decide) c_5
  refine lv_aload_n hx hb dX6_append_7 rfl (lv_at hl 1 rfl) ?_
  refine va_get (D := D) (ci := 6) (v := .int 18) (C := RX6) (T := TX6) (N := 2) hx hb hT in_X6 hown hK hP 0 rfl rfl 1 (by decide) (hT _ t144) (fun _ h9 => h9) rfl dX6_append_8 ?_
  refine lv_sipush (v := 1000) hx hb dX6_append_11 (by decide) ?_
  refine lv_icmp_ge (tgt := 40) hx hb dX6_append_14 (by decide) (fun c_6 => ?_) (fun c_6 => ?_)
  · first | exact absurd c_6 (by decide) | exact absurd (by decide) c_6
  refine lv_aload_n hx hb dX6_append_17 rfl (lv_at hl 1 rfl) ?_
  refine va_get (D := D) (ci := 6) (v := .ref x1) (C := RX6) (T := TX6) (N := 2) hx hb hT in_X6 hown hK hP 0 rfl rfl 0 (by decide) (hT _ t143) (fun _ h9 => h9) rfl dX6_append_18 ?_
  refine lv_aload_n hx hb dX6_append_21 rfl (lv_at hl 1 rfl) ?_
  refine va_get (D := D) (ci := 6) (v := .int 18) (C := RX6) (T := TX6) (N := 2) hx hb hT in_X6 hown hK hP 0 rfl rfl 1 (by decide) (hT _ t144) (fun _ h9 => h9) rfl dX6_append_22 ?_
  refine lv_iload_n hx hb dX6_append_25 rfl (lv_at hl 2 rfl) ?_
  refine lv_iload_n hx hb dX6_append_26 rfl (lv_at hl 0 rfl) ?_
  refine lv_ishr hx hb dX6_append_27 ?_
  refine lv_i2b (v := ((p0 >>> (8 &&& 31)).toInt8.toInt32)) hx hb dX6_append_28 rfl ?_
  refine va_bast hx hb hK hP hD hS 1 1 rfl rfl (by unfold vp_in; decide) dX6_append_29 (fun H locs hP9 hD9 hS9 => ?_)
  clear hP hD hS
  have hS := hS9
  have hP := hP9
  have hD := hD9
  clear hP9 hD9 hS9
  obtain ⟨f29_3, hP9, hD9⟩ : ∃ f29_3 : Nat → Int32, va_P D vwCl [(x0, .inr (6, [.ref x1, .int 18])), (x1, .inl (k 1, 1000, .inl f29_3))] H ∧ va_D A [(x0, .inr (6, [.ref x1, .int 18])), (x1, .inl (k 1, 1000, .inl f29_3))] := ⟨_, hP, hD⟩
  clear hP hD
  have hP := hP9
  have hD := hD9
  clear hP9 hD9
  refine lv_aload_n hx hb dX6_append_30 rfl (lv_at hl 1 rfl) ?_
  refine lv_dup hx hb dX6_append_31 rfl ?_
  refine va_get (D := D) (ci := 6) (v := .int 18) (C := RX6) (T := TX6) (N := 2) hx hb hT in_X6 hown hK hP 0 rfl rfl 1 (by decide) (hT _ t144) (fun _ h9 => h9) rfl dX6_append_32 ?_
  refine lv_iconst (v := 1) hx hb dX6_append_35 (by decide) ?_
  refine lv_iadd hx hb dX6_append_36 ?_
  refine k_top (y := 19) (by decide) ?_
  refine va_put (D := D) (ci := 6) (v := .int 19) (ty := .int) (C := RX6) (T := TX6) (N := 2) hx hb hT in_X6 tyX6 tyX6_ok nmX6 hown hK hP hD hS 0 rfl rfl 1 (by decide) (hT _ t144) (fun _ h9 => h9) rfl (by decide +kernel) rfl rfl (Nat.le_of_ble_eq_true rfl) dX6_append_37 (fun H locs hP9 hD9 hS9 => ?_)
  clear hP hD hS
  have hS := hS9
  have hP := hP9
  have hD := hD9
  clear hP9 hD9 hS9
  replace hP : va_P D vwCl [(x0, .inr (6, [.ref x1, .int 19])), (x1, .inl (k 1, 1000, .inl f29_3))] H := hP
  replace hD : va_D A [(x0, .inr (6, [.ref x1, .int 19])), (x1, .inl (k 1, 1000, .inl f29_3))] := hD
  refine lv_iinc (v := 0) (lv' := [(2, .int 0), (0, .ref x0), (1, .int p0)]) hx hb dX6_append_40 hl (k := 0) rfl (by decide) (by decide) rfl (fun ls hl => ?_)
  refine lv_goto (tgt := 3) hx hb dX6_append_43 (by decide) ?_
  refine lv_iload_n hx hb dX6_append_3 rfl (lv_at hl 0 rfl) ?_
  refine lv_if_lt (tgt := 46) hx hb dX6_append_4 (by decide) (fun c_7 => ?_) (fun c_7 => ?_)
  · first | exact absurd c_7 (by decide) | exact absurd (by decide) c_7
  refine lv_aload_n hx hb dX6_append_7 rfl (lv_at hl 1 rfl) ?_
  refine va_get (D := D) (ci := 6) (v := .int 19) (C := RX6) (T := TX6) (N := 2) hx hb hT in_X6 hown hK hP 0 rfl rfl 1 (by decide) (hT _ t144) (fun _ h9 => h9) rfl dX6_append_8 ?_
  refine lv_sipush (v := 1000) hx hb dX6_append_11 (by decide) ?_
  refine lv_icmp_ge (tgt := 40) hx hb dX6_append_14 (by decide) (fun c_8 => ?_) (fun c_8 => ?_)
  · first | exact absurd c_8 (by decide) | exact absurd (by decide) c_8
  refine lv_aload_n hx hb dX6_append_17 rfl (lv_at hl 1 rfl) ?_
  refine va_get (D := D) (ci := 6) (v := .ref x1) (C := RX6) (T := TX6) (N := 2) hx hb hT in_X6 hown hK hP 0 rfl rfl 0 (by decide) (hT _ t143) (fun _ h9 => h9) rfl dX6_append_18 ?_
  refine lv_aload_n hx hb dX6_append_21 rfl (lv_at hl 1 rfl) ?_
  refine va_get (D := D) (ci := 6) (v := .int 19) (C := RX6) (T := TX6) (N := 2) hx hb hT in_X6 hown hK hP 0 rfl rfl 1 (by decide) (hT _ t144) (fun _ h9 => h9) rfl dX6_append_22 ?_
  refine lv_iload_n hx hb dX6_append_25 rfl (lv_at hl 2 rfl) ?_
  refine lv_iload_n hx hb dX6_append_26 rfl (lv_at hl 0 rfl) ?_
  refine lv_ishr hx hb dX6_append_27 ?_
  refine lv_i2b (v := ((p0 >>> (0 &&& 31)).toInt8.toInt32)) hx hb dX6_append_28 rfl ?_
  refine va_bast hx hb hK hP hD hS 1 1 rfl rfl (by unfold vp_in; decide) dX6_append_29 (fun H locs hP9 hD9 hS9 => ?_)
  clear hP hD hS
  have hS := hS9
  have hP := hP9
  have hD := hD9
  clear hP9 hD9 hS9
  obtain ⟨f29_4, hP9, hD9⟩ : ∃ f29_4 : Nat → Int32, va_P D vwCl [(x0, .inr (6, [.ref x1, .int 19])), (x1, .inl (k 1, 1000, .inl f29_4))] H ∧ va_D A [(x0, .inr (6, [.ref x1, .int 19])), (x1, .inl (k 1, 1000, .inl f29_4))] := ⟨_, hP, hD⟩
  clear hP hD
  have hP := hP9
  have hD := hD9
  clear hP9 hD9
  refine lv_aload_n hx hb dX6_append_30 rfl (lv_at hl 1 rfl) ?_
  refine lv_dup hx hb dX6_append_31 rfl ?_
  refine va_get (D := D) (ci := 6) (v := .int 19) (C := RX6) (T := TX6) (N := 2) hx hb hT in_X6 hown hK hP 0 rfl rfl 1 (by decide) (hT _ t144) (fun _ h9 => h9) rfl dX6_append_32 ?_
  refine lv_iconst (v := 1) hx hb dX6_append_35 (by decide) ?_
  refine lv_iadd hx hb dX6_append_36 ?_
  refine k_top (y := 20) (by decide) ?_
  refine va_put (D := D) (ci := 6) (v := .int 20) (ty := .int) (C := RX6) (T := TX6) (N := 2) hx hb hT in_X6 tyX6 tyX6_ok nmX6 hown hK hP hD hS 0 rfl rfl 1 (by decide) (hT _ t144) (fun _ h9 => h9) rfl (by decide +kernel) rfl rfl (Nat.le_of_ble_eq_true rfl) dX6_append_37 (fun H locs hP9 hD9 hS9 => ?_)
  clear hP hD hS
  have hS := hS9
  have hP := hP9
  have hD := hD9
  clear hP9 hD9 hS9
  replace hP : va_P D vwCl [(x0, .inr (6, [.ref x1, .int 20])), (x1, .inl (k 1, 1000, .inl f29_4))] H := hP
  replace hD : va_D A [(x0, .inr (6, [.ref x1, .int 20])), (x1, .inl (k 1, 1000, .inl f29_4))] := hD
  refine lv_iinc (v := (-8)) (lv' := [(2, .int (-8)), (0, .ref x0), (1, .int p0)]) hx hb dX6_append_40 hl (k := 0) rfl (by decide) (by decide) rfl (fun ls hl => ?_)
  refine lv_goto (tgt := 3) hx hb dX6_append_43 (by decide) ?_
  refine lv_iload_n hx hb dX6_append_3 rfl (lv_at hl 0 rfl) ?_
  refine lv_if_lt (tgt := 46) hx hb dX6_append_4 (by decide) (fun c_9 => ?_) (fun c_9 => ?_)
  rotate_left
  · first | exact absurd c_9 (by decide) | exact absurd (by decide) c_9
  have hP9 := hP.sub (ws' := [(x0, .inr (6, [.ref x1, .int 20])), (x1, .inl (k 1, 1000, .inl f29_4))]) [0, 1] rfl
  have hD9 := d_sub (ws' := [(x0, .inr (6, [.ref x1, .int 20])), (x1, .inl (k 1, 1000, .inl f29_4))]) hD [0, 1] (by decide +kernel) rfl
  have hK9 := hK.sub (tys' := []) [] rfl
  exact W.vret hx hb hr (fun t ht hW => ⟨⟨mkU [] [f29_4], rfl, trivial, by rw [ht]; exact hP9, va_K.moved hW.alike hK9, by rw [hAe]; exact hD9⟩, by rw [hAe]; exact hS.F ht⟩) hS.2.2 dX6_append_46
set_option maxHeartbeats 4000000 in
set_option maxRecDepth 100000 in
theorem c_X9_feedW (l : Launch) (D : va_G) (k : Nat → ClassId) (x0 x1 x2 x3 x4 x5 x6 x7 x8 x9 x10 x11 x12 : Nat) (g0 : Nat → Int32) (p0 p1 p2 p3 p4 : Int32) (sz : Nat) : Met l yX9_feed (.code yX9_feed cX9_feed 6 (some .int) :: TB) (rmw 3 0 0) (va_Pc [.ref x0, .int p0, .int p1, .int p2, .int p3, .int p4] (PW D k sz [(x0, .inr (9, [.ref x1, .ref x2, .ref x3, .ref x4, .ref x5, .ref x6, .ref x7, .ref x8, .ref x9, .ref x10, .ref x11])), (x1, .inr (6, [.ref x12, .int 0])), (x12, .inl (k 1, 1000, .inl g0))])) (QI D (S := UT) (fun r u => r = 20) (fun u => []) (fun _ => []) [(x0, .inr (9, [.ref x1, .ref x2, .ref x3, .ref x4, .ref x5, .ref x6, .ref x7, .ref x8, .ref x9, .ref x10, .ref x11])), (x1, .inr (6, [.ref x12, .int 0])), (x12, .inl (k 1, 1000, .inl g0))] sz) 0 0 (va_A [(x0, .inr (9, [.ref x1, .ref x2, .ref x3, .ref x4, .ref x5, .ref x6, .ref x7, .ref x8, .ref x9, .ref x10, .ref x11])), (x1, .inr (6, [.ref x12, .int 0])), (x12, .inl (k 1, 1000, .inl g0))] sz) := by
  refine Met.ofW (cc := cX9_feed) (maxL := 6) (ret := (some .int)) (by decide) rfl ?_
  intro p e s m args below meth c s₁ B hml hv
  obtain ⟨rfl, hsz, hP, hK, hD0, hN⟩ := hv
  have hx := B.exec
  have hb := B.bytes
  have hr := B.returns
  have hT : ∀ w ∈ TB, w.before ([.ref x0, .int p0, .int p1, .int p2, .int p3, .int p4] : List Value).toArray s = true := fun w h => atoms_spec (ws := .code yX9_feed cX9_feed 6 (some .int) :: TB) B.pre w (List.mem_cons_of_mem _ h)
  have hown : s.vm.findClass RX9 = some m.cls := findClass_of_methodNamed B.named
  have S : CallFix p m c cX9_feed 6 s _ TB RX9 := ⟨hx, hb, hml, hown, hT⟩
  subst hsz
  have hD := hD0.self (sz := s.heap.size)
  generalize hAe : va_A [(x0, .inr (9, [.ref x1, .ref x2, .ref x3, .ref x4, .ref x5, .ref x6, .ref x7, .ref x8, .ref x9, .ref x10, .ref x11])), (x1, .inr (6, [.ref x12, .int 0])), (x12, .inl (k 1, 1000, .inl g0))] s.heap.size = A at hD ⊢
  have hA : ∀ q : Nat, s.heap.size ≤ q → A q := fun q h => by rw [← hAe]; exact Or.inr h
  have hS : va_S A s.heap s.heap [] := va_S.rf
  have hP : va_P D vwCl [(x0, .inr (9, [.ref x1, .ref x2, .ref x3, .ref x4, .ref x5, .ref x6, .ref x7, .ref x8, .ref x9, .ref x10, .ref x11])), (x1, .inr (6, [.ref x12, .int 0])), (x12, .inl (k 1, 1000, .inl g0))] s.heap := hP
  have hl := lv_entry ([.ref x0, .int p0, .int p1, .int p2, .int p3, .int p4]) (n := 6) (Nat.le_of_ble_eq_true rfl)
  rw [lg_entry_eq]
  generalize (lg_sl ([.ref x0, .int p0, .int p1, .int p2, .int p3, .int p4]) ++ List.replicate (6 - (lg_sl ([.ref x0, .int p0, .int p1, .int p2, .int p3, .int p4])).length) Slot.unset).toArray = ls at hl ⊢
  have hl : lv_has ls 6 [(0, .ref x0), (1, .int p0), (2, .int p1), (3, .int p2), (4, .int p3), (5, .int p4)] := hl
  refine lv_aload_n hx hb dX9_feed_0 rfl (lv_at hl 0 rfl) ?_
  refine va_get (D := D) (ci := 9) (v := .ref x1) (C := RX9) (T := TX9) (N := 11) hx hb hT in_X9 hown hK hP 0 rfl rfl 0 (by decide) (hT _ t451) (fun _ h9 => h9) rfl dX9_feed_1 ?_
  refine ro_V (As := []) (rest := []) S (c_X6_hasRoom0 l D k x1 x12 _) lkX9_75 ok_X6_hasRoom ⟨rfl, rfl, Nat.le_of_ble_eq_true rfl, Nat.le_of_ble_eq_true rfl⟩ (pw_V (ci := 6) (q0 := 0) hK hN rfl rfl (hP.sub (ws' := [(x1, .inr (6, [.ref x12, .int 0]))]) [1] rfl) ((d_sub (ws' := [(x1, .inr (6, [.ref x12, .int 0]))]) hD [1] (by decide +kernel) rfl).weaken (fun _ _ _ _ => trivial))) rfl hl.1 rfl (Nat.le_of_ble_eq_true rfl) ⟨Nat.le_of_ble_eq_true rfl, Nat.le_of_ble_eq_true rfl⟩ dX9_feed_4 (fun r_1 er_1 => ?_)
  subst er_1
  refine lv_if_ne (tgt := 12) hx hb dX9_feed_7 (by decide) (fun c_2 => ?_) (fun c_2 => ?_)
  rotate_left
  · first | exact absurd c_2 (by decide) | exact absurd (by decide) c_2
  refine lv_aload_n hx hb dX9_feed_12 rfl (lv_at hl 0 rfl) ?_
  refine va_get (D := D) (ci := 9) (v := .ref x1) (C := RX9) (T := TX9) (N := 11) hx hb hT in_X9 hown hK hP 0 rfl rfl 0 (by decide) (hT _ t451) (fun _ h9 => h9) rfl dX9_feed_13 ?_
  refine lv_iload_n hx hb dX9_feed_16 rfl (lv_at hl 1 rfl) ?_
  refine rw_v (wc := [(x1, .inr (6, [.ref x12, .int 0])), (x12, .inl (k 1, 1000, .inl g0))]) (wr := [(x0, .inr (9, [.ref x1, .ref x2, .ref x3, .ref x4, .ref x5, .ref x6, .ref x7, .ref x8, .ref x9, .ref x10, .ref x11]))]) [1, 2] [0] rfl rfl (by decide +kernel) (by decide +kernel) (by decide +kernel) hP hD hS hA (fun hPc hDc => run_V (As := [.int p0]) (rest := []) S (c_X6_append0 l D k x1 x12 g0 p0 _) lkX9_81 ok_X6_append ⟨rfl, rfl, Nat.le_of_ble_eq_true rfl, Nat.le_of_ble_eq_true rfl⟩ (pw_V (ci := 6) (q0 := 0) hK hN rfl rfl hPc hDc) rfl hl.1 rfl (Nat.le_of_ble_eq_true rfl) ⟨Nat.le_of_ble_eq_true rfl, Nat.le_of_ble_eq_true rfl⟩ dX9_feed_17) (fun u17_1 H locs hu17_1 hKu17_1 hP9 hD9 hS9 => ?_)
  clear hP hD hS
  have hS := hS9
  have hP := hP9
  have hD := hD9
  clear hP9 hD9 hS9
  replace hP : va_P D vwCl [(x0, .inr (9, [.ref x1, .ref x2, .ref x3, .ref x4, .ref x5, .ref x6, .ref x7, .ref x8, .ref x9, .ref x10, .ref x11])), (x1, .inr (6, [.ref x12, .int 4])), (x12, .inl (k 1, 1000, .inl (u17_1.2 0)))] H := hP
  replace hD : va_D A [(x0, .inr (9, [.ref x1, .ref x2, .ref x3, .ref x4, .ref x5, .ref x6, .ref x7, .ref x8, .ref x9, .ref x10, .ref x11])), (x1, .inr (6, [.ref x12, .int 4])), (x12, .inl (k 1, 1000, .inl (u17_1.2 0)))] := hD
  refine lv_aload_n hx hb dX9_feed_20 rfl (lv_at hl 0 rfl) ?_
  refine va_get (D := D) (ci := 9) (v := .ref x1) (C := RX9) (T := TX9) (N := 11) hx hb hT in_X9 hown hK hP 0 rfl rfl 0 (by decide) (hT _ t451) (fun _ h9 => h9) rfl dX9_feed_21 ?_
  refine lv_iload_n hx hb dX9_feed_24 rfl (lv_at hl 2 rfl) ?_
  refine rw_v (wc := [(x1, .inr (6, [.ref x12, .int 4])), (x12, .inl (k 1, 1000, .inl (u17_1.2 0)))]) (wr := [(x0, .inr (9, [.ref x1, .ref x2, .ref x3, .ref x4, .ref x5, .ref x6, .ref x7, .ref x8, .ref x9, .ref x10, .ref x11]))]) [1, 2] [0] rfl rfl (by decide +kernel) (by decide +kernel) (by decide +kernel) hP hD hS hA (fun hPc hDc => run_V (As := [.int p1]) (rest := []) S (c_X6_append4 l D k x1 x12 (u17_1.2 0) p1 _) lkX9_81 ok_X6_append ⟨rfl, rfl, Nat.le_of_ble_eq_true rfl, Nat.le_of_ble_eq_true rfl⟩ (pw_V (ci := 6) (q0 := 0) hK hN rfl rfl hPc hDc) rfl hl.1 rfl (Nat.le_of_ble_eq_true rfl) ⟨Nat.le_of_ble_eq_true rfl, Nat.le_of_ble_eq_true rfl⟩ dX9_feed_25) (fun u25_2 H locs hu25_2 hKu25_2 hP9 hD9 hS9 => ?_)
  clear hP hD hS
  have hS := hS9
  have hP := hP9
  have hD := hD9
  clear hP9 hD9 hS9
  replace hP : va_P D vwCl [(x0, .inr (9, [.ref x1, .ref x2, .ref x3, .ref x4, .ref x5, .ref x6, .ref x7, .ref x8, .ref x9, .ref x10, .ref x11])), (x1, .inr (6, [.ref x12, .int 8])), (x12, .inl (k 1, 1000, .inl (u25_2.2 0)))] H := hP
  replace hD : va_D A [(x0, .inr (9, [.ref x1, .ref x2, .ref x3, .ref x4, .ref x5, .ref x6, .ref x7, .ref x8, .ref x9, .ref x10, .ref x11])), (x1, .inr (6, [.ref x12, .int 8])), (x12, .inl (k 1, 1000, .inl (u25_2.2 0)))] := hD
  refine lv_aload_n hx hb dX9_feed_28 rfl (lv_at hl 0 rfl) ?_
  refine va_get (D := D) (ci := 9) (v := .ref x1) (C := RX9) (T := TX9) (N := 11) hx hb hT in_X9 hown hK hP 0 rfl rfl 0 (by decide) (hT _ t451) (fun _ h9 => h9) rfl dX9_feed_29 ?_
  refine lv_iload_n hx hb dX9_feed_32 rfl (lv_at hl 3 rfl) ?_
  refine rw_v (wc := [(x1, .inr (6, [.ref x12, .int 8])), (x12, .inl (k 1, 1000, .inl (u25_2.2 0)))]) (wr := [(x0, .inr (9, [.ref x1, .ref x2, .ref x3, .ref x4, .ref x5, .ref x6, .ref x7, .ref x8, .ref x9, .ref x10, .ref x11]))]) [1, 2] [0] rfl rfl (by decide +kernel) (by decide +kernel) (by decide +kernel) hP hD hS hA (fun hPc hDc => run_V (As := [.int p2]) (rest := []) S (c_X6_append8 l D k x1 x12 (u25_2.2 0) p2 _) lkX9_81 ok_X6_append ⟨rfl, rfl, Nat.le_of_ble_eq_true rfl, Nat.le_of_ble_eq_true rfl⟩ (pw_V (ci := 6) (q0 := 0) hK hN rfl rfl hPc hDc) rfl hl.1 rfl (Nat.le_of_ble_eq_true rfl) ⟨Nat.le_of_ble_eq_true rfl, Nat.le_of_ble_eq_true rfl⟩ dX9_feed_33) (fun u33_3 H locs hu33_3 hKu33_3 hP9 hD9 hS9 => ?_)
  clear hP hD hS
  have hS := hS9
  have hP := hP9
  have hD := hD9
  clear hP9 hD9 hS9
  replace hP : va_P D vwCl [(x0, .inr (9, [.ref x1, .ref x2, .ref x3, .ref x4, .ref x5, .ref x6, .ref x7, .ref x8, .ref x9, .ref x10, .ref x11])), (x1, .inr (6, [.ref x12, .int 12])), (x12, .inl (k 1, 1000, .inl (u33_3.2 0)))] H := hP
  replace hD : va_D A [(x0, .inr (9, [.ref x1, .ref x2, .ref x3, .ref x4, .ref x5, .ref x6, .ref x7, .ref x8, .ref x9, .ref x10, .ref x11])), (x1, .inr (6, [.ref x12, .int 12])), (x12, .inl (k 1, 1000, .inl (u33_3.2 0)))] := hD
  refine lv_aload_n hx hb dX9_feed_36 rfl (lv_at hl 0 rfl) ?_
  refine va_get (D := D) (ci := 9) (v := .ref x1) (C := RX9) (T := TX9) (N := 11) hx hb hT in_X9 hown hK hP 0 rfl rfl 0 (by decide) (hT _ t451) (fun _ h9 => h9) rfl dX9_feed_37 ?_
  refine lv_iload hx hb dX9_feed_40 (lv_at hl 4 rfl) ?_
  refine rw_v (wc := [(x1, .inr (6, [.ref x12, .int 12])), (x12, .inl (k 1, 1000, .inl (u33_3.2 0)))]) (wr := [(x0, .inr (9, [.ref x1, .ref x2, .ref x3, .ref x4, .ref x5, .ref x6, .ref x7, .ref x8, .ref x9, .ref x10, .ref x11]))]) [1, 2] [0] rfl rfl (by decide +kernel) (by decide +kernel) (by decide +kernel) hP hD hS hA (fun hPc hDc => run_V (As := [.int p3]) (rest := []) S (c_X6_append12 l D k x1 x12 (u33_3.2 0) p3 _) lkX9_81 ok_X6_append ⟨rfl, rfl, Nat.le_of_ble_eq_true rfl, Nat.le_of_ble_eq_true rfl⟩ (pw_V (ci := 6) (q0 := 0) hK hN rfl rfl hPc hDc) rfl hl.1 rfl (Nat.le_of_ble_eq_true rfl) ⟨Nat.le_of_ble_eq_true rfl, Nat.le_of_ble_eq_true rfl⟩ dX9_feed_42) (fun u42_4 H locs hu42_4 hKu42_4 hP9 hD9 hS9 => ?_)
  clear hP hD hS
  have hS := hS9
  have hP := hP9
  have hD := hD9
  clear hP9 hD9 hS9
  replace hP : va_P D vwCl [(x0, .inr (9, [.ref x1, .ref x2, .ref x3, .ref x4, .ref x5, .ref x6, .ref x7, .ref x8, .ref x9, .ref x10, .ref x11])), (x1, .inr (6, [.ref x12, .int 16])), (x12, .inl (k 1, 1000, .inl (u42_4.2 0)))] H := hP
  replace hD : va_D A [(x0, .inr (9, [.ref x1, .ref x2, .ref x3, .ref x4, .ref x5, .ref x6, .ref x7, .ref x8, .ref x9, .ref x10, .ref x11])), (x1, .inr (6, [.ref x12, .int 16])), (x12, .inl (k 1, 1000, .inl (u42_4.2 0)))] := hD
  refine lv_aload_n hx hb dX9_feed_45 rfl (lv_at hl 0 rfl) ?_
  refine va_get (D := D) (ci := 9) (v := .ref x1) (C := RX9) (T := TX9) (N := 11) hx hb hT in_X9 hown hK hP 0 rfl rfl 0 (by decide) (hT _ t451) (fun _ h9 => h9) rfl dX9_feed_46 ?_
  refine lv_iload hx hb dX9_feed_49 (lv_at hl 5 rfl) ?_
  refine rw_v (wc := [(x1, .inr (6, [.ref x12, .int 16])), (x12, .inl (k 1, 1000, .inl (u42_4.2 0)))]) (wr := [(x0, .inr (9, [.ref x1, .ref x2, .ref x3, .ref x4, .ref x5, .ref x6, .ref x7, .ref x8, .ref x9, .ref x10, .ref x11]))]) [1, 2] [0] rfl rfl (by decide +kernel) (by decide +kernel) (by decide +kernel) hP hD hS hA (fun hPc hDc => run_V (As := [.int p4]) (rest := []) S (c_X6_append16 l D k x1 x12 (u42_4.2 0) p4 _) lkX9_81 ok_X6_append ⟨rfl, rfl, Nat.le_of_ble_eq_true rfl, Nat.le_of_ble_eq_true rfl⟩ (pw_V (ci := 6) (q0 := 0) hK hN rfl rfl hPc hDc) rfl hl.1 rfl (Nat.le_of_ble_eq_true rfl) ⟨Nat.le_of_ble_eq_true rfl, Nat.le_of_ble_eq_true rfl⟩ dX9_feed_51) (fun u51_5 H locs hu51_5 hKu51_5 hP9 hD9 hS9 => ?_)
  clear hP hD hS
  have hS := hS9
  have hP := hP9
  have hD := hD9
  clear hP9 hD9 hS9
  replace hP : va_P D vwCl [(x0, .inr (9, [.ref x1, .ref x2, .ref x3, .ref x4, .ref x5, .ref x6, .ref x7, .ref x8, .ref x9, .ref x10, .ref x11])), (x1, .inr (6, [.ref x12, .int 20])), (x12, .inl (k 1, 1000, .inl (u51_5.2 0)))] H := hP
  replace hD : va_D A [(x0, .inr (9, [.ref x1, .ref x2, .ref x3, .ref x4, .ref x5, .ref x6, .ref x7, .ref x8, .ref x9, .ref x10, .ref x11])), (x1, .inr (6, [.ref x12, .int 20])), (x12, .inl (k 1, 1000, .inl (u51_5.2 0)))] := hD
  refine lv_aload_n hx hb dX9_feed_54 rfl (lv_at hl 0 rfl) ?_
  refine va_get (D := D) (ci := 9) (v := .ref x1) (C := RX9) (T := TX9) (N := 11) hx hb hT in_X9 hown hK hP 0 rfl rfl 0 (by decide) (hT _ t451) (fun _ h9 => h9) rfl dX9_feed_55 ?_
  refine va_get (D := D) (ci := 6) (v := .int 20) (C := RX6) (T := TX6) (N := 2) hx hb hT in_X6 hown hK hP 1 rfl rfl 1 (by decide) (hT _ t145) (fun _ h9 => h9) rfl dX9_feed_58 ?_
  have hP9 := hP.sub (ws' := []) [] rfl
  have hD9 := d_sub (ws' := []) hD [] (by decide +kernel) rfl
  have hK9 := hK.sub (tys' := []) [] rfl
  exact W.iret (v := 20) hx hb hr (fun t ht hW => ⟨⟨20, mkU [] [], rfl, rfl, by rw [ht]; exact hP9, va_K.moved hW.alike hK9, by rw [hAe]; exact hD9⟩, by rw [hAe]; exact hS.F ht⟩) hS.2.2 dX9_feed_61
set_option maxHeartbeats 4000000 in
set_option maxRecDepth 100000 in
theorem c_X9_endW (l : Launch) (D : va_G) (k : Nat → ClassId) (x0 x1 x2 x3 x4 x5 x6 x7 x8 x9 x10 x11 x12 : Nat) (p0 : Int32) (sz : Nat) : Met l yX9_end (.code yX9_end cX9_end 2 (some .int) :: TB) (rmw 1 0 0) (va_Pc [.ref x0, .int p0] (PW D k sz [(x0, .inr (9, [.ref x1, .ref x2, .ref x3, .ref x4, .ref x5, .ref x6, .ref x7, .ref x8, .ref x9, .ref x10, .ref x11])), (x1, .inr (6, [.ref x12, .int 0]))])) (QI D (S := UT) (fun r u => r = a_end p0) (fun u => []) (fun _ => []) [(x0, .inr (9, [.ref x1, .ref x2, .ref x3, .ref x4, .ref x5, .ref x6, .ref x7, .ref x8, .ref x9, .ref x10, .ref x11])), (x1, .inr (6, [.ref x12, .int 0]))] sz) 0 0 (va_A [(x0, .inr (9, [.ref x1, .ref x2, .ref x3, .ref x4, .ref x5, .ref x6, .ref x7, .ref x8, .ref x9, .ref x10, .ref x11])), (x1, .inr (6, [.ref x12, .int 0]))] sz) := by
  refine Met.ofW (cc := cX9_end) (maxL := 2) (ret := (some .int)) (by decide) rfl ?_
  intro p e s m args below meth c s₁ B hml hv
  obtain ⟨rfl, hsz, hP, hK, hD0, hN⟩ := hv
  have hx := B.exec
  have hb := B.bytes
  have hr := B.returns
  have hT : ∀ w ∈ TB, w.before ([.ref x0, .int p0] : List Value).toArray s = true := fun w h => atoms_spec (ws := .code yX9_end cX9_end 2 (some .int) :: TB) B.pre w (List.mem_cons_of_mem _ h)
  have hown : s.vm.findClass RX9 = some m.cls := findClass_of_methodNamed B.named
  have S : CallFix p m c cX9_end 2 s _ TB RX9 := ⟨hx, hb, hml, hown, hT⟩
  subst hsz
  have hD := hD0.self (sz := s.heap.size)
  generalize hAe : va_A [(x0, .inr (9, [.ref x1, .ref x2, .ref x3, .ref x4, .ref x5, .ref x6, .ref x7, .ref x8, .ref x9, .ref x10, .ref x11])), (x1, .inr (6, [.ref x12, .int 0]))] s.heap.size = A at hD ⊢
  have hA : ∀ q : Nat, s.heap.size ≤ q → A q := fun q h => by rw [← hAe]; exact Or.inr h
  have hS : va_S A s.heap s.heap [] := va_S.rf
  have hP : va_P D vwCl [(x0, .inr (9, [.ref x1, .ref x2, .ref x3, .ref x4, .ref x5, .ref x6, .ref x7, .ref x8, .ref x9, .ref x10, .ref x11])), (x1, .inr (6, [.ref x12, .int 0]))] s.heap := hP
  have hl := lv_entry ([.ref x0, .int p0]) (n := 2) (Nat.le_of_ble_eq_true rfl)
  rw [lg_entry_eq]
  generalize (lg_sl ([.ref x0, .int p0]) ++ List.replicate (2 - (lg_sl ([.ref x0, .int p0])).length) Slot.unset).toArray = ls at hl ⊢
  have hl : lv_has ls 2 [(0, .ref x0), (1, .int p0)] := hl
  refine lv_iload_n hx hb dX9_end_0 rfl (lv_at hl 1 rfl) ?_
  refine lv_if_lt (tgt := 15) hx hb dX9_end_1 (by decide) (fun c_1 => ?_) (fun c_1 => ?_)
  · skip
    refine lv_iconst (v := (-1)) hx hb dX9_end_15 (by decide) ?_
    have hP9 := hP.sub (ws' := []) [] rfl
    have hD9 := d_sub (ws' := []) hD [] (by decide +kernel) rfl
    have hK9 := hK.sub (tys' := []) [] rfl
    exact W.iret (v := (-1)) hx hb hr (fun t ht hW => ⟨⟨(-1), mkU [] [], rfl, (a_end_n (fun e => absurd c_1 (by rw [e]; decide))), by rw [ht]; exact hP9, va_K.moved hW.alike hK9, by rw [hAe]; exact hD9⟩, by rw [hAe]; exact hS.F ht⟩) hS.2.2 dX9_end_16
  · skip
    refine lv_iload_n hx hb dX9_end_4 rfl (lv_at hl 1 rfl) ?_
    refine lv_aload_n hx hb dX9_end_5 rfl (lv_at hl 0 rfl) ?_
    refine va_get (D := D) (ci := 9) (v := .ref x1) (C := RX9) (T := TX9) (N := 11) hx hb hT in_X9 hown hK hP 0 rfl rfl 0 (by decide) (hT _ t451) (fun _ h9 => h9) rfl dX9_end_6 ?_
    refine va_get (D := D) (ci := 6) (v := .int 0) (C := RX6) (T := TX6) (N := 2) hx hb hT in_X6 hown hK hP 1 rfl rfl 1 (by decide) (hT _ t145) (fun _ h9 => h9) rfl dX9_end_9 ?_
    refine lv_icmp_le (tgt := 17) hx hb dX9_end_12 (by decide) (fun c_2 => ?_) (fun c_2 => ?_)
    · skip
      refine lv_aload_n hx hb dX9_end_17 rfl (lv_at hl 0 rfl) ?_
      refine va_get (D := D) (ci := 9) (v := .ref x1) (C := RX9) (T := TX9) (N := 11) hx hb hT in_X9 hown hK hP 0 rfl rfl 0 (by decide) (hT _ t451) (fun _ h9 => h9) rfl dX9_end_18 ?_
      refine lv_iload_n hx hb dX9_end_21 rfl (lv_at hl 1 rfl) ?_
      refine va_put (D := D) (ci := 6) (v := .int p0) (ty := .int) (C := RX6) (T := TX6) (N := 2) hx hb hT in_X6 tyX6 tyX6_ok nmX6 hown hK hP hD hS 1 rfl rfl 1 (by decide) (hT _ t145) (fun _ h9 => h9) rfl (by decide +kernel) rfl rfl (Nat.le_of_ble_eq_true rfl) dX9_end_22 (fun H locs hP9 hD9 hS9 => ?_)
      clear hP hD hS
      have hS := hS9
      have hP := hP9
      have hD := hD9
      clear hP9 hD9 hS9
      replace hP : va_P D vwCl [(x0, .inr (9, [.ref x1, .ref x2, .ref x3, .ref x4, .ref x5, .ref x6, .ref x7, .ref x8, .ref x9, .ref x10, .ref x11])), (x1, .inr (6, [.ref x12, .int p0]))] H := hP
      replace hD : va_D A [(x0, .inr (9, [.ref x1, .ref x2, .ref x3, .ref x4, .ref x5, .ref x6, .ref x7, .ref x8, .ref x9, .ref x10, .ref x11])), (x1, .inr (6, [.ref x12, .int p0]))] := hD
      refine lv_iload_n hx hb dX9_end_25 rfl (lv_at hl 1 rfl) ?_
      have hP9 := hP.sub (ws' := []) [] rfl
      have hD9 := d_sub (ws' := []) hD [] (by decide +kernel) rfl
      have hK9 := hK.sub (tys' := []) [] rfl
      exact W.iret (v := p0) hx hb hr (fun t ht hW => ⟨⟨p0, mkU [] [], rfl, (a_end_0 c_1 c_2), by rw [ht]; exact hP9, va_K.moved hW.alike hK9, by rw [hAe]; exact hD9⟩, by rw [hAe]; exact hS.F ht⟩) hS.2.2 dX9_end_26
    · skip
      refine lv_iconst (v := (-1)) hx hb dX9_end_15 (by decide) ?_
      have hP9 := hP.sub (ws' := []) [] rfl
      have hD9 := d_sub (ws' := []) hD [] (by decide +kernel) rfl
      have hK9 := hK.sub (tys' := []) [] rfl
      exact W.iret (v := (-1)) hx hb hr (fun t ht hW => ⟨⟨(-1), mkU [] [], rfl, (a_end_n (fun e => absurd c_2 (by rw [e]; decide))), by rw [ht]; exact hP9, va_K.moved hW.alike hK9, by rw [hAe]; exact hD9⟩, by rw [hAe]; exact hS.F ht⟩) hS.2.2 dX9_end_16
