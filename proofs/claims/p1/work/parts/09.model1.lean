set_option maxHeartbeats 4000000 in
set_option maxRecDepth 100000 in
theorem c_X10_in (l : Launch) (D : va_G) (k : Nat → ClassId) (u : Nat → Nat) (mf : Nat → Int32) (p0 : Int64) (p1 : Int64) (p2 : Int64)  : Met l yX10_in (.code yX10_in cX10_in 6 (some .boolean) :: TB) (rmk 1) (va_Pc [.long p0, .long p1, .long p2] (fun U => MWH D k u mf U U.heap)) (vp_Si (fun r => (r = 1 ∧ (p1 ≤ p0 ∧ p0 ≤ p2)) ∨ (r = 0 ∧ ¬ (p1 ≤ p0 ∧ p0 ≤ p2)))) 0 0 (fun _ => False) := by
  refine Met.ofW (cc := cX10_in) (maxL := 6) (ret := (some .boolean)) (by decide) rfl ?_
  intro p e s m args below meth c s₁ B hml hv
  obtain ⟨rfl, hF⟩ := hv
  have hx := B.exec
  have hb := B.bytes
  have hr := B.returns
  have hT : ∀ w ∈ TB, w.before ([.long p0, .long p1, .long p2] : List Value).toArray s = true := fun w h => atoms_spec (ws := .code yX10_in cX10_in 6 (some .boolean) :: TB) B.pre w (List.mem_cons_of_mem _ h)
  have hown : s.vm.findClass RX10 = some m.cls := findClass_of_methodNamed B.named
  have S : CallFix p m c cX10_in 6 s _ TB RX10 := ⟨hx, hb, hml, hown, hT⟩
  have hP : va_P D vwCl [(u 0, .inr (10, [.int 0, .ref (u 1), .ref (u 2), .ref (u 3), .ref (u 4), .int 0, .ref (u 5), .int 0, .int 0, .int 0, .int 0, .int 0, .int 0, .int (-1), .ref (u 6), .ref (u 7), .ref (u 8), .ref (u 9), .ref (u 10), .ref (u 11), .int 0, .int 0, .int 0, .ref (u 12), .ref (u 13), .ref (u 14), .int 0, .int 0, .ref (u 15), .int 0, .ref (u 16), .int 0, .ref (u 17), .int 0, .ref (u 18), .ref (u 19), .ref (u 20), .ref (u 21)])), (u 1, .inl (k 0, 168, .inl (fun _ => 0))), (u 3, .inl (k 3, 3, .inl (fun _ => 0))), (u 18, .inl (k 0, 4, .inl mf))] s.heap := hF.1
  have hK := hF.2.1
  have hl := lv_entry ([.long p0, .long p1, .long p2]) (n := 6) (Nat.le_of_ble_eq_true rfl)
  rw [lg_entry_eq]
  generalize (lg_sl ([.long p0, .long p1, .long p2]) ++ List.replicate (6 - (lg_sl ([.long p0, .long p1, .long p2])).length) Slot.unset).toArray = ls at hl ⊢
  have hl : lv_has ls 6 [(0, .long p0), (2, .long p1), (4, .long p2)] := hl
  refine lv_lload_n hx hb dX10_in_0 rfl (lv_at hl 0 rfl) ?_
  refine lv_lload_n hx hb dX10_in_1 rfl (lv_at hl 1 rfl) ?_
  refine W.lcmp hx hb dX10_in_2 ?_
  refine lv_if_lt (tgt := 17) hx hb dX10_in_3 (by decide) (fun c_1 => ?_) (fun c_1 => ?_)
  · skip
    refine lv_iconst (v := 0) hx hb dX10_in_17 (by decide) ?_
    exact W.zret (v := 0) (ty := .boolean) hx hb hr rfl (fun t ht hW => ⟨0, rfl, Or.inr ⟨rfl, fun z => absurd ((lg_cmp_ge p0 p1).mpr z.1) (Int32.not_le.mpr c_1)⟩, ht⟩) (fun _ h9 => by cases h9) dX10_in_18
  · skip
    refine lv_lload_n hx hb dX10_in_6 rfl (lv_at hl 0 rfl) ?_
    refine lv_lload hx hb dX10_in_7 (lv_at hl 2 rfl) ?_
    refine W.lcmp hx hb dX10_in_9 ?_
    refine lv_if_gt (tgt := 17) hx hb dX10_in_10 (by decide) (fun c_2 => ?_) (fun c_2 => ?_)
    · skip
      refine lv_iconst (v := 0) hx hb dX10_in_17 (by decide) ?_
      exact W.zret (v := 0) (ty := .boolean) hx hb hr rfl (fun t ht hW => ⟨0, rfl, Or.inr ⟨rfl, fun z => absurd ((lg_cmp_le p0 p2).mpr z.2) (Int32.not_le.mpr c_2)⟩, ht⟩) (fun _ h9 => by cases h9) dX10_in_18
    · skip
      refine lv_iconst (v := 1) hx hb dX10_in_13 (by decide) ?_
      refine lv_goto (tgt := 18) hx hb dX10_in_14 (by decide) ?_
      exact W.zret (v := 1) (ty := .boolean) hx hb hr rfl (fun t ht hW => ⟨1, rfl, Or.inl ⟨rfl, (lg_cmp_ge p0 p1).mp (Int32.not_lt.mp c_1), (lg_cmp_le p0 p2).mp (Int32.not_lt.mp c_2)⟩, ht⟩) (fun _ h9 => by cases h9) dX10_in_18
set_option maxHeartbeats 4000000 in
set_option maxRecDepth 100000 in
theorem c_X10_isLand (l : Launch) (D : va_G) (k : Nat → ClassId) (u : Nat → Nat) (mf : Nat → Int32)   : Met l yX10_isLand (.code yX10_isLand cX10_isLand 1 (some .boolean) :: TB) (rmk 1) (va_Pc [.ref (u 0)] (fun U => MWH D k u mf U U.heap)) (vp_Si (fun r => r = 0)) 0 0 (fun _ => False) := by
  refine Met.ofW (cc := cX10_isLand) (maxL := 1) (ret := (some .boolean)) (by decide) rfl ?_
  intro p e s m args below meth c s₁ B hml hv
  obtain ⟨rfl, hF⟩ := hv
  have hx := B.exec
  have hb := B.bytes
  have hr := B.returns
  have hT : ∀ w ∈ TB, w.before ([.ref (u 0)] : List Value).toArray s = true := fun w h => atoms_spec (ws := .code yX10_isLand cX10_isLand 1 (some .boolean) :: TB) B.pre w (List.mem_cons_of_mem _ h)
  have hown : s.vm.findClass RX10 = some m.cls := findClass_of_methodNamed B.named
  have S : CallFix p m c cX10_isLand 1 s _ TB RX10 := ⟨hx, hb, hml, hown, hT⟩
  have hP : va_P D vwCl [(u 0, .inr (10, [.int 0, .ref (u 1), .ref (u 2), .ref (u 3), .ref (u 4), .int 0, .ref (u 5), .int 0, .int 0, .int 0, .int 0, .int 0, .int 0, .int (-1), .ref (u 6), .ref (u 7), .ref (u 8), .ref (u 9), .ref (u 10), .ref (u 11), .int 0, .int 0, .int 0, .ref (u 12), .ref (u 13), .ref (u 14), .int 0, .int 0, .ref (u 15), .int 0, .ref (u 16), .int 0, .ref (u 17), .int 0, .ref (u 18), .ref (u 19), .ref (u 20), .ref (u 21)])), (u 1, .inl (k 0, 168, .inl (fun _ => 0))), (u 3, .inl (k 3, 3, .inl (fun _ => 0))), (u 18, .inl (k 0, 4, .inl mf))] s.heap := hF.1
  have hK := hF.2.1
  have hl := lv_entry ([.ref (u 0)]) (n := 1) (Nat.le_of_ble_eq_true rfl)
  rw [lg_entry_eq]
  generalize (lg_sl ([.ref (u 0)]) ++ List.replicate (1 - (lg_sl ([.ref (u 0)])).length) Slot.unset).toArray = ls at hl ⊢
  have hl : lv_has ls 1 [(0, .ref (u 0))] := hl
  refine lv_aload_n hx hb dX10_isLand_0 rfl (lv_at hl 0 rfl) ?_
  refine va_get (D := D) (ci := 10) (v := .ref (u 1)) (C := RX10) (T := TX10) (N := 38) hx hb hT in_X10 hown hK hP 0 rfl rfl 1 (by decide) (hT _ t1263) (fun _ h9 => h9) rfl dX10_isLand_1 ?_
  refine lv_bipush (v := 6) hx hb dX10_isLand_4 (by decide) ?_
  refine va_iald hx hb hK hP 1 0 rfl rfl (by unfold vp_in; decide) dX10_isLand_6 ?_
  refine k_top (y := 0) rfl ?_
  refine lv_if_le (tgt := 14) hx hb dX10_isLand_7 (by decide) (fun c_1 => ?_) (fun c_1 => ?_)
  rotate_left
  · first | exact absurd c_1 (by decide) | exact absurd (by decide) c_1
  refine lv_iconst (v := 0) hx hb dX10_isLand_14 (by decide) ?_
  exact W.zret (v := 0) (ty := .boolean) hx hb hr rfl (fun t ht hW => ⟨0, rfl, rfl, ht⟩) (fun _ h9 => by cases h9) dX10_isLand_15
set_option maxHeartbeats 4000000 in
set_option maxRecDepth 100000 in
theorem c_X10_isPlace (l : Launch) (D : va_G) (k : Nat → ClassId) (u : Nat → Nat) (mf : Nat → Int32) (p0 : Int64)  : Met l yX10_isPlace (.code yX10_isPlace cX10_isPlace 3 (some .boolean) :: TB) (rmk 2) (va_Pc [.ref (u 0), .long p0] (fun U => MWH D k u mf U U.heap)) (vp_Si (fun r => r = 0)) 0 0 (fun _ => False) := by
  refine Met.ofW (cc := cX10_isPlace) (maxL := 3) (ret := (some .boolean)) (by decide) rfl ?_
  intro p e s m args below meth c s₁ B hml hv
  obtain ⟨rfl, hF⟩ := hv
  have hx := B.exec
  have hb := B.bytes
  have hr := B.returns
  have hT : ∀ w ∈ TB, w.before ([.ref (u 0), .long p0] : List Value).toArray s = true := fun w h => atoms_spec (ws := .code yX10_isPlace cX10_isPlace 3 (some .boolean) :: TB) B.pre w (List.mem_cons_of_mem _ h)
  have hown : s.vm.findClass RX10 = some m.cls := findClass_of_methodNamed B.named
  have S : CallFix p m c cX10_isPlace 3 s _ TB RX10 := ⟨hx, hb, hml, hown, hT⟩
  have hP : va_P D vwCl [(u 0, .inr (10, [.int 0, .ref (u 1), .ref (u 2), .ref (u 3), .ref (u 4), .int 0, .ref (u 5), .int 0, .int 0, .int 0, .int 0, .int 0, .int 0, .int (-1), .ref (u 6), .ref (u 7), .ref (u 8), .ref (u 9), .ref (u 10), .ref (u 11), .int 0, .int 0, .int 0, .ref (u 12), .ref (u 13), .ref (u 14), .int 0, .int 0, .ref (u 15), .int 0, .ref (u 16), .int 0, .ref (u 17), .int 0, .ref (u 18), .ref (u 19), .ref (u 20), .ref (u 21)])), (u 1, .inl (k 0, 168, .inl (fun _ => 0))), (u 3, .inl (k 3, 3, .inl (fun _ => 0))), (u 18, .inl (k 0, 4, .inl mf))] s.heap := hF.1
  have hK := hF.2.1
  have hl := lv_entry ([.ref (u 0), .long p0]) (n := 3) (Nat.le_of_ble_eq_true rfl)
  rw [lg_entry_eq]
  generalize (lg_sl ([.ref (u 0), .long p0]) ++ List.replicate (3 - (lg_sl ([.ref (u 0), .long p0])).length) Slot.unset).toArray = ls at hl ⊢
  have hl : lv_has ls 3 [(0, .ref (u 0)), (1, .long p0)] := hl
  refine lv_lload_n hx hb dX10_isPlace_0 rfl (lv_at hl 1 rfl) ?_
  refine lv_lconst (v := 0) hx hb dX10_isPlace_1 (by decide) ?_
  refine lv_aload_n hx hb dX10_isPlace_2 rfl (lv_at hl 0 rfl) ?_
  refine va_get (D := D) (ci := 10) (v := .ref (u 1)) (C := RX10) (T := TX10) (N := 38) hx hb hT in_X10 hown hK hP 0 rfl rfl 1 (by decide) (hT _ t1263) (fun _ h9 => h9) rfl dX10_isPlace_3 ?_
  refine lv_iconst (v := 0) hx hb dX10_isPlace_6 (by decide) ?_
  refine va_iald hx hb hK hP 1 0 rfl rfl (by unfold vp_in; decide) dX10_isPlace_7 ?_
  refine k_top (y := 0) rfl ?_
  refine lv_iconst (v := 1) hx hb dX10_isPlace_8 (by decide) ?_
  refine lv_isub hx hb dX10_isPlace_9 ?_
  refine k_top (y := (-1)) (by decide) ?_
  refine lv_i2l (v := (-1)) hx hb dX10_isPlace_10 (by decide) ?_
  refine ro_S (As := [.long p0, .long 0, .long (-1)]) (rest := []) S (c_X10_in l D k u mf p0 0 (-1)) lkX10_85 ok_X10_in ⟨rfl, rfl, Nat.le_of_ble_eq_true rfl, Nat.le_of_ble_eq_true rfl⟩ (mw_S hF) rfl hl.1 rfl (Nat.le_of_ble_eq_true rfl) ⟨Nat.zero_le _, Nat.zero_le _⟩ dX10_isPlace_11 (fun r_1 er_1 => ?_)
  rcases er_1 with ⟨er_1, gr_1⟩ | ⟨er_1, gr_1⟩
  · subst er_1
    exact absurd gr_1 (no_in _)
  · subst er_1
    exact W.zret (v := 0) (ty := .boolean) hx hb hr rfl (fun t ht hW => ⟨0, rfl, rfl, ht⟩) (fun _ h9 => by cases h9) dX10_isPlace_14
set_option maxHeartbeats 4000000 in
set_option maxRecDepth 100000 in
theorem c_X10_isRoad (l : Launch) (D : va_G) (k : Nat → ClassId) (u : Nat → Nat) (mf : Nat → Int32) (p0 : Int64)  : Met l yX10_isRoad (.code yX10_isRoad cX10_isRoad 3 (some .boolean) :: TB) (rmk 2) (va_Pc [.ref (u 0), .long p0] (fun U => MWH D k u mf U U.heap)) (vp_Si (fun r => r = 0)) 0 0 (fun _ => False) := by
  refine Met.ofW (cc := cX10_isRoad) (maxL := 3) (ret := (some .boolean)) (by decide) rfl ?_
  intro p e s m args below meth c s₁ B hml hv
  obtain ⟨rfl, hF⟩ := hv
  have hx := B.exec
  have hb := B.bytes
  have hr := B.returns
  have hT : ∀ w ∈ TB, w.before ([.ref (u 0), .long p0] : List Value).toArray s = true := fun w h => atoms_spec (ws := .code yX10_isRoad cX10_isRoad 3 (some .boolean) :: TB) B.pre w (List.mem_cons_of_mem _ h)
  have hown : s.vm.findClass RX10 = some m.cls := findClass_of_methodNamed B.named
  have S : CallFix p m c cX10_isRoad 3 s _ TB RX10 := ⟨hx, hb, hml, hown, hT⟩
  have hP : va_P D vwCl [(u 0, .inr (10, [.int 0, .ref (u 1), .ref (u 2), .ref (u 3), .ref (u 4), .int 0, .ref (u 5), .int 0, .int 0, .int 0, .int 0, .int 0, .int 0, .int (-1), .ref (u 6), .ref (u 7), .ref (u 8), .ref (u 9), .ref (u 10), .ref (u 11), .int 0, .int 0, .int 0, .ref (u 12), .ref (u 13), .ref (u 14), .int 0, .int 0, .ref (u 15), .int 0, .ref (u 16), .int 0, .ref (u 17), .int 0, .ref (u 18), .ref (u 19), .ref (u 20), .ref (u 21)])), (u 1, .inl (k 0, 168, .inl (fun _ => 0))), (u 3, .inl (k 3, 3, .inl (fun _ => 0))), (u 18, .inl (k 0, 4, .inl mf))] s.heap := hF.1
  have hK := hF.2.1
  have hl := lv_entry ([.ref (u 0), .long p0]) (n := 3) (Nat.le_of_ble_eq_true rfl)
  rw [lg_entry_eq]
  generalize (lg_sl ([.ref (u 0), .long p0]) ++ List.replicate (3 - (lg_sl ([.ref (u 0), .long p0])).length) Slot.unset).toArray = ls at hl ⊢
  have hl : lv_has ls 3 [(0, .ref (u 0)), (1, .long p0)] := hl
  refine lv_lload_n hx hb dX10_isRoad_0 rfl (lv_at hl 1 rfl) ?_
  refine lv_lconst (v := 0) hx hb dX10_isRoad_1 (by decide) ?_
  refine lv_aload_n hx hb dX10_isRoad_2 rfl (lv_at hl 0 rfl) ?_
  refine va_get (D := D) (ci := 10) (v := .ref (u 1)) (C := RX10) (T := TX10) (N := 38) hx hb hT in_X10 hown hK hP 0 rfl rfl 1 (by decide) (hT _ t1263) (fun _ h9 => h9) rfl dX10_isRoad_3 ?_
  refine lv_iconst (v := 2) hx hb dX10_isRoad_6 (by decide) ?_
  refine va_iald hx hb hK hP 1 0 rfl rfl (by unfold vp_in; decide) dX10_isRoad_7 ?_
  refine k_top (y := 0) rfl ?_
  refine lv_iconst (v := 1) hx hb dX10_isRoad_8 (by decide) ?_
  refine lv_isub hx hb dX10_isRoad_9 ?_
  refine k_top (y := (-1)) (by decide) ?_
  refine lv_i2l (v := (-1)) hx hb dX10_isRoad_10 (by decide) ?_
  refine ro_S (As := [.long p0, .long 0, .long (-1)]) (rest := []) S (c_X10_in l D k u mf p0 0 (-1)) lkX10_85 ok_X10_in ⟨rfl, rfl, Nat.le_of_ble_eq_true rfl, Nat.le_of_ble_eq_true rfl⟩ (mw_S hF) rfl hl.1 rfl (Nat.le_of_ble_eq_true rfl) ⟨Nat.zero_le _, Nat.zero_le _⟩ dX10_isRoad_11 (fun r_1 er_1 => ?_)
  rcases er_1 with ⟨er_1, gr_1⟩ | ⟨er_1, gr_1⟩
  · subst er_1
    exact absurd gr_1 (no_in _)
  · subst er_1
    exact W.zret (v := 0) (ty := .boolean) hx hb hr rfl (fun t ht hW => ⟨0, rfl, rfl, ht⟩) (fun _ h9 => by cases h9) dX10_isRoad_14
set_option maxHeartbeats 4000000 in
set_option maxRecDepth 100000 in
theorem c_X10_isWheel (l : Launch) (D : va_G) (k : Nat → ClassId) (u : Nat → Nat) (mf : Nat → Int32) (p0 : Int32)  : Met l yX10_isWheel (.code yX10_isWheel cX10_isWheel 2 (some .boolean) :: TB) (rmk 2) (va_Pc [.ref (u 0), .int p0] (fun U => MWH D k u mf U U.heap)) (vp_Si (fun r => r = 0)) 0 0 (fun _ => False) := by
  refine Met.ofW (cc := cX10_isWheel) (maxL := 2) (ret := (some .boolean)) (by decide) rfl ?_
  intro p e s m args below meth c s₁ B hml hv
  obtain ⟨rfl, hF⟩ := hv
  have hx := B.exec
  have hb := B.bytes
  have hr := B.returns
  have hT : ∀ w ∈ TB, w.before ([.ref (u 0), .int p0] : List Value).toArray s = true := fun w h => atoms_spec (ws := .code yX10_isWheel cX10_isWheel 2 (some .boolean) :: TB) B.pre w (List.mem_cons_of_mem _ h)
  have hown : s.vm.findClass RX10 = some m.cls := findClass_of_methodNamed B.named
  have S : CallFix p m c cX10_isWheel 2 s _ TB RX10 := ⟨hx, hb, hml, hown, hT⟩
  have hP : va_P D vwCl [(u 0, .inr (10, [.int 0, .ref (u 1), .ref (u 2), .ref (u 3), .ref (u 4), .int 0, .ref (u 5), .int 0, .int 0, .int 0, .int 0, .int 0, .int 0, .int (-1), .ref (u 6), .ref (u 7), .ref (u 8), .ref (u 9), .ref (u 10), .ref (u 11), .int 0, .int 0, .int 0, .ref (u 12), .ref (u 13), .ref (u 14), .int 0, .int 0, .ref (u 15), .int 0, .ref (u 16), .int 0, .ref (u 17), .int 0, .ref (u 18), .ref (u 19), .ref (u 20), .ref (u 21)])), (u 1, .inl (k 0, 168, .inl (fun _ => 0))), (u 3, .inl (k 3, 3, .inl (fun _ => 0))), (u 18, .inl (k 0, 4, .inl mf))] s.heap := hF.1
  have hK := hF.2.1
  have hl := lv_entry ([.ref (u 0), .int p0]) (n := 2) (Nat.le_of_ble_eq_true rfl)
  rw [lg_entry_eq]
  generalize (lg_sl ([.ref (u 0), .int p0]) ++ List.replicate (2 - (lg_sl ([.ref (u 0), .int p0])).length) Slot.unset).toArray = ls at hl ⊢
  have hl : lv_has ls 2 [(0, .ref (u 0)), (1, .int p0)] := hl
  refine lv_iload_n hx hb dX10_isWheel_0 rfl (lv_at hl 1 rfl) ?_
  refine lv_i2l (v := p0.toInt64) hx hb dX10_isWheel_1 rfl ?_
  refine lv_lconst (v := 0) hx hb dX10_isWheel_2 (by decide) ?_
  refine lv_aload_n hx hb dX10_isWheel_3 rfl (lv_at hl 0 rfl) ?_
  refine va_get (D := D) (ci := 10) (v := .ref (u 1)) (C := RX10) (T := TX10) (N := 38) hx hb hT in_X10 hown hK hP 0 rfl rfl 1 (by decide) (hT _ t1263) (fun _ h9 => h9) rfl dX10_isWheel_4 ?_
  refine lv_iconst (v := 3) hx hb dX10_isWheel_7 (by decide) ?_
  refine va_iald hx hb hK hP 1 0 rfl rfl (by unfold vp_in; decide) dX10_isWheel_8 ?_
  refine k_top (y := 0) rfl ?_
  refine lv_iconst (v := 1) hx hb dX10_isWheel_9 (by decide) ?_
  refine lv_isub hx hb dX10_isWheel_10 ?_
  refine k_top (y := (-1)) (by decide) ?_
  refine lv_i2l (v := (-1)) hx hb dX10_isWheel_11 (by decide) ?_
  refine ro_S (As := [.long p0.toInt64, .long 0, .long (-1)]) (rest := []) S (c_X10_in l D k u mf p0.toInt64 0 (-1)) lkX10_85 ok_X10_in ⟨rfl, rfl, Nat.le_of_ble_eq_true rfl, Nat.le_of_ble_eq_true rfl⟩ (mw_S hF) rfl hl.1 rfl (Nat.le_of_ble_eq_true rfl) ⟨Nat.zero_le _, Nat.zero_le _⟩ dX10_isWheel_12 (fun r_1 er_1 => ?_)
  rcases er_1 with ⟨er_1, gr_1⟩ | ⟨er_1, gr_1⟩
  · subst er_1
    exact absurd gr_1 (no_in _)
  · subst er_1
    exact W.zret (v := 0) (ty := .boolean) hx hb hr rfl (fun t ht hW => ⟨0, rfl, rfl, ht⟩) (fun _ h9 => by cases h9) dX10_isWheel_15
set_option maxHeartbeats 4000000 in
set_option maxRecDepth 100000 in
theorem c_X10_isCart (l : Launch) (D : va_G) (k : Nat → ClassId) (u : Nat → Nat) (mf : Nat → Int32) (p0 : Int32)  : Met l yX10_isCart (.code yX10_isCart cX10_isCart 2 (some .boolean) :: TB) (rmk 2) (va_Pc [.ref (u 0), .int p0] (fun U => MWH D k u mf U U.heap)) (vp_Si (fun r => r = 0)) 0 0 (fun _ => False) := by
  refine Met.ofW (cc := cX10_isCart) (maxL := 2) (ret := (some .boolean)) (by decide) rfl ?_
  intro p e s m args below meth c s₁ B hml hv
  obtain ⟨rfl, hF⟩ := hv
  have hx := B.exec
  have hb := B.bytes
  have hr := B.returns
  have hT : ∀ w ∈ TB, w.before ([.ref (u 0), .int p0] : List Value).toArray s = true := fun w h => atoms_spec (ws := .code yX10_isCart cX10_isCart 2 (some .boolean) :: TB) B.pre w (List.mem_cons_of_mem _ h)
  have hown : s.vm.findClass RX10 = some m.cls := findClass_of_methodNamed B.named
  have S : CallFix p m c cX10_isCart 2 s _ TB RX10 := ⟨hx, hb, hml, hown, hT⟩
  have hP : va_P D vwCl [(u 0, .inr (10, [.int 0, .ref (u 1), .ref (u 2), .ref (u 3), .ref (u 4), .int 0, .ref (u 5), .int 0, .int 0, .int 0, .int 0, .int 0, .int 0, .int (-1), .ref (u 6), .ref (u 7), .ref (u 8), .ref (u 9), .ref (u 10), .ref (u 11), .int 0, .int 0, .int 0, .ref (u 12), .ref (u 13), .ref (u 14), .int 0, .int 0, .ref (u 15), .int 0, .ref (u 16), .int 0, .ref (u 17), .int 0, .ref (u 18), .ref (u 19), .ref (u 20), .ref (u 21)])), (u 1, .inl (k 0, 168, .inl (fun _ => 0))), (u 3, .inl (k 3, 3, .inl (fun _ => 0))), (u 18, .inl (k 0, 4, .inl mf))] s.heap := hF.1
  have hK := hF.2.1
  have hl := lv_entry ([.ref (u 0), .int p0]) (n := 2) (Nat.le_of_ble_eq_true rfl)
  rw [lg_entry_eq]
  generalize (lg_sl ([.ref (u 0), .int p0]) ++ List.replicate (2 - (lg_sl ([.ref (u 0), .int p0])).length) Slot.unset).toArray = ls at hl ⊢
  have hl : lv_has ls 2 [(0, .ref (u 0)), (1, .int p0)] := hl
  refine lv_iload_n hx hb dX10_isCart_0 rfl (lv_at hl 1 rfl) ?_
  refine lv_i2l (v := p0.toInt64) hx hb dX10_isCart_1 rfl ?_
  refine lv_lconst (v := 0) hx hb dX10_isCart_2 (by decide) ?_
  refine lv_aload_n hx hb dX10_isCart_3 rfl (lv_at hl 0 rfl) ?_
  refine va_get (D := D) (ci := 10) (v := .ref (u 1)) (C := RX10) (T := TX10) (N := 38) hx hb hT in_X10 hown hK hP 0 rfl rfl 1 (by decide) (hT _ t1263) (fun _ h9 => h9) rfl dX10_isCart_4 ?_
  refine lv_iconst (v := 4) hx hb dX10_isCart_7 (by decide) ?_
  refine va_iald hx hb hK hP 1 0 rfl rfl (by unfold vp_in; decide) dX10_isCart_8 ?_
  refine k_top (y := 0) rfl ?_
  refine lv_iconst (v := 1) hx hb dX10_isCart_9 (by decide) ?_
  refine lv_isub hx hb dX10_isCart_10 ?_
  refine k_top (y := (-1)) (by decide) ?_
  refine lv_i2l (v := (-1)) hx hb dX10_isCart_11 (by decide) ?_
  refine ro_S (As := [.long p0.toInt64, .long 0, .long (-1)]) (rest := []) S (c_X10_in l D k u mf p0.toInt64 0 (-1)) lkX10_85 ok_X10_in ⟨rfl, rfl, Nat.le_of_ble_eq_true rfl, Nat.le_of_ble_eq_true rfl⟩ (mw_S hF) rfl hl.1 rfl (Nat.le_of_ble_eq_true rfl) ⟨Nat.zero_le _, Nat.zero_le _⟩ dX10_isCart_12 (fun r_1 er_1 => ?_)
  rcases er_1 with ⟨er_1, gr_1⟩ | ⟨er_1, gr_1⟩
  · subst er_1
    exact absurd gr_1 (no_in _)
  · subst er_1
    exact W.zret (v := 0) (ty := .boolean) hx hb hr rfl (fun t ht hW => ⟨0, rfl, rfl, ht⟩) (fun _ h9 => by cases h9) dX10_isCart_15
set_option maxHeartbeats 4000000 in
set_option maxRecDepth 100000 in
theorem c_X10_isSlot (l : Launch) (D : va_G) (k : Nat → ClassId) (u : Nat → Nat) (mf : Nat → Int32) (p0 : Int32)  : Met l yX10_isSlot (.code yX10_isSlot cX10_isSlot 1 (some .boolean) :: TB) (rmk 2) (va_Pc [.int p0] (fun U => MWH D k u mf U U.heap)) (vp_Si (fun r => (r = 1 ∧ in4 p0) ∨ (r = 0 ∧ (p0 < 0 ∨ 4 ≤ p0)))) 0 0 (fun _ => False) := by
  refine Met.ofW (cc := cX10_isSlot) (maxL := 1) (ret := (some .boolean)) (by decide) rfl ?_
  intro p e s m args below meth c s₁ B hml hv
  obtain ⟨rfl, hF⟩ := hv
  have hx := B.exec
  have hb := B.bytes
  have hr := B.returns
  have hT : ∀ w ∈ TB, w.before ([.int p0] : List Value).toArray s = true := fun w h => atoms_spec (ws := .code yX10_isSlot cX10_isSlot 1 (some .boolean) :: TB) B.pre w (List.mem_cons_of_mem _ h)
  have hown : s.vm.findClass RX10 = some m.cls := findClass_of_methodNamed B.named
  have S : CallFix p m c cX10_isSlot 1 s _ TB RX10 := ⟨hx, hb, hml, hown, hT⟩
  have hP : va_P D vwCl [(u 0, .inr (10, [.int 0, .ref (u 1), .ref (u 2), .ref (u 3), .ref (u 4), .int 0, .ref (u 5), .int 0, .int 0, .int 0, .int 0, .int 0, .int 0, .int (-1), .ref (u 6), .ref (u 7), .ref (u 8), .ref (u 9), .ref (u 10), .ref (u 11), .int 0, .int 0, .int 0, .ref (u 12), .ref (u 13), .ref (u 14), .int 0, .int 0, .ref (u 15), .int 0, .ref (u 16), .int 0, .ref (u 17), .int 0, .ref (u 18), .ref (u 19), .ref (u 20), .ref (u 21)])), (u 1, .inl (k 0, 168, .inl (fun _ => 0))), (u 3, .inl (k 3, 3, .inl (fun _ => 0))), (u 18, .inl (k 0, 4, .inl mf))] s.heap := hF.1
  have hK := hF.2.1
  have hl := lv_entry ([.int p0]) (n := 1) (Nat.le_of_ble_eq_true rfl)
  rw [lg_entry_eq]
  generalize (lg_sl ([.int p0]) ++ List.replicate (1 - (lg_sl ([.int p0])).length) Slot.unset).toArray = ls at hl ⊢
  have hl : lv_has ls 1 [(0, .int p0)] := hl
  refine lv_iload_n hx hb dX10_isSlot_0 rfl (lv_at hl 0 rfl) ?_
  refine lv_i2l (v := p0.toInt64) hx hb dX10_isSlot_1 rfl ?_
  refine lv_lconst (v := 0) hx hb dX10_isSlot_2 (by decide) ?_
  refine lv_ldc2 (v := 3) hx hb hown (hT _ t1665) dX10_isSlot_3 ?_
  refine ro_S (As := [.long p0.toInt64, .long 0, .long 3]) (rest := []) S (c_X10_in l D k u mf p0.toInt64 0 3) lkX10_85 ok_X10_in ⟨rfl, rfl, Nat.le_of_ble_eq_true rfl, Nat.le_of_ble_eq_true rfl⟩ (mw_S hF) rfl hl.1 rfl (Nat.le_of_ble_eq_true rfl) ⟨Nat.zero_le _, Nat.zero_le _⟩ dX10_isSlot_6 (fun r_1 er_1 => ?_)
  rcases er_1 with ⟨er_1, gr_1⟩ | ⟨er_1, gr_1⟩
  · subst er_1
    exact W.zret (v := 1) (ty := .boolean) hx hb hr rfl (fun t ht hW => ⟨1, rfl, Or.inl ⟨rfl, in4_of gr_1⟩, ht⟩) (fun _ h9 => by cases h9) dX10_isSlot_9
  · subst er_1
    exact W.zret (v := 0) (ty := .boolean) hx hb hr rfl (fun t ht hW => ⟨0, rfl, Or.inr ⟨rfl, out4_of gr_1⟩, ht⟩) (fun _ h9 => by cases h9) dX10_isSlot_9
set_option maxHeartbeats 4000000 in
set_option maxRecDepth 100000 in
theorem c_X10_canWant (l : Launch) (D : va_G) (k : Nat → ClassId) (u : Nat → Nat) (mf : Nat → Int32) (p0 : Int32) (p1 : Int64)  : Met l yX10_canWant (.code yX10_canWant cX10_canWant 4 (some .boolean) :: TB) (rmk 3) (va_Pc [.ref (u 0), .int p0, .long p1] (fun U => MWH D k u mf U U.heap)) (vp_Si (fun r => r = 0)) 0 0 (fun _ => False) := by
  refine Met.ofW (cc := cX10_canWant) (maxL := 4) (ret := (some .boolean)) (by decide) rfl ?_
  intro p e s m args below meth c s₁ B hml hv
  obtain ⟨rfl, hF⟩ := hv
  have hx := B.exec
  have hb := B.bytes
  have hr := B.returns
  have hT : ∀ w ∈ TB, w.before ([.ref (u 0), .int p0, .long p1] : List Value).toArray s = true := fun w h => atoms_spec (ws := .code yX10_canWant cX10_canWant 4 (some .boolean) :: TB) B.pre w (List.mem_cons_of_mem _ h)
  have hown : s.vm.findClass RX10 = some m.cls := findClass_of_methodNamed B.named
  have S : CallFix p m c cX10_canWant 4 s _ TB RX10 := ⟨hx, hb, hml, hown, hT⟩
  have hP : va_P D vwCl [(u 0, .inr (10, [.int 0, .ref (u 1), .ref (u 2), .ref (u 3), .ref (u 4), .int 0, .ref (u 5), .int 0, .int 0, .int 0, .int 0, .int 0, .int 0, .int (-1), .ref (u 6), .ref (u 7), .ref (u 8), .ref (u 9), .ref (u 10), .ref (u 11), .int 0, .int 0, .int 0, .ref (u 12), .ref (u 13), .ref (u 14), .int 0, .int 0, .ref (u 15), .int 0, .ref (u 16), .int 0, .ref (u 17), .int 0, .ref (u 18), .ref (u 19), .ref (u 20), .ref (u 21)])), (u 1, .inl (k 0, 168, .inl (fun _ => 0))), (u 3, .inl (k 3, 3, .inl (fun _ => 0))), (u 18, .inl (k 0, 4, .inl mf))] s.heap := hF.1
  have hK := hF.2.1
  have hl := lv_entry ([.ref (u 0), .int p0, .long p1]) (n := 4) (Nat.le_of_ble_eq_true rfl)
  rw [lg_entry_eq]
  generalize (lg_sl ([.ref (u 0), .int p0, .long p1]) ++ List.replicate (4 - (lg_sl ([.ref (u 0), .int p0, .long p1])).length) Slot.unset).toArray = ls at hl ⊢
  have hl : lv_has ls 4 [(0, .ref (u 0)), (1, .int p0), (2, .long p1)] := hl
  refine lv_aload_n hx hb dX10_canWant_0 rfl (lv_at hl 0 rfl) ?_
  refine lv_iload_n hx hb dX10_canWant_1 rfl (lv_at hl 1 rfl) ?_
  refine ro_V (As := [.int p0]) (rest := []) S (c_X10_isCart l D k u mf p0) lkX10_279 ok_X10_isCart ⟨rfl, rfl, Nat.le_of_ble_eq_true rfl, Nat.le_of_ble_eq_true rfl⟩ (mw_V (ci := 10) (q0 := 0) hF rfl rfl) rfl hl.1 rfl (Nat.le_of_ble_eq_true rfl) ⟨Nat.zero_le _, Nat.zero_le _⟩ dX10_canWant_2 (fun r_1 er_1 => ?_)
  subst er_1
  refine lv_if_eq (tgt := 24) hx hb dX10_canWant_5 (by decide) (fun c_2 => ?_) (fun c_2 => ?_)
  rotate_left
  · first | exact absurd c_2 (by decide) | exact absurd (by decide) c_2
  refine lv_iconst (v := 0) hx hb dX10_canWant_24 (by decide) ?_
  exact W.zret (v := 0) (ty := .boolean) hx hb hr rfl (fun t ht hW => ⟨0, rfl, rfl, ht⟩) (fun _ h9 => by cases h9) dX10_canWant_25
set_option maxHeartbeats 4000000 in
set_option maxRecDepth 100000 in
theorem c_X10_asksRow (l : Launch) (D : va_G) (k : Nat → ClassId) (u : Nat → Nat) (mf : Nat → Int32) (p0 : Int32) (p1 : Int32)  : Met l yX10_asksRow (.code yX10_asksRow cX10_asksRow 4 (some .int) :: TB) (rmk 3) (va_Pc [.ref (u 0), .int p0, .int p1] (fun U => MWH D k u mf U U.heap)) (vp_Si (fun r => r = (-2))) 0 0 (fun _ => False) := by
  refine Met.ofW (cc := cX10_asksRow) (maxL := 4) (ret := (some .int)) (by decide) rfl ?_
  intro p e s m args below meth c s₁ B hml hv
  obtain ⟨rfl, hF⟩ := hv
  have hx := B.exec
  have hb := B.bytes
  have hr := B.returns
  have hT : ∀ w ∈ TB, w.before ([.ref (u 0), .int p0, .int p1] : List Value).toArray s = true := fun w h => atoms_spec (ws := .code yX10_asksRow cX10_asksRow 4 (some .int) :: TB) B.pre w (List.mem_cons_of_mem _ h)
  have hown : s.vm.findClass RX10 = some m.cls := findClass_of_methodNamed B.named
  have S : CallFix p m c cX10_asksRow 4 s _ TB RX10 := ⟨hx, hb, hml, hown, hT⟩
  have hP : va_P D vwCl [(u 0, .inr (10, [.int 0, .ref (u 1), .ref (u 2), .ref (u 3), .ref (u 4), .int 0, .ref (u 5), .int 0, .int 0, .int 0, .int 0, .int 0, .int 0, .int (-1), .ref (u 6), .ref (u 7), .ref (u 8), .ref (u 9), .ref (u 10), .ref (u 11), .int 0, .int 0, .int 0, .ref (u 12), .ref (u 13), .ref (u 14), .int 0, .int 0, .ref (u 15), .int 0, .ref (u 16), .int 0, .ref (u 17), .int 0, .ref (u 18), .ref (u 19), .ref (u 20), .ref (u 21)])), (u 1, .inl (k 0, 168, .inl (fun _ => 0))), (u 3, .inl (k 3, 3, .inl (fun _ => 0))), (u 18, .inl (k 0, 4, .inl mf))] s.heap := hF.1
  have hK := hF.2.1
  have hl := lv_entry ([.ref (u 0), .int p0, .int p1]) (n := 4) (Nat.le_of_ble_eq_true rfl)
  rw [lg_entry_eq]
  generalize (lg_sl ([.ref (u 0), .int p0, .int p1]) ++ List.replicate (4 - (lg_sl ([.ref (u 0), .int p0, .int p1])).length) Slot.unset).toArray = ls at hl ⊢
  have hl : lv_has ls 4 [(0, .ref (u 0)), (1, .int p0), (2, .int p1)] := hl
  refine lv_iload_n hx hb dX10_asksRow_0 rfl (lv_at hl 1 rfl) ?_
  refine ro_S (As := [.int p0]) (rest := []) S (c_X10_isSlot l D k u mf p0) lkX10_300 ok_X10_isSlot ⟨rfl, rfl, Nat.le_of_ble_eq_true rfl, Nat.le_of_ble_eq_true rfl⟩ (mw_S hF) rfl hl.1 rfl (Nat.le_of_ble_eq_true rfl) ⟨Nat.zero_le _, Nat.zero_le _⟩ dX10_asksRow_1 (fun r_1 er_1 => ?_)
  rcases er_1 with ⟨er_1, gr_1⟩ | ⟨er_1, gr_1⟩
  · subst er_1
    refine lv_if_eq (tgt := 15) hx hb dX10_asksRow_4 (by decide) (fun c_2 => ?_) (fun c_2 => ?_)
    · first | exact absurd c_2 (by decide) | exact absurd (by decide) c_2
    refine lv_aload_n hx hb dX10_asksRow_7 rfl (lv_at hl 0 rfl) ?_
    refine lv_iload_n hx hb dX10_asksRow_8 rfl (lv_at hl 2 rfl) ?_
    refine ro_V (As := [.int p1]) (rest := []) S (c_X10_isCart l D k u mf p1) lkX10_279 ok_X10_isCart ⟨rfl, rfl, Nat.le_of_ble_eq_true rfl, Nat.le_of_ble_eq_true rfl⟩ (mw_V (ci := 10) (q0 := 0) hF rfl rfl) rfl hl.1 rfl (Nat.le_of_ble_eq_true rfl) ⟨Nat.zero_le _, Nat.zero_le _⟩ dX10_asksRow_9 (fun r_3 er_3 => ?_)
    subst er_3
    refine lv_if_ne (tgt := 18) hx hb dX10_asksRow_12 (by decide) (fun c_4 => ?_) (fun c_4 => ?_)
    · first | exact absurd c_4 (by decide) | exact absurd (by decide) c_4
    refine lv_bipush (v := (-2)) hx hb dX10_asksRow_15 (by decide) ?_
    exact W.iret (v := (-2)) hx hb hr (fun t ht hW => ⟨(-2), rfl, rfl, ht⟩) (fun _ h9 => by cases h9) dX10_asksRow_17
  · subst er_1
    refine lv_if_eq (tgt := 15) hx hb dX10_asksRow_4 (by decide) (fun c_5 => ?_) (fun c_5 => ?_)
    rotate_left
    · first | exact absurd c_5 (by decide) | exact absurd (by decide) c_5
    refine lv_bipush (v := (-2)) hx hb dX10_asksRow_15 (by decide) ?_
    exact W.iret (v := (-2)) hx hb hr (fun t ht hW => ⟨(-2), rfl, rfl, ht⟩) (fun _ h9 => by cases h9) dX10_asksRow_17
set_option maxHeartbeats 4000000 in
set_option maxRecDepth 100000 in
theorem c_X10_asksSeen (l : Launch) (D : va_G) (k : Nat → ClassId) (u : Nat → Nat) (mf : Nat → Int32) (p0 : Int32)  : Met l yX10_asksSeen (.code yX10_asksSeen cX10_asksSeen 3 (some .int) :: TB) (rmk 3) (va_Pc [.ref (u 0), .int p0] (fun U => MWH D k u mf U U.heap)) (vp_Si (fun r => r = (-2))) 0 0 (fun _ => False) := by
  refine Met.ofW (cc := cX10_asksSeen) (maxL := 3) (ret := (some .int)) (by decide) rfl ?_
  intro p e s m args below meth c s₁ B hml hv
  obtain ⟨rfl, hF⟩ := hv
  have hx := B.exec
  have hb := B.bytes
  have hr := B.returns
  have hT : ∀ w ∈ TB, w.before ([.ref (u 0), .int p0] : List Value).toArray s = true := fun w h => atoms_spec (ws := .code yX10_asksSeen cX10_asksSeen 3 (some .int) :: TB) B.pre w (List.mem_cons_of_mem _ h)
  have hown : s.vm.findClass RX10 = some m.cls := findClass_of_methodNamed B.named
  have S : CallFix p m c cX10_asksSeen 3 s _ TB RX10 := ⟨hx, hb, hml, hown, hT⟩
  have hP : va_P D vwCl [(u 0, .inr (10, [.int 0, .ref (u 1), .ref (u 2), .ref (u 3), .ref (u 4), .int 0, .ref (u 5), .int 0, .int 0, .int 0, .int 0, .int 0, .int 0, .int (-1), .ref (u 6), .ref (u 7), .ref (u 8), .ref (u 9), .ref (u 10), .ref (u 11), .int 0, .int 0, .int 0, .ref (u 12), .ref (u 13), .ref (u 14), .int 0, .int 0, .ref (u 15), .int 0, .ref (u 16), .int 0, .ref (u 17), .int 0, .ref (u 18), .ref (u 19), .ref (u 20), .ref (u 21)])), (u 1, .inl (k 0, 168, .inl (fun _ => 0))), (u 3, .inl (k 3, 3, .inl (fun _ => 0))), (u 18, .inl (k 0, 4, .inl mf))] s.heap := hF.1
  have hK := hF.2.1
  have hl := lv_entry ([.ref (u 0), .int p0]) (n := 3) (Nat.le_of_ble_eq_true rfl)
  rw [lg_entry_eq]
  generalize (lg_sl ([.ref (u 0), .int p0]) ++ List.replicate (3 - (lg_sl ([.ref (u 0), .int p0])).length) Slot.unset).toArray = ls at hl ⊢
  have hl : lv_has ls 3 [(0, .ref (u 0)), (1, .int p0)] := hl
  refine lv_iload_n hx hb dX10_asksSeen_0 rfl (lv_at hl 1 rfl) ?_
  refine ro_S (As := [.int p0]) (rest := []) S (c_X10_isSlot l D k u mf p0) lkX10_300 ok_X10_isSlot ⟨rfl, rfl, Nat.le_of_ble_eq_true rfl, Nat.le_of_ble_eq_true rfl⟩ (mw_S hF) rfl hl.1 rfl (Nat.le_of_ble_eq_true rfl) ⟨Nat.zero_le _, Nat.zero_le _⟩ dX10_asksSeen_1 (fun r_1 er_1 => ?_)
  rcases er_1 with ⟨er_1, gr_1⟩ | ⟨er_1, gr_1⟩
  · subst er_1
    refine lv_if_eq (tgt := 14) hx hb dX10_asksSeen_4 (by decide) (fun c_2 => ?_) (fun c_2 => ?_)
    · first | exact absurd c_2 (by decide) | exact absurd (by decide) c_2
    refine lv_aload_n hx hb dX10_asksSeen_7 rfl (lv_at hl 0 rfl) ?_
    refine ro_V (As := []) (rest := []) S (c_X10_isLand l D k u mf ) lkX10_297 ok_X10_isLand ⟨rfl, rfl, Nat.le_of_ble_eq_true rfl, Nat.le_of_ble_eq_true rfl⟩ (mw_V (ci := 10) (q0 := 0) hF rfl rfl) rfl hl.1 rfl (Nat.le_of_ble_eq_true rfl) ⟨Nat.zero_le _, Nat.zero_le _⟩ dX10_asksSeen_8 (fun r_3 er_3 => ?_)
    subst er_3
    refine lv_if_ne (tgt := 17) hx hb dX10_asksSeen_11 (by decide) (fun c_4 => ?_) (fun c_4 => ?_)
    · first | exact absurd c_4 (by decide) | exact absurd (by decide) c_4
    refine lv_bipush (v := (-2)) hx hb dX10_asksSeen_14 (by decide) ?_
    exact W.iret (v := (-2)) hx hb hr (fun t ht hW => ⟨(-2), rfl, rfl, ht⟩) (fun _ h9 => by cases h9) dX10_asksSeen_16
  · subst er_1
    refine lv_if_eq (tgt := 14) hx hb dX10_asksSeen_4 (by decide) (fun c_5 => ?_) (fun c_5 => ?_)
    rotate_left
    · first | exact absurd c_5 (by decide) | exact absurd (by decide) c_5
    refine lv_bipush (v := (-2)) hx hb dX10_asksSeen_14 (by decide) ?_
    exact W.iret (v := (-2)) hx hb hr (fun t ht hW => ⟨(-2), rfl, rfl, ht⟩) (fun _ h9 => by cases h9) dX10_asksSeen_16
set_option maxHeartbeats 4000000 in
set_option maxRecDepth 100000 in
theorem c_X10_isDrawn (l : Launch) (D : va_G) (k : Nat → ClassId) (u : Nat → Nat) (mf : Nat → Int32) (p0 : Int32) (p1 : Int32) (p2 : Int32)  : Met l yX10_isDrawn (.code yX10_isDrawn cX10_isDrawn 4 (some .boolean) :: TB) (rmk 3) (va_Pc [.ref (u 0), .int p0, .int p1, .int p2] (fun U => MWH D k u mf U U.heap)) (vp_Si (fun r => r = 0)) 0 0 (fun _ => False) := by
  refine Met.ofW (cc := cX10_isDrawn) (maxL := 4) (ret := (some .boolean)) (by decide) rfl ?_
  intro p e s m args below meth c s₁ B hml hv
  obtain ⟨rfl, hF⟩ := hv
  have hx := B.exec
  have hb := B.bytes
  have hr := B.returns
  have hT : ∀ w ∈ TB, w.before ([.ref (u 0), .int p0, .int p1, .int p2] : List Value).toArray s = true := fun w h => atoms_spec (ws := .code yX10_isDrawn cX10_isDrawn 4 (some .boolean) :: TB) B.pre w (List.mem_cons_of_mem _ h)
  have hown : s.vm.findClass RX10 = some m.cls := findClass_of_methodNamed B.named
  have S : CallFix p m c cX10_isDrawn 4 s _ TB RX10 := ⟨hx, hb, hml, hown, hT⟩
  have hP : va_P D vwCl [(u 0, .inr (10, [.int 0, .ref (u 1), .ref (u 2), .ref (u 3), .ref (u 4), .int 0, .ref (u 5), .int 0, .int 0, .int 0, .int 0, .int 0, .int 0, .int (-1), .ref (u 6), .ref (u 7), .ref (u 8), .ref (u 9), .ref (u 10), .ref (u 11), .int 0, .int 0, .int 0, .ref (u 12), .ref (u 13), .ref (u 14), .int 0, .int 0, .ref (u 15), .int 0, .ref (u 16), .int 0, .ref (u 17), .int 0, .ref (u 18), .ref (u 19), .ref (u 20), .ref (u 21)])), (u 1, .inl (k 0, 168, .inl (fun _ => 0))), (u 3, .inl (k 3, 3, .inl (fun _ => 0))), (u 18, .inl (k 0, 4, .inl mf))] s.heap := hF.1
  have hK := hF.2.1
  have hl := lv_entry ([.ref (u 0), .int p0, .int p1, .int p2]) (n := 4) (Nat.le_of_ble_eq_true rfl)
  rw [lg_entry_eq]
  generalize (lg_sl ([.ref (u 0), .int p0, .int p1, .int p2]) ++ List.replicate (4 - (lg_sl ([.ref (u 0), .int p0, .int p1, .int p2])).length) Slot.unset).toArray = ls at hl ⊢
  have hl : lv_has ls 4 [(0, .ref (u 0)), (1, .int p0), (2, .int p1), (3, .int p2)] := hl
  refine lv_iload_n hx hb dX10_isDrawn_0 rfl (lv_at hl 1 rfl) ?_
  refine lv_i2l (v := p0.toInt64) hx hb dX10_isDrawn_1 rfl ?_
  refine lv_lconst (v := 0) hx hb dX10_isDrawn_2 (by decide) ?_
  refine lv_ldc2 (v := 2000000000) hx hb hown (hT _ t1897) dX10_isDrawn_3 ?_
  refine ro_S (As := [.long p0.toInt64, .long 0, .long 2000000000]) (rest := []) S (c_X10_in l D k u mf p0.toInt64 0 2000000000) lkX10_85 ok_X10_in ⟨rfl, rfl, Nat.le_of_ble_eq_true rfl, Nat.le_of_ble_eq_true rfl⟩ (mw_S hF) rfl hl.1 rfl (Nat.le_of_ble_eq_true rfl) ⟨Nat.zero_le _, Nat.zero_le _⟩ dX10_isDrawn_6 (fun r_1 er_1 => ?_)
  rcases er_1 with ⟨er_1, gr_1⟩ | ⟨er_1, gr_1⟩
  · subst er_1
    refine lv_if_eq (tgt := 36) hx hb dX10_isDrawn_9 (by decide) (fun c_2 => ?_) (fun c_2 => ?_)
    · first | exact absurd c_2 (by decide) | exact absurd (by decide) c_2
    refine lv_aload_n hx hb dX10_isDrawn_12 rfl (lv_at hl 0 rfl) ?_
    refine lv_iload_n hx hb dX10_isDrawn_13 rfl (lv_at hl 2 rfl) ?_
    refine ro_V (As := [.int p1]) (rest := []) S (c_X10_isCart l D k u mf p1) lkX10_279 ok_X10_isCart ⟨rfl, rfl, Nat.le_of_ble_eq_true rfl, Nat.le_of_ble_eq_true rfl⟩ (mw_V (ci := 10) (q0 := 0) hF rfl rfl) rfl hl.1 rfl (Nat.le_of_ble_eq_true rfl) ⟨Nat.zero_le _, Nat.zero_le _⟩ dX10_isDrawn_14 (fun r_3 er_3 => ?_)
    subst er_3
    refine lv_if_eq (tgt := 36) hx hb dX10_isDrawn_17 (by decide) (fun c_4 => ?_) (fun c_4 => ?_)
    rotate_left
    · first | exact absurd c_4 (by decide) | exact absurd (by decide) c_4
    refine lv_iconst (v := 0) hx hb dX10_isDrawn_36 (by decide) ?_
    exact W.zret (v := 0) (ty := .boolean) hx hb hr rfl (fun t ht hW => ⟨0, rfl, rfl, ht⟩) (fun _ h9 => by cases h9) dX10_isDrawn_37
  · subst er_1
    refine lv_if_eq (tgt := 36) hx hb dX10_isDrawn_9 (by decide) (fun c_5 => ?_) (fun c_5 => ?_)
    rotate_left
    · first | exact absurd c_5 (by decide) | exact absurd (by decide) c_5
    refine lv_iconst (v := 0) hx hb dX10_isDrawn_36 (by decide) ?_
    exact W.zret (v := 0) (ty := .boolean) hx hb hr rfl (fun t ht hW => ⟨0, rfl, rfl, ht⟩) (fun _ h9 => by cases h9) dX10_isDrawn_37
set_option maxHeartbeats 4000000 in
set_option maxRecDepth 100000 in
theorem c_X10_road (l : Launch) (D : va_G) (k : Nat → ClassId) (u : Nat → Nat) (mf : Nat → Int32) (p0 : Int32) (p1 : Int32)  : Met l yX10_road (.code yX10_road cX10_road 3 (some .int) :: TB) (rmk 3) (va_Pc [.ref (u 0), .int p0, .int p1] (fun U => MWH D k u mf U U.heap)) (vp_Si (fun r => r = (-2))) 0 0 (fun _ => False) := by
  refine Met.ofW (cc := cX10_road) (maxL := 3) (ret := (some .int)) (by decide) rfl ?_
  intro p e s m args below meth c s₁ B hml hv
  obtain ⟨rfl, hF⟩ := hv
  have hx := B.exec
  have hb := B.bytes
  have hr := B.returns
  have hT : ∀ w ∈ TB, w.before ([.ref (u 0), .int p0, .int p1] : List Value).toArray s = true := fun w h => atoms_spec (ws := .code yX10_road cX10_road 3 (some .int) :: TB) B.pre w (List.mem_cons_of_mem _ h)
  have hown : s.vm.findClass RX10 = some m.cls := findClass_of_methodNamed B.named
  have S : CallFix p m c cX10_road 3 s _ TB RX10 := ⟨hx, hb, hml, hown, hT⟩
  have hP : va_P D vwCl [(u 0, .inr (10, [.int 0, .ref (u 1), .ref (u 2), .ref (u 3), .ref (u 4), .int 0, .ref (u 5), .int 0, .int 0, .int 0, .int 0, .int 0, .int 0, .int (-1), .ref (u 6), .ref (u 7), .ref (u 8), .ref (u 9), .ref (u 10), .ref (u 11), .int 0, .int 0, .int 0, .ref (u 12), .ref (u 13), .ref (u 14), .int 0, .int 0, .ref (u 15), .int 0, .ref (u 16), .int 0, .ref (u 17), .int 0, .ref (u 18), .ref (u 19), .ref (u 20), .ref (u 21)])), (u 1, .inl (k 0, 168, .inl (fun _ => 0))), (u 3, .inl (k 3, 3, .inl (fun _ => 0))), (u 18, .inl (k 0, 4, .inl mf))] s.heap := hF.1
  have hK := hF.2.1
  have hl := lv_entry ([.ref (u 0), .int p0, .int p1]) (n := 3) (Nat.le_of_ble_eq_true rfl)
  rw [lg_entry_eq]
  generalize (lg_sl ([.ref (u 0), .int p0, .int p1]) ++ List.replicate (3 - (lg_sl ([.ref (u 0), .int p0, .int p1])).length) Slot.unset).toArray = ls at hl ⊢
  have hl : lv_has ls 3 [(0, .ref (u 0)), (1, .int p0), (2, .int p1)] := hl
  refine lv_aload_n hx hb dX10_road_0 rfl (lv_at hl 0 rfl) ?_
  refine lv_iload_n hx hb dX10_road_1 rfl (lv_at hl 1 rfl) ?_
  refine lv_i2l (v := p0.toInt64) hx hb dX10_road_2 rfl ?_
  refine ro_V (As := [.long p0.toInt64]) (rest := []) S (c_X10_isRoad l D k u mf p0.toInt64) lkX10_265 ok_X10_isRoad ⟨rfl, rfl, Nat.le_of_ble_eq_true rfl, Nat.le_of_ble_eq_true rfl⟩ (mw_V (ci := 10) (q0 := 0) hF rfl rfl) rfl hl.1 rfl (Nat.le_of_ble_eq_true rfl) ⟨Nat.zero_le _, Nat.zero_le _⟩ dX10_road_3 (fun r_1 er_1 => ?_)
  subst er_1
  refine lv_if_eq (tgt := 30) hx hb dX10_road_6 (by decide) (fun c_2 => ?_) (fun c_2 => ?_)
  rotate_left
  · first | exact absurd c_2 (by decide) | exact absurd (by decide) c_2
  refine lv_bipush (v := (-2)) hx hb dX10_road_30 (by decide) ?_
  exact W.iret (v := (-2)) hx hb hr (fun t ht hW => ⟨(-2), rfl, rfl, ht⟩) (fun _ h9 => by cases h9) dX10_road_32
set_option maxHeartbeats 4000000 in
set_option maxRecDepth 100000 in
theorem c_X10_likes (l : Launch) (D : va_G) (k : Nat → ClassId) (u : Nat → Nat) (mf : Nat → Int32) (p0 : Int32) (p1 : Int32)  : Met l yX10_likes (.code yX10_likes cX10_likes 3 (some .int) :: TB) (rmk 3) (va_Pc [.ref (u 0), .int p0, .int p1] (fun U => MWH D k u mf U U.heap)) (vp_Si (fun r => r = (-2))) 0 0 (fun _ => False) := by
  refine Met.ofW (cc := cX10_likes) (maxL := 3) (ret := (some .int)) (by decide) rfl ?_
  intro p e s m args below meth c s₁ B hml hv
  obtain ⟨rfl, hF⟩ := hv
  have hx := B.exec
  have hb := B.bytes
  have hr := B.returns
  have hT : ∀ w ∈ TB, w.before ([.ref (u 0), .int p0, .int p1] : List Value).toArray s = true := fun w h => atoms_spec (ws := .code yX10_likes cX10_likes 3 (some .int) :: TB) B.pre w (List.mem_cons_of_mem _ h)
  have hown : s.vm.findClass RX10 = some m.cls := findClass_of_methodNamed B.named
  have S : CallFix p m c cX10_likes 3 s _ TB RX10 := ⟨hx, hb, hml, hown, hT⟩
  have hP : va_P D vwCl [(u 0, .inr (10, [.int 0, .ref (u 1), .ref (u 2), .ref (u 3), .ref (u 4), .int 0, .ref (u 5), .int 0, .int 0, .int 0, .int 0, .int 0, .int 0, .int (-1), .ref (u 6), .ref (u 7), .ref (u 8), .ref (u 9), .ref (u 10), .ref (u 11), .int 0, .int 0, .int 0, .ref (u 12), .ref (u 13), .ref (u 14), .int 0, .int 0, .ref (u 15), .int 0, .ref (u 16), .int 0, .ref (u 17), .int 0, .ref (u 18), .ref (u 19), .ref (u 20), .ref (u 21)])), (u 1, .inl (k 0, 168, .inl (fun _ => 0))), (u 3, .inl (k 3, 3, .inl (fun _ => 0))), (u 18, .inl (k 0, 4, .inl mf))] s.heap := hF.1
  have hK := hF.2.1
  have hl := lv_entry ([.ref (u 0), .int p0, .int p1]) (n := 3) (Nat.le_of_ble_eq_true rfl)
  rw [lg_entry_eq]
  generalize (lg_sl ([.ref (u 0), .int p0, .int p1]) ++ List.replicate (3 - (lg_sl ([.ref (u 0), .int p0, .int p1])).length) Slot.unset).toArray = ls at hl ⊢
  have hl : lv_has ls 3 [(0, .ref (u 0)), (1, .int p0), (2, .int p1)] := hl
  refine lv_aload_n hx hb dX10_likes_0 rfl (lv_at hl 0 rfl) ?_
  refine lv_iload_n hx hb dX10_likes_1 rfl (lv_at hl 1 rfl) ?_
  refine ro_V (As := [.int p0]) (rest := []) S (c_X10_isWheel l D k u mf p0) lkX10_269 ok_X10_isWheel ⟨rfl, rfl, Nat.le_of_ble_eq_true rfl, Nat.le_of_ble_eq_true rfl⟩ (mw_V (ci := 10) (q0 := 0) hF rfl rfl) rfl hl.1 rfl (Nat.le_of_ble_eq_true rfl) ⟨Nat.zero_le _, Nat.zero_le _⟩ dX10_likes_2 (fun r_1 er_1 => ?_)
  subst er_1
  refine lv_if_eq (tgt := 17) hx hb dX10_likes_5 (by decide) (fun c_2 => ?_) (fun c_2 => ?_)
  rotate_left
  · first | exact absurd c_2 (by decide) | exact absurd (by decide) c_2
  refine lv_bipush (v := (-2)) hx hb dX10_likes_17 (by decide) ?_
  exact W.iret (v := (-2)) hx hb hr (fun t ht hW => ⟨(-2), rfl, rfl, ht⟩) (fun _ h9 => by cases h9) dX10_likes_19
set_option maxHeartbeats 4000000 in
set_option maxRecDepth 100000 in
theorem c_X10_wheel (l : Launch) (D : va_G) (k : Nat → ClassId) (u : Nat → Nat) (mf : Nat → Int32) (p0 : Int32) (p1 : Int32)  : Met l yX10_wheel (.code yX10_wheel cX10_wheel 3 (some .int) :: TB) (rmk 3) (va_Pc [.ref (u 0), .int p0, .int p1] (fun U => MWH D k u mf U U.heap)) (vp_Si (fun r => r = (-2))) 0 0 (fun _ => False) := by
  refine Met.ofW (cc := cX10_wheel) (maxL := 3) (ret := (some .int)) (by decide) rfl ?_
  intro p e s m args below meth c s₁ B hml hv
  obtain ⟨rfl, hF⟩ := hv
  have hx := B.exec
  have hb := B.bytes
  have hr := B.returns
  have hT : ∀ w ∈ TB, w.before ([.ref (u 0), .int p0, .int p1] : List Value).toArray s = true := fun w h => atoms_spec (ws := .code yX10_wheel cX10_wheel 3 (some .int) :: TB) B.pre w (List.mem_cons_of_mem _ h)
  have hown : s.vm.findClass RX10 = some m.cls := findClass_of_methodNamed B.named
  have S : CallFix p m c cX10_wheel 3 s _ TB RX10 := ⟨hx, hb, hml, hown, hT⟩
  have hP : va_P D vwCl [(u 0, .inr (10, [.int 0, .ref (u 1), .ref (u 2), .ref (u 3), .ref (u 4), .int 0, .ref (u 5), .int 0, .int 0, .int 0, .int 0, .int 0, .int 0, .int (-1), .ref (u 6), .ref (u 7), .ref (u 8), .ref (u 9), .ref (u 10), .ref (u 11), .int 0, .int 0, .int 0, .ref (u 12), .ref (u 13), .ref (u 14), .int 0, .int 0, .ref (u 15), .int 0, .ref (u 16), .int 0, .ref (u 17), .int 0, .ref (u 18), .ref (u 19), .ref (u 20), .ref (u 21)])), (u 1, .inl (k 0, 168, .inl (fun _ => 0))), (u 3, .inl (k 3, 3, .inl (fun _ => 0))), (u 18, .inl (k 0, 4, .inl mf))] s.heap := hF.1
  have hK := hF.2.1
  have hl := lv_entry ([.ref (u 0), .int p0, .int p1]) (n := 3) (Nat.le_of_ble_eq_true rfl)
  rw [lg_entry_eq]
  generalize (lg_sl ([.ref (u 0), .int p0, .int p1]) ++ List.replicate (3 - (lg_sl ([.ref (u 0), .int p0, .int p1])).length) Slot.unset).toArray = ls at hl ⊢
  have hl : lv_has ls 3 [(0, .ref (u 0)), (1, .int p0), (2, .int p1)] := hl
  refine lv_aload_n hx hb dX10_wheel_0 rfl (lv_at hl 0 rfl) ?_
  refine lv_iload_n hx hb dX10_wheel_1 rfl (lv_at hl 1 rfl) ?_
  refine ro_V (As := [.int p0]) (rest := []) S (c_X10_isWheel l D k u mf p0) lkX10_269 ok_X10_isWheel ⟨rfl, rfl, Nat.le_of_ble_eq_true rfl, Nat.le_of_ble_eq_true rfl⟩ (mw_V (ci := 10) (q0 := 0) hF rfl rfl) rfl hl.1 rfl (Nat.le_of_ble_eq_true rfl) ⟨Nat.zero_le _, Nat.zero_le _⟩ dX10_wheel_2 (fun r_1 er_1 => ?_)
  subst er_1
  refine lv_if_eq (tgt := 20) hx hb dX10_wheel_5 (by decide) (fun c_2 => ?_) (fun c_2 => ?_)
  rotate_left
  · first | exact absurd c_2 (by decide) | exact absurd (by decide) c_2
  refine lv_bipush (v := (-2)) hx hb dX10_wheel_20 (by decide) ?_
  exact W.iret (v := (-2)) hx hb hr (fun t ht hW => ⟨(-2), rfl, rfl, ht⟩) (fun _ h9 => by cases h9) dX10_wheel_22
set_option maxHeartbeats 4000000 in
set_option maxRecDepth 100000 in
theorem c_X10_cart (l : Launch) (D : va_G) (k : Nat → ClassId) (u : Nat → Nat) (mf : Nat → Int32) (p0 : Int32) (p1 : Int32)  : Met l yX10_cart (.code yX10_cart cX10_cart 3 (some .int) :: TB) (rmk 3) (va_Pc [.ref (u 0), .int p0, .int p1] (fun U => MWH D k u mf U U.heap)) (vp_Si (fun r => r = (-2))) 0 0 (fun _ => False) := by
  refine Met.ofW (cc := cX10_cart) (maxL := 3) (ret := (some .int)) (by decide) rfl ?_
  intro p e s m args below meth c s₁ B hml hv
  obtain ⟨rfl, hF⟩ := hv
  have hx := B.exec
  have hb := B.bytes
  have hr := B.returns
  have hT : ∀ w ∈ TB, w.before ([.ref (u 0), .int p0, .int p1] : List Value).toArray s = true := fun w h => atoms_spec (ws := .code yX10_cart cX10_cart 3 (some .int) :: TB) B.pre w (List.mem_cons_of_mem _ h)
  have hown : s.vm.findClass RX10 = some m.cls := findClass_of_methodNamed B.named
  have S : CallFix p m c cX10_cart 3 s _ TB RX10 := ⟨hx, hb, hml, hown, hT⟩
  have hP : va_P D vwCl [(u 0, .inr (10, [.int 0, .ref (u 1), .ref (u 2), .ref (u 3), .ref (u 4), .int 0, .ref (u 5), .int 0, .int 0, .int 0, .int 0, .int 0, .int 0, .int (-1), .ref (u 6), .ref (u 7), .ref (u 8), .ref (u 9), .ref (u 10), .ref (u 11), .int 0, .int 0, .int 0, .ref (u 12), .ref (u 13), .ref (u 14), .int 0, .int 0, .ref (u 15), .int 0, .ref (u 16), .int 0, .ref (u 17), .int 0, .ref (u 18), .ref (u 19), .ref (u 20), .ref (u 21)])), (u 1, .inl (k 0, 168, .inl (fun _ => 0))), (u 3, .inl (k 3, 3, .inl (fun _ => 0))), (u 18, .inl (k 0, 4, .inl mf))] s.heap := hF.1
  have hK := hF.2.1
  have hl := lv_entry ([.ref (u 0), .int p0, .int p1]) (n := 3) (Nat.le_of_ble_eq_true rfl)
  rw [lg_entry_eq]
  generalize (lg_sl ([.ref (u 0), .int p0, .int p1]) ++ List.replicate (3 - (lg_sl ([.ref (u 0), .int p0, .int p1])).length) Slot.unset).toArray = ls at hl ⊢
  have hl : lv_has ls 3 [(0, .ref (u 0)), (1, .int p0), (2, .int p1)] := hl
  refine lv_aload_n hx hb dX10_cart_0 rfl (lv_at hl 0 rfl) ?_
  refine lv_iload_n hx hb dX10_cart_1 rfl (lv_at hl 1 rfl) ?_
  refine ro_V (As := [.int p0]) (rest := []) S (c_X10_isCart l D k u mf p0) lkX10_279 ok_X10_isCart ⟨rfl, rfl, Nat.le_of_ble_eq_true rfl, Nat.le_of_ble_eq_true rfl⟩ (mw_V (ci := 10) (q0 := 0) hF rfl rfl) rfl hl.1 rfl (Nat.le_of_ble_eq_true rfl) ⟨Nat.zero_le _, Nat.zero_le _⟩ dX10_cart_2 (fun r_1 er_1 => ?_)
  subst er_1
  refine lv_if_eq (tgt := 20) hx hb dX10_cart_5 (by decide) (fun c_2 => ?_) (fun c_2 => ?_)
  rotate_left
  · first | exact absurd c_2 (by decide) | exact absurd (by decide) c_2
  refine lv_bipush (v := (-2)) hx hb dX10_cart_20 (by decide) ?_
  exact W.iret (v := (-2)) hx hb hr (fun t ht hW => ⟨(-2), rfl, rfl, ht⟩) (fun _ h9 => by cases h9) dX10_cart_22
set_option maxHeartbeats 4000000 in
set_option maxRecDepth 100000 in
theorem c_X10_errand (l : Launch) (D : va_G) (k : Nat → ClassId) (u : Nat → Nat) (mf : Nat → Int32) (p0 : Int32) (p1 : Int32)  : Met l yX10_errand (.code yX10_errand cX10_errand 3 (some .int) :: TB) (rmk 2) (va_Pc [.ref (u 0), .int p0, .int p1] (fun U => MWH D k u mf U U.heap)) (vp_Si (fun r => r = (-2))) 0 0 (fun _ => False) := by
  refine Met.ofW (cc := cX10_errand) (maxL := 3) (ret := (some .int)) (by decide) rfl ?_
  intro p e s m args below meth c s₁ B hml hv
  obtain ⟨rfl, hF⟩ := hv
  have hx := B.exec
  have hb := B.bytes
  have hr := B.returns
  have hT : ∀ w ∈ TB, w.before ([.ref (u 0), .int p0, .int p1] : List Value).toArray s = true := fun w h => atoms_spec (ws := .code yX10_errand cX10_errand 3 (some .int) :: TB) B.pre w (List.mem_cons_of_mem _ h)
  have hown : s.vm.findClass RX10 = some m.cls := findClass_of_methodNamed B.named
  have S : CallFix p m c cX10_errand 3 s _ TB RX10 := ⟨hx, hb, hml, hown, hT⟩
  have hP : va_P D vwCl [(u 0, .inr (10, [.int 0, .ref (u 1), .ref (u 2), .ref (u 3), .ref (u 4), .int 0, .ref (u 5), .int 0, .int 0, .int 0, .int 0, .int 0, .int 0, .int (-1), .ref (u 6), .ref (u 7), .ref (u 8), .ref (u 9), .ref (u 10), .ref (u 11), .int 0, .int 0, .int 0, .ref (u 12), .ref (u 13), .ref (u 14), .int 0, .int 0, .ref (u 15), .int 0, .ref (u 16), .int 0, .ref (u 17), .int 0, .ref (u 18), .ref (u 19), .ref (u 20), .ref (u 21)])), (u 1, .inl (k 0, 168, .inl (fun _ => 0))), (u 3, .inl (k 3, 3, .inl (fun _ => 0))), (u 18, .inl (k 0, 4, .inl mf))] s.heap := hF.1
  have hK := hF.2.1
  have hl := lv_entry ([.ref (u 0), .int p0, .int p1]) (n := 3) (Nat.le_of_ble_eq_true rfl)
  rw [lg_entry_eq]
  generalize (lg_sl ([.ref (u 0), .int p0, .int p1]) ++ List.replicate (3 - (lg_sl ([.ref (u 0), .int p0, .int p1])).length) Slot.unset).toArray = ls at hl ⊢
  have hl : lv_has ls 3 [(0, .ref (u 0)), (1, .int p0), (2, .int p1)] := hl
  refine lv_iload_n hx hb dX10_errand_0 rfl (lv_at hl 1 rfl) ?_
  refine lv_i2l (v := p0.toInt64) hx hb dX10_errand_1 rfl ?_
  refine lv_lconst (v := 0) hx hb dX10_errand_2 (by decide) ?_
  refine lv_aload_n hx hb dX10_errand_3 rfl (lv_at hl 0 rfl) ?_
  refine va_get (D := D) (ci := 10) (v := .ref (u 1)) (C := RX10) (T := TX10) (N := 38) hx hb hT in_X10 hown hK hP 0 rfl rfl 1 (by decide) (hT _ t1263) (fun _ h9 => h9) rfl dX10_errand_4 ?_
  refine lv_iconst (v := 5) hx hb dX10_errand_7 (by decide) ?_
  refine va_iald hx hb hK hP 1 0 rfl rfl (by unfold vp_in; decide) dX10_errand_8 ?_
  refine k_top (y := 0) rfl ?_
  refine lv_iconst (v := 1) hx hb dX10_errand_9 (by decide) ?_
  refine lv_isub hx hb dX10_errand_10 ?_
  refine k_top (y := (-1)) (by decide) ?_
  refine lv_i2l (v := (-1)) hx hb dX10_errand_11 (by decide) ?_
  refine ro_S (As := [.long p0.toInt64, .long 0, .long (-1)]) (rest := []) S (c_X10_in l D k u mf p0.toInt64 0 (-1)) lkX10_85 ok_X10_in ⟨rfl, rfl, Nat.le_of_ble_eq_true rfl, Nat.le_of_ble_eq_true rfl⟩ (mw_S hF) rfl hl.1 rfl (Nat.le_of_ble_eq_true rfl) ⟨Nat.zero_le _, Nat.zero_le _⟩ dX10_errand_12 (fun r_1 er_1 => ?_)
  rcases er_1 with ⟨er_1, gr_1⟩ | ⟨er_1, gr_1⟩
  · subst er_1
    exact absurd gr_1 (no_in _)
  · subst er_1
    refine lv_if_eq (tgt := 46) hx hb dX10_errand_15 (by decide) (fun c_2 => ?_) (fun c_2 => ?_)
    rotate_left
    · first | exact absurd c_2 (by decide) | exact absurd (by decide) c_2
    refine lv_bipush (v := (-2)) hx hb dX10_errand_46 (by decide) ?_
    exact W.iret (v := (-2)) hx hb hr (fun t ht hW => ⟨(-2), rfl, rfl, ht⟩) (fun _ h9 => by cases h9) dX10_errand_48
set_option maxHeartbeats 4000000 in
set_option maxRecDepth 100000 in
theorem c_X10_roads (l : Launch) (D : va_G) (k : Nat → ClassId) (u : Nat → Nat) (mf : Nat → Int32) (p0 : Int32)  : Met l yX10_roads (.code yX10_roads cX10_roads 2 (some .int) :: TB) (rmk 3) (va_Pc [.ref (u 0), .int p0] (fun U => MWH D k u mf U U.heap)) (vp_Si (fun r => r = (-2))) 0 0 (fun _ => False) := by
  refine Met.ofW (cc := cX10_roads) (maxL := 2) (ret := (some .int)) (by decide) rfl ?_
  intro p e s m args below meth c s₁ B hml hv
  obtain ⟨rfl, hF⟩ := hv
  have hx := B.exec
  have hb := B.bytes
  have hr := B.returns
  have hT : ∀ w ∈ TB, w.before ([.ref (u 0), .int p0] : List Value).toArray s = true := fun w h => atoms_spec (ws := .code yX10_roads cX10_roads 2 (some .int) :: TB) B.pre w (List.mem_cons_of_mem _ h)
  have hown : s.vm.findClass RX10 = some m.cls := findClass_of_methodNamed B.named
  have S : CallFix p m c cX10_roads 2 s _ TB RX10 := ⟨hx, hb, hml, hown, hT⟩
  have hP : va_P D vwCl [(u 0, .inr (10, [.int 0, .ref (u 1), .ref (u 2), .ref (u 3), .ref (u 4), .int 0, .ref (u 5), .int 0, .int 0, .int 0, .int 0, .int 0, .int 0, .int (-1), .ref (u 6), .ref (u 7), .ref (u 8), .ref (u 9), .ref (u 10), .ref (u 11), .int 0, .int 0, .int 0, .ref (u 12), .ref (u 13), .ref (u 14), .int 0, .int 0, .ref (u 15), .int 0, .ref (u 16), .int 0, .ref (u 17), .int 0, .ref (u 18), .ref (u 19), .ref (u 20), .ref (u 21)])), (u 1, .inl (k 0, 168, .inl (fun _ => 0))), (u 3, .inl (k 3, 3, .inl (fun _ => 0))), (u 18, .inl (k 0, 4, .inl mf))] s.heap := hF.1
  have hK := hF.2.1
  have hl := lv_entry ([.ref (u 0), .int p0]) (n := 2) (Nat.le_of_ble_eq_true rfl)
  rw [lg_entry_eq]
  generalize (lg_sl ([.ref (u 0), .int p0]) ++ List.replicate (2 - (lg_sl ([.ref (u 0), .int p0])).length) Slot.unset).toArray = ls at hl ⊢
  have hl : lv_has ls 2 [(0, .ref (u 0)), (1, .int p0)] := hl
  refine lv_aload_n hx hb dX10_roads_0 rfl (lv_at hl 0 rfl) ?_
  refine lv_iload_n hx hb dX10_roads_1 rfl (lv_at hl 1 rfl) ?_
  refine lv_i2l (v := p0.toInt64) hx hb dX10_roads_2 rfl ?_
  refine ro_V (As := [.long p0.toInt64]) (rest := []) S (c_X10_isPlace l D k u mf p0.toInt64) lkX10_282 ok_X10_isPlace ⟨rfl, rfl, Nat.le_of_ble_eq_true rfl, Nat.le_of_ble_eq_true rfl⟩ (mw_V (ci := 10) (q0 := 0) hF rfl rfl) rfl hl.1 rfl (Nat.le_of_ble_eq_true rfl) ⟨Nat.zero_le _, Nat.zero_le _⟩ dX10_roads_3 (fun r_1 er_1 => ?_)
  subst er_1
  refine lv_if_eq (tgt := 17) hx hb dX10_roads_6 (by decide) (fun c_2 => ?_) (fun c_2 => ?_)
  rotate_left
  · first | exact absurd c_2 (by decide) | exact absurd (by decide) c_2
  refine lv_bipush (v := (-2)) hx hb dX10_roads_17 (by decide) ?_
  exact W.iret (v := (-2)) hx hb hr (fun t ht hW => ⟨(-2), rfl, rfl, ht⟩) (fun _ h9 => by cases h9) dX10_roads_19
set_option maxHeartbeats 4000000 in
set_option maxRecDepth 100000 in
theorem c_X10_pull (l : Launch) (D : va_G) (k : Nat → ClassId) (u : Nat → Nat) (mf : Nat → Int32) (p0 : Int32) (p1 : Int32)  : Met l yX10_pull (.code yX10_pull cX10_pull 3 (some .int) :: TB) (rmk 3) (va_Pc [.ref (u 0), .int p0, .int p1] (fun U => MWH D k u mf U U.heap)) (vp_Si (fun r => r = (-2))) 0 0 (fun _ => False) := by
  refine Met.ofW (cc := cX10_pull) (maxL := 3) (ret := (some .int)) (by decide) rfl ?_
  intro p e s m args below meth c s₁ B hml hv
  obtain ⟨rfl, hF⟩ := hv
  have hx := B.exec
  have hb := B.bytes
  have hr := B.returns
  have hT : ∀ w ∈ TB, w.before ([.ref (u 0), .int p0, .int p1] : List Value).toArray s = true := fun w h => atoms_spec (ws := .code yX10_pull cX10_pull 3 (some .int) :: TB) B.pre w (List.mem_cons_of_mem _ h)
  have hown : s.vm.findClass RX10 = some m.cls := findClass_of_methodNamed B.named
  have S : CallFix p m c cX10_pull 3 s _ TB RX10 := ⟨hx, hb, hml, hown, hT⟩
  have hP : va_P D vwCl [(u 0, .inr (10, [.int 0, .ref (u 1), .ref (u 2), .ref (u 3), .ref (u 4), .int 0, .ref (u 5), .int 0, .int 0, .int 0, .int 0, .int 0, .int 0, .int (-1), .ref (u 6), .ref (u 7), .ref (u 8), .ref (u 9), .ref (u 10), .ref (u 11), .int 0, .int 0, .int 0, .ref (u 12), .ref (u 13), .ref (u 14), .int 0, .int 0, .ref (u 15), .int 0, .ref (u 16), .int 0, .ref (u 17), .int 0, .ref (u 18), .ref (u 19), .ref (u 20), .ref (u 21)])), (u 1, .inl (k 0, 168, .inl (fun _ => 0))), (u 3, .inl (k 3, 3, .inl (fun _ => 0))), (u 18, .inl (k 0, 4, .inl mf))] s.heap := hF.1
  have hK := hF.2.1
  have hl := lv_entry ([.ref (u 0), .int p0, .int p1]) (n := 3) (Nat.le_of_ble_eq_true rfl)
  rw [lg_entry_eq]
  generalize (lg_sl ([.ref (u 0), .int p0, .int p1]) ++ List.replicate (3 - (lg_sl ([.ref (u 0), .int p0, .int p1])).length) Slot.unset).toArray = ls at hl ⊢
  have hl : lv_has ls 3 [(0, .ref (u 0)), (1, .int p0), (2, .int p1)] := hl
  refine lv_aload_n hx hb dX10_pull_0 rfl (lv_at hl 0 rfl) ?_
  refine lv_iload_n hx hb dX10_pull_1 rfl (lv_at hl 1 rfl) ?_
  refine ro_V (As := [.int p0]) (rest := []) S (c_X10_isCart l D k u mf p0) lkX10_279 ok_X10_isCart ⟨rfl, rfl, Nat.le_of_ble_eq_true rfl, Nat.le_of_ble_eq_true rfl⟩ (mw_V (ci := 10) (q0 := 0) hF rfl rfl) rfl hl.1 rfl (Nat.le_of_ble_eq_true rfl) ⟨Nat.zero_le _, Nat.zero_le _⟩ dX10_pull_2 (fun r_1 er_1 => ?_)
  subst er_1
  refine lv_if_eq (tgt := 17) hx hb dX10_pull_5 (by decide) (fun c_2 => ?_) (fun c_2 => ?_)
  rotate_left
  · first | exact absurd c_2 (by decide) | exact absurd (by decide) c_2
  refine lv_bipush (v := (-2)) hx hb dX10_pull_17 (by decide) ?_
  exact W.iret (v := (-2)) hx hb hr (fun t ht hW => ⟨(-2), rfl, rfl, ht⟩) (fun _ h9 => by cases h9) dX10_pull_19
set_option maxHeartbeats 4000000 in
set_option maxRecDepth 100000 in
theorem c_X10_takes_ (l : Launch) (D : va_G) (k : Nat → ClassId) (u : Nat → Nat) (mf : Nat → Int32) (p0 : Int32) (p1 : Int32)  : Met l yX10_takes_ (.code yX10_takes_ cX10_takes_ 3 (some .int) :: TB) (rmk 4) (va_Pc [.ref (u 0), .int p0, .int p1] (fun U => MWH D k u mf U U.heap)) (vp_Si (fun r => r = (-2))) 0 0 (fun _ => False) := by
  refine Met.ofW (cc := cX10_takes_) (maxL := 3) (ret := (some .int)) (by decide) rfl ?_
  intro p e s m args below meth c s₁ B hml hv
  obtain ⟨rfl, hF⟩ := hv
  have hx := B.exec
  have hb := B.bytes
  have hr := B.returns
  have hT : ∀ w ∈ TB, w.before ([.ref (u 0), .int p0, .int p1] : List Value).toArray s = true := fun w h => atoms_spec (ws := .code yX10_takes_ cX10_takes_ 3 (some .int) :: TB) B.pre w (List.mem_cons_of_mem _ h)
  have hown : s.vm.findClass RX10 = some m.cls := findClass_of_methodNamed B.named
  have S : CallFix p m c cX10_takes_ 3 s _ TB RX10 := ⟨hx, hb, hml, hown, hT⟩
  have hP : va_P D vwCl [(u 0, .inr (10, [.int 0, .ref (u 1), .ref (u 2), .ref (u 3), .ref (u 4), .int 0, .ref (u 5), .int 0, .int 0, .int 0, .int 0, .int 0, .int 0, .int (-1), .ref (u 6), .ref (u 7), .ref (u 8), .ref (u 9), .ref (u 10), .ref (u 11), .int 0, .int 0, .int 0, .ref (u 12), .ref (u 13), .ref (u 14), .int 0, .int 0, .ref (u 15), .int 0, .ref (u 16), .int 0, .ref (u 17), .int 0, .ref (u 18), .ref (u 19), .ref (u 20), .ref (u 21)])), (u 1, .inl (k 0, 168, .inl (fun _ => 0))), (u 3, .inl (k 3, 3, .inl (fun _ => 0))), (u 18, .inl (k 0, 4, .inl mf))] s.heap := hF.1
  have hK := hF.2.1
  have hl := lv_entry ([.ref (u 0), .int p0, .int p1]) (n := 3) (Nat.le_of_ble_eq_true rfl)
  rw [lg_entry_eq]
  generalize (lg_sl ([.ref (u 0), .int p0, .int p1]) ++ List.replicate (3 - (lg_sl ([.ref (u 0), .int p0, .int p1])).length) Slot.unset).toArray = ls at hl ⊢
  have hl : lv_has ls 3 [(0, .ref (u 0)), (1, .int p0), (2, .int p1)] := hl
  refine lv_aload_n hx hb dX10_takes__0 rfl (lv_at hl 0 rfl) ?_
  refine lv_iload_n hx hb dX10_takes__1 rfl (lv_at hl 1 rfl) ?_
  refine lv_iload_n hx hb dX10_takes__2 rfl (lv_at hl 2 rfl) ?_
  refine lv_i2l (v := p1.toInt64) hx hb dX10_takes__3 rfl ?_
  refine ro_V (As := [.int p0, .long p1.toInt64]) (rest := []) S (c_X10_canWant l D k u mf p0 p1.toInt64) lkX10_290 ok_X10_canWant ⟨rfl, rfl, Nat.le_of_ble_eq_true rfl, Nat.le_of_ble_eq_true rfl⟩ (mw_V (ci := 10) (q0 := 0) hF rfl rfl) rfl hl.1 rfl (Nat.le_of_ble_eq_true rfl) ⟨Nat.zero_le _, Nat.zero_le _⟩ dX10_takes__4 (fun r_1 er_1 => ?_)
  subst er_1
  refine lv_if_eq (tgt := 19) hx hb dX10_takes__7 (by decide) (fun c_2 => ?_) (fun c_2 => ?_)
  rotate_left
  · first | exact absurd c_2 (by decide) | exact absurd (by decide) c_2
  refine lv_bipush (v := (-2)) hx hb dX10_takes__19 (by decide) ?_
  exact W.iret (v := (-2)) hx hb hr (fun t ht hW => ⟨(-2), rfl, rfl, ht⟩) (fun _ h9 => by cases h9) dX10_takes__21
set_option maxHeartbeats 4000000 in
set_option maxRecDepth 100000 in
theorem c_X10_aside (l : Launch) (D : va_G) (k : Nat → ClassId) (u : Nat → Nat) (mf : Nat → Int32) (p0 : Int32)  : Met l yX10_aside (.code yX10_aside cX10_aside 4 (some .int) :: TB) (rmk 3) (va_Pc [.ref (u 0), .int p0] (fun U => MWH D k u mf U U.heap)) (vp_Si (fun r => r = (-2))) 0 0 (fun _ => False) := by
  refine Met.ofW (cc := cX10_aside) (maxL := 4) (ret := (some .int)) (by decide) rfl ?_
  intro p e s m args below meth c s₁ B hml hv
  obtain ⟨rfl, hF⟩ := hv
  have hx := B.exec
  have hb := B.bytes
  have hr := B.returns
  have hT : ∀ w ∈ TB, w.before ([.ref (u 0), .int p0] : List Value).toArray s = true := fun w h => atoms_spec (ws := .code yX10_aside cX10_aside 4 (some .int) :: TB) B.pre w (List.mem_cons_of_mem _ h)
  have hown : s.vm.findClass RX10 = some m.cls := findClass_of_methodNamed B.named
  have S : CallFix p m c cX10_aside 4 s _ TB RX10 := ⟨hx, hb, hml, hown, hT⟩
  have hP : va_P D vwCl [(u 0, .inr (10, [.int 0, .ref (u 1), .ref (u 2), .ref (u 3), .ref (u 4), .int 0, .ref (u 5), .int 0, .int 0, .int 0, .int 0, .int 0, .int 0, .int (-1), .ref (u 6), .ref (u 7), .ref (u 8), .ref (u 9), .ref (u 10), .ref (u 11), .int 0, .int 0, .int 0, .ref (u 12), .ref (u 13), .ref (u 14), .int 0, .int 0, .ref (u 15), .int 0, .ref (u 16), .int 0, .ref (u 17), .int 0, .ref (u 18), .ref (u 19), .ref (u 20), .ref (u 21)])), (u 1, .inl (k 0, 168, .inl (fun _ => 0))), (u 3, .inl (k 3, 3, .inl (fun _ => 0))), (u 18, .inl (k 0, 4, .inl mf))] s.heap := hF.1
  have hK := hF.2.1
  have hl := lv_entry ([.ref (u 0), .int p0]) (n := 4) (Nat.le_of_ble_eq_true rfl)
  rw [lg_entry_eq]
  generalize (lg_sl ([.ref (u 0), .int p0]) ++ List.replicate (4 - (lg_sl ([.ref (u 0), .int p0])).length) Slot.unset).toArray = ls at hl ⊢
  have hl : lv_has ls 4 [(0, .ref (u 0)), (1, .int p0)] := hl
  refine lv_aload_n hx hb dX10_aside_0 rfl (lv_at hl 0 rfl) ?_
  refine lv_iload_n hx hb dX10_aside_1 rfl (lv_at hl 1 rfl) ?_
  refine ro_V (As := [.int p0]) (rest := []) S (c_X10_isCart l D k u mf p0) lkX10_279 ok_X10_isCart ⟨rfl, rfl, Nat.le_of_ble_eq_true rfl, Nat.le_of_ble_eq_true rfl⟩ (mw_V (ci := 10) (q0 := 0) hF rfl rfl) rfl hl.1 rfl (Nat.le_of_ble_eq_true rfl) ⟨Nat.zero_le _, Nat.zero_le _⟩ dX10_aside_2 (fun r_1 er_1 => ?_)
  subst er_1
  refine lv_if_ne (tgt := 11) hx hb dX10_aside_5 (by decide) (fun c_2 => ?_) (fun c_2 => ?_)
  · first | exact absurd c_2 (by decide) | exact absurd (by decide) c_2
  refine lv_bipush (v := (-2)) hx hb dX10_aside_8 (by decide) ?_
  exact W.iret (v := (-2)) hx hb hr (fun t ht hW => ⟨(-2), rfl, rfl, ht⟩) (fun _ h9 => by cases h9) dX10_aside_10
set_option maxHeartbeats 4000000 in
set_option maxRecDepth 100000 in
theorem c_X10_argue (l : Launch) (D : va_G) (k : Nat → ClassId) (u : Nat → Nat) (mf : Nat → Int32) (p0 : Int32) (p1 : Int32)  : Met l yX10_argue (.code yX10_argue cX10_argue 4 (some .int) :: TB) (rmk 4) (va_Pc [.ref (u 0), .int p0, .int p1] (fun U => MWH D k u mf U U.heap)) (vp_Si (fun r => r = (-2))) 0 0 (fun _ => False) := by
  refine Met.ofW (cc := cX10_argue) (maxL := 4) (ret := (some .int)) (by decide) rfl ?_
  intro p e s m args below meth c s₁ B hml hv
  obtain ⟨rfl, hF⟩ := hv
  have hx := B.exec
  have hb := B.bytes
  have hr := B.returns
  have hT : ∀ w ∈ TB, w.before ([.ref (u 0), .int p0, .int p1] : List Value).toArray s = true := fun w h => atoms_spec (ws := .code yX10_argue cX10_argue 4 (some .int) :: TB) B.pre w (List.mem_cons_of_mem _ h)
  have hown : s.vm.findClass RX10 = some m.cls := findClass_of_methodNamed B.named
  have S : CallFix p m c cX10_argue 4 s _ TB RX10 := ⟨hx, hb, hml, hown, hT⟩
  have hP : va_P D vwCl [(u 0, .inr (10, [.int 0, .ref (u 1), .ref (u 2), .ref (u 3), .ref (u 4), .int 0, .ref (u 5), .int 0, .int 0, .int 0, .int 0, .int 0, .int 0, .int (-1), .ref (u 6), .ref (u 7), .ref (u 8), .ref (u 9), .ref (u 10), .ref (u 11), .int 0, .int 0, .int 0, .ref (u 12), .ref (u 13), .ref (u 14), .int 0, .int 0, .ref (u 15), .int 0, .ref (u 16), .int 0, .ref (u 17), .int 0, .ref (u 18), .ref (u 19), .ref (u 20), .ref (u 21)])), (u 1, .inl (k 0, 168, .inl (fun _ => 0))), (u 3, .inl (k 3, 3, .inl (fun _ => 0))), (u 18, .inl (k 0, 4, .inl mf))] s.heap := hF.1
  have hK := hF.2.1
  have hl := lv_entry ([.ref (u 0), .int p0, .int p1]) (n := 4) (Nat.le_of_ble_eq_true rfl)
  rw [lg_entry_eq]
  generalize (lg_sl ([.ref (u 0), .int p0, .int p1]) ++ List.replicate (4 - (lg_sl ([.ref (u 0), .int p0, .int p1])).length) Slot.unset).toArray = ls at hl ⊢
  have hl : lv_has ls 4 [(0, .ref (u 0)), (1, .int p0), (2, .int p1)] := hl
  refine lv_iload_n hx hb dX10_argue_0 rfl (lv_at hl 2 rfl) ?_
  refine lv_iconst (v := (-1)) hx hb dX10_argue_1 (by decide) ?_
  refine lv_icmp_eq (tgt := 15) hx hb dX10_argue_2 (by decide) (fun c_1 => ?_) (fun c_1 => ?_)
  · skip
    refine lv_bipush (v := (-2)) hx hb dX10_argue_15 (by decide) ?_
    exact W.iret (v := (-2)) hx hb hr (fun t ht hW => ⟨(-2), rfl, rfl, ht⟩) (fun _ h9 => by cases h9) dX10_argue_17
  · skip
    refine lv_aload_n hx hb dX10_argue_5 rfl (lv_at hl 0 rfl) ?_
    refine lv_iload_n hx hb dX10_argue_6 rfl (lv_at hl 1 rfl) ?_
    refine lv_iload_n hx hb dX10_argue_7 rfl (lv_at hl 2 rfl) ?_
    refine lv_i2l (v := p1.toInt64) hx hb dX10_argue_8 rfl ?_
    refine ro_V (As := [.int p0, .long p1.toInt64]) (rest := []) S (c_X10_canWant l D k u mf p0 p1.toInt64) lkX10_290 ok_X10_canWant ⟨rfl, rfl, Nat.le_of_ble_eq_true rfl, Nat.le_of_ble_eq_true rfl⟩ (mw_V (ci := 10) (q0 := 0) hF rfl rfl) rfl hl.1 rfl (Nat.le_of_ble_eq_true rfl) ⟨Nat.zero_le _, Nat.zero_le _⟩ dX10_argue_9 (fun r_2 er_2 => ?_)
    subst er_2
    refine lv_if_ne (tgt := 18) hx hb dX10_argue_12 (by decide) (fun c_3 => ?_) (fun c_3 => ?_)
    · first | exact absurd c_3 (by decide) | exact absurd (by decide) c_3
    refine lv_bipush (v := (-2)) hx hb dX10_argue_15 (by decide) ?_
    exact W.iret (v := (-2)) hx hb hr (fun t ht hW => ⟨(-2), rfl, rfl, ht⟩) (fun _ h9 => by cases h9) dX10_argue_17
set_option maxHeartbeats 4000000 in
set_option maxRecDepth 100000 in
theorem c_X10_drive (l : Launch) (D : va_G) (k : Nat → ClassId) (u : Nat → Nat) (mf : Nat → Int32) (p0 : Int32) (p1 : Int32)  : Met l yX10_drive (.code yX10_drive cX10_drive 3 (some .int) :: TB) (rmk 4) (va_Pc [.ref (u 0), .int p0, .int p1] (fun U => MWH D k u mf U U.heap)) (vp_Si (fun r => r = (-2))) 0 0 (fun _ => False) := by
  refine Met.ofW (cc := cX10_drive) (maxL := 3) (ret := (some .int)) (by decide) rfl ?_
  intro p e s m args below meth c s₁ B hml hv
  obtain ⟨rfl, hF⟩ := hv
  have hx := B.exec
  have hb := B.bytes
  have hr := B.returns
  have hT : ∀ w ∈ TB, w.before ([.ref (u 0), .int p0, .int p1] : List Value).toArray s = true := fun w h => atoms_spec (ws := .code yX10_drive cX10_drive 3 (some .int) :: TB) B.pre w (List.mem_cons_of_mem _ h)
  have hown : s.vm.findClass RX10 = some m.cls := findClass_of_methodNamed B.named
  have S : CallFix p m c cX10_drive 3 s _ TB RX10 := ⟨hx, hb, hml, hown, hT⟩
  have hP : va_P D vwCl [(u 0, .inr (10, [.int 0, .ref (u 1), .ref (u 2), .ref (u 3), .ref (u 4), .int 0, .ref (u 5), .int 0, .int 0, .int 0, .int 0, .int 0, .int 0, .int (-1), .ref (u 6), .ref (u 7), .ref (u 8), .ref (u 9), .ref (u 10), .ref (u 11), .int 0, .int 0, .int 0, .ref (u 12), .ref (u 13), .ref (u 14), .int 0, .int 0, .ref (u 15), .int 0, .ref (u 16), .int 0, .ref (u 17), .int 0, .ref (u 18), .ref (u 19), .ref (u 20), .ref (u 21)])), (u 1, .inl (k 0, 168, .inl (fun _ => 0))), (u 3, .inl (k 3, 3, .inl (fun _ => 0))), (u 18, .inl (k 0, 4, .inl mf))] s.heap := hF.1
  have hK := hF.2.1
  have hl := lv_entry ([.ref (u 0), .int p0, .int p1]) (n := 3) (Nat.le_of_ble_eq_true rfl)
  rw [lg_entry_eq]
  generalize (lg_sl ([.ref (u 0), .int p0, .int p1]) ++ List.replicate (3 - (lg_sl ([.ref (u 0), .int p0, .int p1])).length) Slot.unset).toArray = ls at hl ⊢
  have hl : lv_has ls 3 [(0, .ref (u 0)), (1, .int p0), (2, .int p1)] := hl
  refine lv_aload_n hx hb dX10_drive_0 rfl (lv_at hl 0 rfl) ?_
  refine lv_iload_n hx hb dX10_drive_1 rfl (lv_at hl 1 rfl) ?_
  refine lv_iload_n hx hb dX10_drive_2 rfl (lv_at hl 2 rfl) ?_
  refine lv_i2l (v := p1.toInt64) hx hb dX10_drive_3 rfl ?_
  refine ro_V (As := [.int p0, .long p1.toInt64]) (rest := []) S (c_X10_canWant l D k u mf p0 p1.toInt64) lkX10_290 ok_X10_canWant ⟨rfl, rfl, Nat.le_of_ble_eq_true rfl, Nat.le_of_ble_eq_true rfl⟩ (mw_V (ci := 10) (q0 := 0) hF rfl rfl) rfl hl.1 rfl (Nat.le_of_ble_eq_true rfl) ⟨Nat.zero_le _, Nat.zero_le _⟩ dX10_drive_4 (fun r_1 er_1 => ?_)
  subst er_1
  refine lv_if_ne (tgt := 13) hx hb dX10_drive_7 (by decide) (fun c_2 => ?_) (fun c_2 => ?_)
  · first | exact absurd c_2 (by decide) | exact absurd (by decide) c_2
  refine lv_bipush (v := (-2)) hx hb dX10_drive_10 (by decide) ?_
  exact W.iret (v := (-2)) hx hb hr (fun t ht hW => ⟨(-2), rfl, rfl, ht⟩) (fun _ h9 => by cases h9) dX10_drive_12
set_option maxHeartbeats 4000000 in
set_option maxRecDepth 100000 in
theorem c_X10_swap (l : Launch) (D : va_G) (k : Nat → ClassId) (u : Nat → Nat) (mf : Nat → Int32) (p0 : Int32) (p1 : Int32)  : Met l yX10_swap (.code yX10_swap cX10_swap 3 (some .int) :: TB) (rmk 3) (va_Pc [.ref (u 0), .int p0, .int p1] (fun U => MWH D k u mf U U.heap)) (vp_Si (fun r => r = (-2))) 0 0 (fun _ => False) := by
  refine Met.ofW (cc := cX10_swap) (maxL := 3) (ret := (some .int)) (by decide) rfl ?_
  intro p e s m args below meth c s₁ B hml hv
  obtain ⟨rfl, hF⟩ := hv
  have hx := B.exec
  have hb := B.bytes
  have hr := B.returns
  have hT : ∀ w ∈ TB, w.before ([.ref (u 0), .int p0, .int p1] : List Value).toArray s = true := fun w h => atoms_spec (ws := .code yX10_swap cX10_swap 3 (some .int) :: TB) B.pre w (List.mem_cons_of_mem _ h)
  have hown : s.vm.findClass RX10 = some m.cls := findClass_of_methodNamed B.named
  have S : CallFix p m c cX10_swap 3 s _ TB RX10 := ⟨hx, hb, hml, hown, hT⟩
  have hP : va_P D vwCl [(u 0, .inr (10, [.int 0, .ref (u 1), .ref (u 2), .ref (u 3), .ref (u 4), .int 0, .ref (u 5), .int 0, .int 0, .int 0, .int 0, .int 0, .int 0, .int (-1), .ref (u 6), .ref (u 7), .ref (u 8), .ref (u 9), .ref (u 10), .ref (u 11), .int 0, .int 0, .int 0, .ref (u 12), .ref (u 13), .ref (u 14), .int 0, .int 0, .ref (u 15), .int 0, .ref (u 16), .int 0, .ref (u 17), .int 0, .ref (u 18), .ref (u 19), .ref (u 20), .ref (u 21)])), (u 1, .inl (k 0, 168, .inl (fun _ => 0))), (u 3, .inl (k 3, 3, .inl (fun _ => 0))), (u 18, .inl (k 0, 4, .inl mf))] s.heap := hF.1
  have hK := hF.2.1
  have hl := lv_entry ([.ref (u 0), .int p0, .int p1]) (n := 3) (Nat.le_of_ble_eq_true rfl)
  rw [lg_entry_eq]
  generalize (lg_sl ([.ref (u 0), .int p0, .int p1]) ++ List.replicate (3 - (lg_sl ([.ref (u 0), .int p0, .int p1])).length) Slot.unset).toArray = ls at hl ⊢
  have hl : lv_has ls 3 [(0, .ref (u 0)), (1, .int p0), (2, .int p1)] := hl
  refine lv_aload_n hx hb dX10_swap_0 rfl (lv_at hl 0 rfl) ?_
  refine lv_iload_n hx hb dX10_swap_1 rfl (lv_at hl 1 rfl) ?_
  refine ro_V (As := [.int p0]) (rest := []) S (c_X10_isWheel l D k u mf p0) lkX10_269 ok_X10_isWheel ⟨rfl, rfl, Nat.le_of_ble_eq_true rfl, Nat.le_of_ble_eq_true rfl⟩ (mw_V (ci := 10) (q0 := 0) hF rfl rfl) rfl hl.1 rfl (Nat.le_of_ble_eq_true rfl) ⟨Nat.zero_le _, Nat.zero_le _⟩ dX10_swap_2 (fun r_1 er_1 => ?_)
  subst er_1
  refine lv_if_eq (tgt := 21) hx hb dX10_swap_5 (by decide) (fun c_2 => ?_) (fun c_2 => ?_)
  rotate_left
  · first | exact absurd c_2 (by decide) | exact absurd (by decide) c_2
  refine lv_bipush (v := (-2)) hx hb dX10_swap_21 (by decide) ?_
  exact W.iret (v := (-2)) hx hb hr (fun t ht hW => ⟨(-2), rfl, rfl, ht⟩) (fun _ h9 => by cases h9) dX10_swap_23
set_option maxHeartbeats 4000000 in
set_option maxRecDepth 100000 in
theorem c_X10_grease (l : Launch) (D : va_G) (k : Nat → ClassId) (u : Nat → Nat) (mf : Nat → Int32) (p0 : Int32)  : Met l yX10_grease (.code yX10_grease cX10_grease 2 (some .int) :: TB) (rmk 3) (va_Pc [.ref (u 0), .int p0] (fun U => MWH D k u mf U U.heap)) (vp_Si (fun r => r = (-2))) 0 0 (fun _ => False) := by
  refine Met.ofW (cc := cX10_grease) (maxL := 2) (ret := (some .int)) (by decide) rfl ?_
  intro p e s m args below meth c s₁ B hml hv
  obtain ⟨rfl, hF⟩ := hv
  have hx := B.exec
  have hb := B.bytes
  have hr := B.returns
  have hT : ∀ w ∈ TB, w.before ([.ref (u 0), .int p0] : List Value).toArray s = true := fun w h => atoms_spec (ws := .code yX10_grease cX10_grease 2 (some .int) :: TB) B.pre w (List.mem_cons_of_mem _ h)
  have hown : s.vm.findClass RX10 = some m.cls := findClass_of_methodNamed B.named
  have S : CallFix p m c cX10_grease 2 s _ TB RX10 := ⟨hx, hb, hml, hown, hT⟩
  have hP : va_P D vwCl [(u 0, .inr (10, [.int 0, .ref (u 1), .ref (u 2), .ref (u 3), .ref (u 4), .int 0, .ref (u 5), .int 0, .int 0, .int 0, .int 0, .int 0, .int 0, .int (-1), .ref (u 6), .ref (u 7), .ref (u 8), .ref (u 9), .ref (u 10), .ref (u 11), .int 0, .int 0, .int 0, .ref (u 12), .ref (u 13), .ref (u 14), .int 0, .int 0, .ref (u 15), .int 0, .ref (u 16), .int 0, .ref (u 17), .int 0, .ref (u 18), .ref (u 19), .ref (u 20), .ref (u 21)])), (u 1, .inl (k 0, 168, .inl (fun _ => 0))), (u 3, .inl (k 3, 3, .inl (fun _ => 0))), (u 18, .inl (k 0, 4, .inl mf))] s.heap := hF.1
  have hK := hF.2.1
  have hl := lv_entry ([.ref (u 0), .int p0]) (n := 2) (Nat.le_of_ble_eq_true rfl)
  rw [lg_entry_eq]
  generalize (lg_sl ([.ref (u 0), .int p0]) ++ List.replicate (2 - (lg_sl ([.ref (u 0), .int p0])).length) Slot.unset).toArray = ls at hl ⊢
  have hl : lv_has ls 2 [(0, .ref (u 0)), (1, .int p0)] := hl
  refine lv_aload_n hx hb dX10_grease_0 rfl (lv_at hl 0 rfl) ?_
  refine lv_iload_n hx hb dX10_grease_1 rfl (lv_at hl 1 rfl) ?_
  refine ro_V (As := [.int p0]) (rest := []) S (c_X10_isWheel l D k u mf p0) lkX10_269 ok_X10_isWheel ⟨rfl, rfl, Nat.le_of_ble_eq_true rfl, Nat.le_of_ble_eq_true rfl⟩ (mw_V (ci := 10) (q0 := 0) hF rfl rfl) rfl hl.1 rfl (Nat.le_of_ble_eq_true rfl) ⟨Nat.zero_le _, Nat.zero_le _⟩ dX10_grease_2 (fun r_1 er_1 => ?_)
  subst er_1
  refine lv_if_ne (tgt := 11) hx hb dX10_grease_5 (by decide) (fun c_2 => ?_) (fun c_2 => ?_)
  · first | exact absurd c_2 (by decide) | exact absurd (by decide) c_2
  refine lv_bipush (v := (-2)) hx hb dX10_grease_8 (by decide) ?_
  exact W.iret (v := (-2)) hx hb hr (fun t ht hW => ⟨(-2), rfl, rfl, ht⟩) (fun _ h9 => by cases h9) dX10_grease_10
set_option maxHeartbeats 4000000 in
set_option maxRecDepth 100000 in
theorem c_X10_undo (l : Launch) (D : va_G) (k : Nat → ClassId) (u : Nat → Nat) (mf : Nat → Int32)   : Met l yX10_undo (.code yX10_undo cX10_undo 1 (some .int) :: TB) (rmk 2) (va_Pc [.ref (u 0)] (fun U => MWH D k u mf U U.heap)) (vp_Si (fun r => r = (-2))) 0 0 (fun _ => False) := by
  refine Met.ofW (cc := cX10_undo) (maxL := 1) (ret := (some .int)) (by decide) rfl ?_
  intro p e s m args below meth c s₁ B hml hv
  obtain ⟨rfl, hF⟩ := hv
  have hx := B.exec
  have hb := B.bytes
  have hr := B.returns
  have hT : ∀ w ∈ TB, w.before ([.ref (u 0)] : List Value).toArray s = true := fun w h => atoms_spec (ws := .code yX10_undo cX10_undo 1 (some .int) :: TB) B.pre w (List.mem_cons_of_mem _ h)
  have hown : s.vm.findClass RX10 = some m.cls := findClass_of_methodNamed B.named
  have S : CallFix p m c cX10_undo 1 s _ TB RX10 := ⟨hx, hb, hml, hown, hT⟩
  have hP : va_P D vwCl [(u 0, .inr (10, [.int 0, .ref (u 1), .ref (u 2), .ref (u 3), .ref (u 4), .int 0, .ref (u 5), .int 0, .int 0, .int 0, .int 0, .int 0, .int 0, .int (-1), .ref (u 6), .ref (u 7), .ref (u 8), .ref (u 9), .ref (u 10), .ref (u 11), .int 0, .int 0, .int 0, .ref (u 12), .ref (u 13), .ref (u 14), .int 0, .int 0, .ref (u 15), .int 0, .ref (u 16), .int 0, .ref (u 17), .int 0, .ref (u 18), .ref (u 19), .ref (u 20), .ref (u 21)])), (u 1, .inl (k 0, 168, .inl (fun _ => 0))), (u 3, .inl (k 3, 3, .inl (fun _ => 0))), (u 18, .inl (k 0, 4, .inl mf))] s.heap := hF.1
  have hK := hF.2.1
  have hl := lv_entry ([.ref (u 0)]) (n := 1) (Nat.le_of_ble_eq_true rfl)
  rw [lg_entry_eq]
  generalize (lg_sl ([.ref (u 0)]) ++ List.replicate (1 - (lg_sl ([.ref (u 0)])).length) Slot.unset).toArray = ls at hl ⊢
  have hl : lv_has ls 1 [(0, .ref (u 0))] := hl
  refine lv_aload_n hx hb dX10_undo_0 rfl (lv_at hl 0 rfl) ?_
  refine ro_V (As := []) (rest := []) S (c_X10_isLand l D k u mf ) lkX10_297 ok_X10_isLand ⟨rfl, rfl, Nat.le_of_ble_eq_true rfl, Nat.le_of_ble_eq_true rfl⟩ (mw_V (ci := 10) (q0 := 0) hF rfl rfl) rfl hl.1 rfl (Nat.le_of_ble_eq_true rfl) ⟨Nat.zero_le _, Nat.zero_le _⟩ dX10_undo_1 (fun r_1 er_1 => ?_)
  subst er_1
  refine lv_if_ne (tgt := 10) hx hb dX10_undo_4 (by decide) (fun c_2 => ?_) (fun c_2 => ?_)
  · first | exact absurd c_2 (by decide) | exact absurd (by decide) c_2
  refine lv_bipush (v := (-2)) hx hb dX10_undo_7 (by decide) ?_
  exact W.iret (v := (-2)) hx hb hr (fun t ht hW => ⟨(-2), rfl, rfl, ht⟩) (fun _ h9 => by cases h9) dX10_undo_9
set_option maxHeartbeats 4000000 in
set_option maxRecDepth 100000 in
theorem c_X10_anew (l : Launch) (D : va_G) (k : Nat → ClassId) (u : Nat → Nat) (mf : Nat → Int32)   : Met l yX10_anew (.code yX10_anew cX10_anew 2 (some .int) :: TB) (rmk 2) (va_Pc [.ref (u 0)] (fun U => MWH D k u mf U U.heap)) (vp_Si (fun r => r = (-2))) 0 0 (fun _ => False) := by
  refine Met.ofW (cc := cX10_anew) (maxL := 2) (ret := (some .int)) (by decide) rfl ?_
  intro p e s m args below meth c s₁ B hml hv
  obtain ⟨rfl, hF⟩ := hv
  have hx := B.exec
  have hb := B.bytes
  have hr := B.returns
  have hT : ∀ w ∈ TB, w.before ([.ref (u 0)] : List Value).toArray s = true := fun w h => atoms_spec (ws := .code yX10_anew cX10_anew 2 (some .int) :: TB) B.pre w (List.mem_cons_of_mem _ h)
  have hown : s.vm.findClass RX10 = some m.cls := findClass_of_methodNamed B.named
  have S : CallFix p m c cX10_anew 2 s _ TB RX10 := ⟨hx, hb, hml, hown, hT⟩
  have hP : va_P D vwCl [(u 0, .inr (10, [.int 0, .ref (u 1), .ref (u 2), .ref (u 3), .ref (u 4), .int 0, .ref (u 5), .int 0, .int 0, .int 0, .int 0, .int 0, .int 0, .int (-1), .ref (u 6), .ref (u 7), .ref (u 8), .ref (u 9), .ref (u 10), .ref (u 11), .int 0, .int 0, .int 0, .ref (u 12), .ref (u 13), .ref (u 14), .int 0, .int 0, .ref (u 15), .int 0, .ref (u 16), .int 0, .ref (u 17), .int 0, .ref (u 18), .ref (u 19), .ref (u 20), .ref (u 21)])), (u 1, .inl (k 0, 168, .inl (fun _ => 0))), (u 3, .inl (k 3, 3, .inl (fun _ => 0))), (u 18, .inl (k 0, 4, .inl mf))] s.heap := hF.1
  have hK := hF.2.1
  have hl := lv_entry ([.ref (u 0)]) (n := 2) (Nat.le_of_ble_eq_true rfl)
  rw [lg_entry_eq]
  generalize (lg_sl ([.ref (u 0)]) ++ List.replicate (2 - (lg_sl ([.ref (u 0)])).length) Slot.unset).toArray = ls at hl ⊢
  have hl : lv_has ls 2 [(0, .ref (u 0))] := hl
  refine lv_aload_n hx hb dX10_anew_0 rfl (lv_at hl 0 rfl) ?_
  refine ro_V (As := []) (rest := []) S (c_X10_isLand l D k u mf ) lkX10_297 ok_X10_isLand ⟨rfl, rfl, Nat.le_of_ble_eq_true rfl, Nat.le_of_ble_eq_true rfl⟩ (mw_V (ci := 10) (q0 := 0) hF rfl rfl) rfl hl.1 rfl (Nat.le_of_ble_eq_true rfl) ⟨Nat.zero_le _, Nat.zero_le _⟩ dX10_anew_1 (fun r_1 er_1 => ?_)
  subst er_1
  refine lv_if_ne (tgt := 10) hx hb dX10_anew_4 (by decide) (fun c_2 => ?_) (fun c_2 => ?_)
  · first | exact absurd c_2 (by decide) | exact absurd (by decide) c_2
  refine lv_bipush (v := (-2)) hx hb dX10_anew_7 (by decide) ?_
  exact W.iret (v := (-2)) hx hb hr (fun t ht hW => ⟨(-2), rfl, rfl, ht⟩) (fun _ h9 => by cases h9) dX10_anew_9
set_option maxHeartbeats 4000000 in
set_option maxRecDepth 100000 in
theorem c_X10_goes (l : Launch) (D : va_G) (k : Nat → ClassId) (u : Nat → Nat) (mf : Nat → Int32) (p0 : Int32) (p1 : Int32)  : Met l yX10_goes (.code yX10_goes cX10_goes 4 (some .int) :: TB) (rmk 4) (va_Pc [.ref (u 0), .int p0, .int p1] (fun U => MWH D k u mf U U.heap)) (vp_Si (fun r => r = (-2))) 0 0 (fun _ => False) := by
  refine Met.ofW (cc := cX10_goes) (maxL := 4) (ret := (some .int)) (by decide) rfl ?_
  intro p e s m args below meth c s₁ B hml hv
  obtain ⟨rfl, hF⟩ := hv
  have hx := B.exec
  have hb := B.bytes
  have hr := B.returns
  have hT : ∀ w ∈ TB, w.before ([.ref (u 0), .int p0, .int p1] : List Value).toArray s = true := fun w h => atoms_spec (ws := .code yX10_goes cX10_goes 4 (some .int) :: TB) B.pre w (List.mem_cons_of_mem _ h)
  have hown : s.vm.findClass RX10 = some m.cls := findClass_of_methodNamed B.named
  have S : CallFix p m c cX10_goes 4 s _ TB RX10 := ⟨hx, hb, hml, hown, hT⟩
  have hP : va_P D vwCl [(u 0, .inr (10, [.int 0, .ref (u 1), .ref (u 2), .ref (u 3), .ref (u 4), .int 0, .ref (u 5), .int 0, .int 0, .int 0, .int 0, .int 0, .int 0, .int (-1), .ref (u 6), .ref (u 7), .ref (u 8), .ref (u 9), .ref (u 10), .ref (u 11), .int 0, .int 0, .int 0, .ref (u 12), .ref (u 13), .ref (u 14), .int 0, .int 0, .ref (u 15), .int 0, .ref (u 16), .int 0, .ref (u 17), .int 0, .ref (u 18), .ref (u 19), .ref (u 20), .ref (u 21)])), (u 1, .inl (k 0, 168, .inl (fun _ => 0))), (u 3, .inl (k 3, 3, .inl (fun _ => 0))), (u 18, .inl (k 0, 4, .inl mf))] s.heap := hF.1
  have hK := hF.2.1
  have hl := lv_entry ([.ref (u 0), .int p0, .int p1]) (n := 4) (Nat.le_of_ble_eq_true rfl)
  rw [lg_entry_eq]
  generalize (lg_sl ([.ref (u 0), .int p0, .int p1]) ++ List.replicate (4 - (lg_sl ([.ref (u 0), .int p0, .int p1])).length) Slot.unset).toArray = ls at hl ⊢
  have hl : lv_has ls 4 [(0, .ref (u 0)), (1, .int p0), (2, .int p1)] := hl
  refine lv_aload_n hx hb dX10_goes_0 rfl (lv_at hl 0 rfl) ?_
  refine lv_iload_n hx hb dX10_goes_1 rfl (lv_at hl 1 rfl) ?_
  refine lv_iload_n hx hb dX10_goes_2 rfl (lv_at hl 2 rfl) ?_
  refine ro_V (As := [.int p0, .int p1]) (rest := []) S (c_X10_asksRow l D k u mf p0 p1) lkX10_319 ok_X10_asksRow ⟨rfl, rfl, Nat.le_of_ble_eq_true rfl, Nat.le_of_ble_eq_true rfl⟩ (mw_V (ci := 10) (q0 := 0) hF rfl rfl) rfl hl.1 rfl (Nat.le_of_ble_eq_true rfl) ⟨Nat.zero_le _, Nat.zero_le _⟩ dX10_goes_3 (fun r_1 er_1 => ?_)
  subst er_1
  refine lv_istore_n (lv' := [(3, .int (-2)), (0, .ref (u 0)), (1, .int p0), (2, .int p1)]) hx hb dX10_goes_6 rfl hl (by decide) rfl (fun ls hl => ?_)
  refine lv_iload_n hx hb dX10_goes_7 rfl (lv_at hl 0 rfl) ?_
  refine lv_if_ge (tgt := 13) hx hb dX10_goes_8 (by decide) (fun c_2 => ?_) (fun c_2 => ?_)
  · first | exact absurd c_2 (by decide) | exact absurd (by decide) c_2
  refine lv_iload_n hx hb dX10_goes_11 rfl (lv_at hl 0 rfl) ?_
  exact W.iret (v := (-2)) hx hb hr (fun t ht hW => ⟨(-2), rfl, rfl, ht⟩) (fun _ h9 => by cases h9) dX10_goes_12
set_option maxHeartbeats 4000000 in
set_option maxRecDepth 100000 in
theorem c_X10_ends (l : Launch) (D : va_G) (k : Nat → ClassId) (u : Nat → Nat) (mf : Nat → Int32) (p0 : Int32) (p1 : Int32)  : Met l yX10_ends (.code yX10_ends cX10_ends 4 (some .int) :: TB) (rmk 4) (va_Pc [.ref (u 0), .int p0, .int p1] (fun U => MWH D k u mf U U.heap)) (vp_Si (fun r => r = (-2))) 0 0 (fun _ => False) := by
  refine Met.ofW (cc := cX10_ends) (maxL := 4) (ret := (some .int)) (by decide) rfl ?_
  intro p e s m args below meth c s₁ B hml hv
  obtain ⟨rfl, hF⟩ := hv
  have hx := B.exec
  have hb := B.bytes
  have hr := B.returns
  have hT : ∀ w ∈ TB, w.before ([.ref (u 0), .int p0, .int p1] : List Value).toArray s = true := fun w h => atoms_spec (ws := .code yX10_ends cX10_ends 4 (some .int) :: TB) B.pre w (List.mem_cons_of_mem _ h)
  have hown : s.vm.findClass RX10 = some m.cls := findClass_of_methodNamed B.named
  have S : CallFix p m c cX10_ends 4 s _ TB RX10 := ⟨hx, hb, hml, hown, hT⟩
  have hP : va_P D vwCl [(u 0, .inr (10, [.int 0, .ref (u 1), .ref (u 2), .ref (u 3), .ref (u 4), .int 0, .ref (u 5), .int 0, .int 0, .int 0, .int 0, .int 0, .int 0, .int (-1), .ref (u 6), .ref (u 7), .ref (u 8), .ref (u 9), .ref (u 10), .ref (u 11), .int 0, .int 0, .int 0, .ref (u 12), .ref (u 13), .ref (u 14), .int 0, .int 0, .ref (u 15), .int 0, .ref (u 16), .int 0, .ref (u 17), .int 0, .ref (u 18), .ref (u 19), .ref (u 20), .ref (u 21)])), (u 1, .inl (k 0, 168, .inl (fun _ => 0))), (u 3, .inl (k 3, 3, .inl (fun _ => 0))), (u 18, .inl (k 0, 4, .inl mf))] s.heap := hF.1
  have hK := hF.2.1
  have hl := lv_entry ([.ref (u 0), .int p0, .int p1]) (n := 4) (Nat.le_of_ble_eq_true rfl)
  rw [lg_entry_eq]
  generalize (lg_sl ([.ref (u 0), .int p0, .int p1]) ++ List.replicate (4 - (lg_sl ([.ref (u 0), .int p0, .int p1])).length) Slot.unset).toArray = ls at hl ⊢
  have hl : lv_has ls 4 [(0, .ref (u 0)), (1, .int p0), (2, .int p1)] := hl
  refine lv_aload_n hx hb dX10_ends_0 rfl (lv_at hl 0 rfl) ?_
  refine lv_iload_n hx hb dX10_ends_1 rfl (lv_at hl 1 rfl) ?_
  refine lv_iload_n hx hb dX10_ends_2 rfl (lv_at hl 2 rfl) ?_
  refine ro_V (As := [.int p0, .int p1]) (rest := []) S (c_X10_asksRow l D k u mf p0 p1) lkX10_319 ok_X10_asksRow ⟨rfl, rfl, Nat.le_of_ble_eq_true rfl, Nat.le_of_ble_eq_true rfl⟩ (mw_V (ci := 10) (q0 := 0) hF rfl rfl) rfl hl.1 rfl (Nat.le_of_ble_eq_true rfl) ⟨Nat.zero_le _, Nat.zero_le _⟩ dX10_ends_3 (fun r_1 er_1 => ?_)
  subst er_1
  refine lv_istore_n (lv' := [(3, .int (-2)), (0, .ref (u 0)), (1, .int p0), (2, .int p1)]) hx hb dX10_ends_6 rfl hl (by decide) rfl (fun ls hl => ?_)
  refine lv_iload_n hx hb dX10_ends_7 rfl (lv_at hl 0 rfl) ?_
  refine lv_if_ge (tgt := 13) hx hb dX10_ends_8 (by decide) (fun c_2 => ?_) (fun c_2 => ?_)
  · first | exact absurd c_2 (by decide) | exact absurd (by decide) c_2
  refine lv_iload_n hx hb dX10_ends_11 rfl (lv_at hl 0 rfl) ?_
  exact W.iret (v := (-2)) hx hb hr (fun t ht hW => ⟨(-2), rfl, rfl, ht⟩) (fun _ h9 => by cases h9) dX10_ends_12
set_option maxHeartbeats 4000000 in
set_option maxRecDepth 100000 in
theorem c_X10_ran (l : Launch) (D : va_G) (k : Nat → ClassId) (u : Nat → Nat) (mf : Nat → Int32) (p0 : Int32) (p1 : Int32)  : Met l yX10_ran (.code yX10_ran cX10_ran 4 (some .int) :: TB) (rmk 4) (va_Pc [.ref (u 0), .int p0, .int p1] (fun U => MWH D k u mf U U.heap)) (vp_Si (fun r => r = (-2))) 0 0 (fun _ => False) := by
  refine Met.ofW (cc := cX10_ran) (maxL := 4) (ret := (some .int)) (by decide) rfl ?_
  intro p e s m args below meth c s₁ B hml hv
  obtain ⟨rfl, hF⟩ := hv
  have hx := B.exec
  have hb := B.bytes
  have hr := B.returns
  have hT : ∀ w ∈ TB, w.before ([.ref (u 0), .int p0, .int p1] : List Value).toArray s = true := fun w h => atoms_spec (ws := .code yX10_ran cX10_ran 4 (some .int) :: TB) B.pre w (List.mem_cons_of_mem _ h)
  have hown : s.vm.findClass RX10 = some m.cls := findClass_of_methodNamed B.named
  have S : CallFix p m c cX10_ran 4 s _ TB RX10 := ⟨hx, hb, hml, hown, hT⟩
  have hP : va_P D vwCl [(u 0, .inr (10, [.int 0, .ref (u 1), .ref (u 2), .ref (u 3), .ref (u 4), .int 0, .ref (u 5), .int 0, .int 0, .int 0, .int 0, .int 0, .int 0, .int (-1), .ref (u 6), .ref (u 7), .ref (u 8), .ref (u 9), .ref (u 10), .ref (u 11), .int 0, .int 0, .int 0, .ref (u 12), .ref (u 13), .ref (u 14), .int 0, .int 0, .ref (u 15), .int 0, .ref (u 16), .int 0, .ref (u 17), .int 0, .ref (u 18), .ref (u 19), .ref (u 20), .ref (u 21)])), (u 1, .inl (k 0, 168, .inl (fun _ => 0))), (u 3, .inl (k 3, 3, .inl (fun _ => 0))), (u 18, .inl (k 0, 4, .inl mf))] s.heap := hF.1
  have hK := hF.2.1
  have hl := lv_entry ([.ref (u 0), .int p0, .int p1]) (n := 4) (Nat.le_of_ble_eq_true rfl)
  rw [lg_entry_eq]
  generalize (lg_sl ([.ref (u 0), .int p0, .int p1]) ++ List.replicate (4 - (lg_sl ([.ref (u 0), .int p0, .int p1])).length) Slot.unset).toArray = ls at hl ⊢
  have hl : lv_has ls 4 [(0, .ref (u 0)), (1, .int p0), (2, .int p1)] := hl
  refine lv_aload_n hx hb dX10_ran_0 rfl (lv_at hl 0 rfl) ?_
  refine lv_iload_n hx hb dX10_ran_1 rfl (lv_at hl 1 rfl) ?_
  refine lv_iload_n hx hb dX10_ran_2 rfl (lv_at hl 2 rfl) ?_
  refine ro_V (As := [.int p0, .int p1]) (rest := []) S (c_X10_asksRow l D k u mf p0 p1) lkX10_319 ok_X10_asksRow ⟨rfl, rfl, Nat.le_of_ble_eq_true rfl, Nat.le_of_ble_eq_true rfl⟩ (mw_V (ci := 10) (q0 := 0) hF rfl rfl) rfl hl.1 rfl (Nat.le_of_ble_eq_true rfl) ⟨Nat.zero_le _, Nat.zero_le _⟩ dX10_ran_3 (fun r_1 er_1 => ?_)
  subst er_1
  refine lv_istore_n (lv' := [(3, .int (-2)), (0, .ref (u 0)), (1, .int p0), (2, .int p1)]) hx hb dX10_ran_6 rfl hl (by decide) rfl (fun ls hl => ?_)
  refine lv_iload_n hx hb dX10_ran_7 rfl (lv_at hl 0 rfl) ?_
  refine lv_if_ge (tgt := 13) hx hb dX10_ran_8 (by decide) (fun c_2 => ?_) (fun c_2 => ?_)
  · first | exact absurd c_2 (by decide) | exact absurd (by decide) c_2
  refine lv_iload_n hx hb dX10_ran_11 rfl (lv_at hl 0 rfl) ?_
  exact W.iret (v := (-2)) hx hb hr (fun t ht hW => ⟨(-2), rfl, rfl, ht⟩) (fun _ h9 => by cases h9) dX10_ran_12
set_option maxHeartbeats 4000000 in
set_option maxRecDepth 100000 in
theorem c_X10_astray (l : Launch) (D : va_G) (k : Nat → ClassId) (u : Nat → Nat) (mf : Nat → Int32) (p0 : Int32) (p1 : Int32)  : Met l yX10_astray (.code yX10_astray cX10_astray 4 (some .int) :: TB) (rmk 4) (va_Pc [.ref (u 0), .int p0, .int p1] (fun U => MWH D k u mf U U.heap)) (vp_Si (fun r => r = (-2))) 0 0 (fun _ => False) := by
  refine Met.ofW (cc := cX10_astray) (maxL := 4) (ret := (some .int)) (by decide) rfl ?_
  intro p e s m args below meth c s₁ B hml hv
  obtain ⟨rfl, hF⟩ := hv
  have hx := B.exec
  have hb := B.bytes
  have hr := B.returns
  have hT : ∀ w ∈ TB, w.before ([.ref (u 0), .int p0, .int p1] : List Value).toArray s = true := fun w h => atoms_spec (ws := .code yX10_astray cX10_astray 4 (some .int) :: TB) B.pre w (List.mem_cons_of_mem _ h)
  have hown : s.vm.findClass RX10 = some m.cls := findClass_of_methodNamed B.named
  have S : CallFix p m c cX10_astray 4 s _ TB RX10 := ⟨hx, hb, hml, hown, hT⟩
  have hP : va_P D vwCl [(u 0, .inr (10, [.int 0, .ref (u 1), .ref (u 2), .ref (u 3), .ref (u 4), .int 0, .ref (u 5), .int 0, .int 0, .int 0, .int 0, .int 0, .int 0, .int (-1), .ref (u 6), .ref (u 7), .ref (u 8), .ref (u 9), .ref (u 10), .ref (u 11), .int 0, .int 0, .int 0, .ref (u 12), .ref (u 13), .ref (u 14), .int 0, .int 0, .ref (u 15), .int 0, .ref (u 16), .int 0, .ref (u 17), .int 0, .ref (u 18), .ref (u 19), .ref (u 20), .ref (u 21)])), (u 1, .inl (k 0, 168, .inl (fun _ => 0))), (u 3, .inl (k 3, 3, .inl (fun _ => 0))), (u 18, .inl (k 0, 4, .inl mf))] s.heap := hF.1
  have hK := hF.2.1
  have hl := lv_entry ([.ref (u 0), .int p0, .int p1]) (n := 4) (Nat.le_of_ble_eq_true rfl)
  rw [lg_entry_eq]
  generalize (lg_sl ([.ref (u 0), .int p0, .int p1]) ++ List.replicate (4 - (lg_sl ([.ref (u 0), .int p0, .int p1])).length) Slot.unset).toArray = ls at hl ⊢
  have hl : lv_has ls 4 [(0, .ref (u 0)), (1, .int p0), (2, .int p1)] := hl
  refine lv_aload_n hx hb dX10_astray_0 rfl (lv_at hl 0 rfl) ?_
  refine lv_iload_n hx hb dX10_astray_1 rfl (lv_at hl 1 rfl) ?_
  refine lv_iload_n hx hb dX10_astray_2 rfl (lv_at hl 2 rfl) ?_
  refine ro_V (As := [.int p0, .int p1]) (rest := []) S (c_X10_asksRow l D k u mf p0 p1) lkX10_319 ok_X10_asksRow ⟨rfl, rfl, Nat.le_of_ble_eq_true rfl, Nat.le_of_ble_eq_true rfl⟩ (mw_V (ci := 10) (q0 := 0) hF rfl rfl) rfl hl.1 rfl (Nat.le_of_ble_eq_true rfl) ⟨Nat.zero_le _, Nat.zero_le _⟩ dX10_astray_3 (fun r_1 er_1 => ?_)
  subst er_1
  refine lv_istore_n (lv' := [(3, .int (-2)), (0, .ref (u 0)), (1, .int p0), (2, .int p1)]) hx hb dX10_astray_6 rfl hl (by decide) rfl (fun ls hl => ?_)
  refine lv_iload_n hx hb dX10_astray_7 rfl (lv_at hl 0 rfl) ?_
  refine lv_if_ge (tgt := 13) hx hb dX10_astray_8 (by decide) (fun c_2 => ?_) (fun c_2 => ?_)
  · first | exact absurd c_2 (by decide) | exact absurd (by decide) c_2
  refine lv_iload_n hx hb dX10_astray_11 rfl (lv_at hl 0 rfl) ?_
  exact W.iret (v := (-2)) hx hb hr (fun t ht hW => ⟨(-2), rfl, rfl, ht⟩) (fun _ h9 => by cases h9) dX10_astray_12
set_option maxHeartbeats 4000000 in
set_option maxRecDepth 100000 in
theorem c_X10_worn (l : Launch) (D : va_G) (k : Nat → ClassId) (u : Nat → Nat) (mf : Nat → Int32) (p0 : Int32) (p1 : Int32)  : Met l yX10_worn (.code yX10_worn cX10_worn 4 (some .int) :: TB) (rmk 4) (va_Pc [.ref (u 0), .int p0, .int p1] (fun U => MWH D k u mf U U.heap)) (vp_Si (fun r => r = (-2))) 0 0 (fun _ => False) := by
  refine Met.ofW (cc := cX10_worn) (maxL := 4) (ret := (some .int)) (by decide) rfl ?_
  intro p e s m args below meth c s₁ B hml hv
  obtain ⟨rfl, hF⟩ := hv
  have hx := B.exec
  have hb := B.bytes
  have hr := B.returns
  have hT : ∀ w ∈ TB, w.before ([.ref (u 0), .int p0, .int p1] : List Value).toArray s = true := fun w h => atoms_spec (ws := .code yX10_worn cX10_worn 4 (some .int) :: TB) B.pre w (List.mem_cons_of_mem _ h)
  have hown : s.vm.findClass RX10 = some m.cls := findClass_of_methodNamed B.named
  have S : CallFix p m c cX10_worn 4 s _ TB RX10 := ⟨hx, hb, hml, hown, hT⟩
  have hP : va_P D vwCl [(u 0, .inr (10, [.int 0, .ref (u 1), .ref (u 2), .ref (u 3), .ref (u 4), .int 0, .ref (u 5), .int 0, .int 0, .int 0, .int 0, .int 0, .int 0, .int (-1), .ref (u 6), .ref (u 7), .ref (u 8), .ref (u 9), .ref (u 10), .ref (u 11), .int 0, .int 0, .int 0, .ref (u 12), .ref (u 13), .ref (u 14), .int 0, .int 0, .ref (u 15), .int 0, .ref (u 16), .int 0, .ref (u 17), .int 0, .ref (u 18), .ref (u 19), .ref (u 20), .ref (u 21)])), (u 1, .inl (k 0, 168, .inl (fun _ => 0))), (u 3, .inl (k 3, 3, .inl (fun _ => 0))), (u 18, .inl (k 0, 4, .inl mf))] s.heap := hF.1
  have hK := hF.2.1
  have hl := lv_entry ([.ref (u 0), .int p0, .int p1]) (n := 4) (Nat.le_of_ble_eq_true rfl)
  rw [lg_entry_eq]
  generalize (lg_sl ([.ref (u 0), .int p0, .int p1]) ++ List.replicate (4 - (lg_sl ([.ref (u 0), .int p0, .int p1])).length) Slot.unset).toArray = ls at hl ⊢
  have hl : lv_has ls 4 [(0, .ref (u 0)), (1, .int p0), (2, .int p1)] := hl
  refine lv_aload_n hx hb dX10_worn_0 rfl (lv_at hl 0 rfl) ?_
  refine lv_iload_n hx hb dX10_worn_1 rfl (lv_at hl 1 rfl) ?_
  refine lv_iload_n hx hb dX10_worn_2 rfl (lv_at hl 2 rfl) ?_
  refine ro_V (As := [.int p0, .int p1]) (rest := []) S (c_X10_asksRow l D k u mf p0 p1) lkX10_319 ok_X10_asksRow ⟨rfl, rfl, Nat.le_of_ble_eq_true rfl, Nat.le_of_ble_eq_true rfl⟩ (mw_V (ci := 10) (q0 := 0) hF rfl rfl) rfl hl.1 rfl (Nat.le_of_ble_eq_true rfl) ⟨Nat.zero_le _, Nat.zero_le _⟩ dX10_worn_3 (fun r_1 er_1 => ?_)
  subst er_1
  refine lv_istore_n (lv' := [(3, .int (-2)), (0, .ref (u 0)), (1, .int p0), (2, .int p1)]) hx hb dX10_worn_6 rfl hl (by decide) rfl (fun ls hl => ?_)
  refine lv_iload_n hx hb dX10_worn_7 rfl (lv_at hl 0 rfl) ?_
  refine lv_if_ge (tgt := 13) hx hb dX10_worn_8 (by decide) (fun c_2 => ?_) (fun c_2 => ?_)
  · first | exact absurd c_2 (by decide) | exact absurd (by decide) c_2
  refine lv_iload_n hx hb dX10_worn_11 rfl (lv_at hl 0 rfl) ?_
  exact W.iret (v := (-2)) hx hb hr (fun t ht hW => ⟨(-2), rfl, rfl, ht⟩) (fun _ h9 => by cases h9) dX10_worn_12
set_option maxHeartbeats 4000000 in
set_option maxRecDepth 100000 in
theorem c_X10_way (l : Launch) (D : va_G) (k : Nat → ClassId) (u : Nat → Nat) (mf : Nat → Int32) (p0 : Int32) (p1 : Int32)  : Met l yX10_way (.code yX10_way cX10_way 4 (some .int) :: TB) (rmk 3) (va_Pc [.ref (u 0), .int p0, .int p1] (fun U => MWH D k u mf U U.heap)) (vp_Si (fun r => r = (-2))) 0 0 (fun _ => False) := by
  refine Met.ofW (cc := cX10_way) (maxL := 4) (ret := (some .int)) (by decide) rfl ?_
  intro p e s m args below meth c s₁ B hml hv
  obtain ⟨rfl, hF⟩ := hv
  have hx := B.exec
  have hb := B.bytes
  have hr := B.returns
  have hT : ∀ w ∈ TB, w.before ([.ref (u 0), .int p0, .int p1] : List Value).toArray s = true := fun w h => atoms_spec (ws := .code yX10_way cX10_way 4 (some .int) :: TB) B.pre w (List.mem_cons_of_mem _ h)
  have hown : s.vm.findClass RX10 = some m.cls := findClass_of_methodNamed B.named
  have S : CallFix p m c cX10_way 4 s _ TB RX10 := ⟨hx, hb, hml, hown, hT⟩
  have hP : va_P D vwCl [(u 0, .inr (10, [.int 0, .ref (u 1), .ref (u 2), .ref (u 3), .ref (u 4), .int 0, .ref (u 5), .int 0, .int 0, .int 0, .int 0, .int 0, .int 0, .int (-1), .ref (u 6), .ref (u 7), .ref (u 8), .ref (u 9), .ref (u 10), .ref (u 11), .int 0, .int 0, .int 0, .ref (u 12), .ref (u 13), .ref (u 14), .int 0, .int 0, .ref (u 15), .int 0, .ref (u 16), .int 0, .ref (u 17), .int 0, .ref (u 18), .ref (u 19), .ref (u 20), .ref (u 21)])), (u 1, .inl (k 0, 168, .inl (fun _ => 0))), (u 3, .inl (k 3, 3, .inl (fun _ => 0))), (u 18, .inl (k 0, 4, .inl mf))] s.heap := hF.1
  have hK := hF.2.1
  have hl := lv_entry ([.ref (u 0), .int p0, .int p1]) (n := 4) (Nat.le_of_ble_eq_true rfl)
  rw [lg_entry_eq]
  generalize (lg_sl ([.ref (u 0), .int p0, .int p1]) ++ List.replicate (4 - (lg_sl ([.ref (u 0), .int p0, .int p1])).length) Slot.unset).toArray = ls at hl ⊢
  have hl : lv_has ls 4 [(0, .ref (u 0)), (1, .int p0), (2, .int p1)] := hl
  refine lv_aload_n hx hb dX10_way_0 rfl (lv_at hl 0 rfl) ?_
  refine lv_iload_n hx hb dX10_way_1 rfl (lv_at hl 1 rfl) ?_
  refine ro_V (As := [.int p0]) (rest := []) S (c_X10_isCart l D k u mf p0) lkX10_279 ok_X10_isCart ⟨rfl, rfl, Nat.le_of_ble_eq_true rfl, Nat.le_of_ble_eq_true rfl⟩ (mw_V (ci := 10) (q0 := 0) hF rfl rfl) rfl hl.1 rfl (Nat.le_of_ble_eq_true rfl) ⟨Nat.zero_le _, Nat.zero_le _⟩ dX10_way_2 (fun r_1 er_1 => ?_)
  subst er_1
  refine lv_if_eq (tgt := 17) hx hb dX10_way_5 (by decide) (fun c_2 => ?_) (fun c_2 => ?_)
  rotate_left
  · first | exact absurd c_2 (by decide) | exact absurd (by decide) c_2
  refine lv_bipush (v := (-2)) hx hb dX10_way_17 (by decide) ?_
  exact W.iret (v := (-2)) hx hb hr (fun t ht hW => ⟨(-2), rfl, rfl, ht⟩) (fun _ h9 => by cases h9) dX10_way_19
set_option maxHeartbeats 4000000 in
set_option maxRecDepth 100000 in
theorem c_X10_wants (l : Launch) (D : va_G) (k : Nat → ClassId) (u : Nat → Nat) (mf : Nat → Int32) (p0 : Int32) (p1 : Int32) (p2 : Int32)  : Met l yX10_wants (.code yX10_wants cX10_wants 4 (some .int) :: TB) (rmk 3) (va_Pc [.ref (u 0), .int p0, .int p1, .int p2] (fun U => MWH D k u mf U U.heap)) (vp_Si (fun r => r = (-2))) 0 0 (fun _ => False) := by
  refine Met.ofW (cc := cX10_wants) (maxL := 4) (ret := (some .int)) (by decide) rfl ?_
  intro p e s m args below meth c s₁ B hml hv
  obtain ⟨rfl, hF⟩ := hv
  have hx := B.exec
  have hb := B.bytes
  have hr := B.returns
  have hT : ∀ w ∈ TB, w.before ([.ref (u 0), .int p0, .int p1, .int p2] : List Value).toArray s = true := fun w h => atoms_spec (ws := .code yX10_wants cX10_wants 4 (some .int) :: TB) B.pre w (List.mem_cons_of_mem _ h)
  have hown : s.vm.findClass RX10 = some m.cls := findClass_of_methodNamed B.named
  have S : CallFix p m c cX10_wants 4 s _ TB RX10 := ⟨hx, hb, hml, hown, hT⟩
  have hP : va_P D vwCl [(u 0, .inr (10, [.int 0, .ref (u 1), .ref (u 2), .ref (u 3), .ref (u 4), .int 0, .ref (u 5), .int 0, .int 0, .int 0, .int 0, .int 0, .int 0, .int (-1), .ref (u 6), .ref (u 7), .ref (u 8), .ref (u 9), .ref (u 10), .ref (u 11), .int 0, .int 0, .int 0, .ref (u 12), .ref (u 13), .ref (u 14), .int 0, .int 0, .ref (u 15), .int 0, .ref (u 16), .int 0, .ref (u 17), .int 0, .ref (u 18), .ref (u 19), .ref (u 20), .ref (u 21)])), (u 1, .inl (k 0, 168, .inl (fun _ => 0))), (u 3, .inl (k 3, 3, .inl (fun _ => 0))), (u 18, .inl (k 0, 4, .inl mf))] s.heap := hF.1
  have hK := hF.2.1
  have hl := lv_entry ([.ref (u 0), .int p0, .int p1, .int p2]) (n := 4) (Nat.le_of_ble_eq_true rfl)
  rw [lg_entry_eq]
  generalize (lg_sl ([.ref (u 0), .int p0, .int p1, .int p2]) ++ List.replicate (4 - (lg_sl ([.ref (u 0), .int p0, .int p1, .int p2])).length) Slot.unset).toArray = ls at hl ⊢
  have hl : lv_has ls 4 [(0, .ref (u 0)), (1, .int p0), (2, .int p1), (3, .int p2)] := hl
  refine lv_aload_n hx hb dX10_wants_0 rfl (lv_at hl 0 rfl) ?_
  refine lv_iload_n hx hb dX10_wants_1 rfl (lv_at hl 1 rfl) ?_
  refine ro_V (As := [.int p0]) (rest := []) S (c_X10_isCart l D k u mf p0) lkX10_279 ok_X10_isCart ⟨rfl, rfl, Nat.le_of_ble_eq_true rfl, Nat.le_of_ble_eq_true rfl⟩ (mw_V (ci := 10) (q0 := 0) hF rfl rfl) rfl hl.1 rfl (Nat.le_of_ble_eq_true rfl) ⟨Nat.zero_le _, Nat.zero_le _⟩ dX10_wants_2 (fun r_1 er_1 => ?_)
  subst er_1
  refine lv_if_eq (tgt := 17) hx hb dX10_wants_5 (by decide) (fun c_2 => ?_) (fun c_2 => ?_)
  rotate_left
  · first | exact absurd c_2 (by decide) | exact absurd (by decide) c_2
  refine lv_bipush (v := (-2)) hx hb dX10_wants_17 (by decide) ?_
  exact W.iret (v := (-2)) hx hb hr (fun t ht hW => ⟨(-2), rfl, rfl, ht⟩) (fun _ h9 => by cases h9) dX10_wants_19
set_option maxHeartbeats 4000000 in
set_option maxRecDepth 100000 in
theorem c_X10_reach (l : Launch) (D : va_G) (k : Nat → ClassId) (u : Nat → Nat) (mf : Nat → Int32) (p0 : Int32)  : Met l yX10_reach (.code yX10_reach cX10_reach 2 (some .int) :: TB) (rmk 3) (va_Pc [.ref (u 0), .int p0] (fun U => MWH D k u mf U U.heap)) (vp_Si (fun r => r = (-2))) 0 0 (fun _ => False) := by
  refine Met.ofW (cc := cX10_reach) (maxL := 2) (ret := (some .int)) (by decide) rfl ?_
  intro p e s m args below meth c s₁ B hml hv
  obtain ⟨rfl, hF⟩ := hv
  have hx := B.exec
  have hb := B.bytes
  have hr := B.returns
  have hT : ∀ w ∈ TB, w.before ([.ref (u 0), .int p0] : List Value).toArray s = true := fun w h => atoms_spec (ws := .code yX10_reach cX10_reach 2 (some .int) :: TB) B.pre w (List.mem_cons_of_mem _ h)
  have hown : s.vm.findClass RX10 = some m.cls := findClass_of_methodNamed B.named
  have S : CallFix p m c cX10_reach 2 s _ TB RX10 := ⟨hx, hb, hml, hown, hT⟩
  have hP : va_P D vwCl [(u 0, .inr (10, [.int 0, .ref (u 1), .ref (u 2), .ref (u 3), .ref (u 4), .int 0, .ref (u 5), .int 0, .int 0, .int 0, .int 0, .int 0, .int 0, .int (-1), .ref (u 6), .ref (u 7), .ref (u 8), .ref (u 9), .ref (u 10), .ref (u 11), .int 0, .int 0, .int 0, .ref (u 12), .ref (u 13), .ref (u 14), .int 0, .int 0, .ref (u 15), .int 0, .ref (u 16), .int 0, .ref (u 17), .int 0, .ref (u 18), .ref (u 19), .ref (u 20), .ref (u 21)])), (u 1, .inl (k 0, 168, .inl (fun _ => 0))), (u 3, .inl (k 3, 3, .inl (fun _ => 0))), (u 18, .inl (k 0, 4, .inl mf))] s.heap := hF.1
  have hK := hF.2.1
  have hl := lv_entry ([.ref (u 0), .int p0]) (n := 2) (Nat.le_of_ble_eq_true rfl)
  rw [lg_entry_eq]
  generalize (lg_sl ([.ref (u 0), .int p0]) ++ List.replicate (2 - (lg_sl ([.ref (u 0), .int p0])).length) Slot.unset).toArray = ls at hl ⊢
  have hl : lv_has ls 2 [(0, .ref (u 0)), (1, .int p0)] := hl
  refine lv_aload_n hx hb dX10_reach_0 rfl (lv_at hl 0 rfl) ?_
  refine lv_iload_n hx hb dX10_reach_1 rfl (lv_at hl 1 rfl) ?_
  refine ro_V (As := [.int p0]) (rest := []) S (c_X10_isCart l D k u mf p0) lkX10_279 ok_X10_isCart ⟨rfl, rfl, Nat.le_of_ble_eq_true rfl, Nat.le_of_ble_eq_true rfl⟩ (mw_V (ci := 10) (q0 := 0) hF rfl rfl) rfl hl.1 rfl (Nat.le_of_ble_eq_true rfl) ⟨Nat.zero_le _, Nat.zero_le _⟩ dX10_reach_2 (fun r_1 er_1 => ?_)
  subst er_1
  refine lv_if_ne (tgt := 11) hx hb dX10_reach_5 (by decide) (fun c_2 => ?_) (fun c_2 => ?_)
  · first | exact absurd c_2 (by decide) | exact absurd (by decide) c_2
  refine lv_bipush (v := (-2)) hx hb dX10_reach_8 (by decide) ?_
  exact W.iret (v := (-2)) hx hb hr (fun t ht hW => ⟨(-2), rfl, rfl, ht⟩) (fun _ h9 => by cases h9) dX10_reach_10
