set_option maxHeartbeats 4000000 in
set_option maxRecDepth 100000 in
theorem c_X10_far (l : Launch) (D : va_G) (k : Nat → ClassId) (u : Nat → Nat) (mf : Nat → Int32) (p0 : Int32) (p1 : Int32)  : Met l yX10_far (.code yX10_far cX10_far 7 (some .int) :: TB) (rmk 3) (va_Pc [.ref (u 0), .int p0, .int p1] (fun U => MWH D k u mf U U.heap)) (vp_Si (fun r => r = (-2))) 0 0 (fun _ => False) := by
  refine Met.ofW (cc := cX10_far) (maxL := 7) (ret := (some .int)) (by decide) rfl ?_
  intro p e s m args below meth c s₁ B hml hv
  obtain ⟨rfl, hF⟩ := hv
  have hx := B.exec
  have hb := B.bytes
  have hr := B.returns
  have hT : ∀ w ∈ TB, w.before ([.ref (u 0), .int p0, .int p1] : List Value).toArray s = true := fun w h => atoms_spec (ws := .code yX10_far cX10_far 7 (some .int) :: TB) B.pre w (List.mem_cons_of_mem _ h)
  have hown : s.vm.findClass RX10 = some m.cls := findClass_of_methodNamed B.named
  have S : CallFix p m c cX10_far 7 s _ TB RX10 := ⟨hx, hb, hml, hown, hT⟩
  have hP : va_P D vwCl [(u 0, .inr (10, [.int 0, .ref (u 1), .ref (u 2), .ref (u 3), .ref (u 4), .int 0, .ref (u 5), .int 0, .int 0, .int 0, .int 0, .int 0, .int 0, .int (-1), .ref (u 6), .ref (u 7), .ref (u 8), .ref (u 9), .ref (u 10), .ref (u 11), .int 0, .int 0, .int 0, .ref (u 12), .ref (u 13), .ref (u 14), .int 0, .int 0, .ref (u 15), .int 0, .ref (u 16), .int 0, .ref (u 17), .int 0, .ref (u 18), .ref (u 19), .ref (u 20), .ref (u 21)])), (u 1, .inl (k 0, 168, .inl (fun _ => 0))), (u 3, .inl (k 3, 3, .inl (fun _ => 0))), (u 18, .inl (k 0, 4, .inl mf))] s.heap := hF.1
  have hK := hF.2.1
  have hl := lv_entry ([.ref (u 0), .int p0, .int p1]) (n := 7) (Nat.le_of_ble_eq_true rfl)
  rw [lg_entry_eq]
  generalize (lg_sl ([.ref (u 0), .int p0, .int p1]) ++ List.replicate (7 - (lg_sl ([.ref (u 0), .int p0, .int p1])).length) Slot.unset).toArray = ls at hl ⊢
  have hl : lv_has ls 7 [(0, .ref (u 0)), (1, .int p0), (2, .int p1)] := hl
  refine lv_aload_n hx hb dX10_far_0 rfl (lv_at hl 0 rfl) ?_
  refine lv_iload_n hx hb dX10_far_1 rfl (lv_at hl 1 rfl) ?_
  refine lv_i2l (v := p0.toInt64) hx hb dX10_far_2 rfl ?_
  refine ro_V (As := [.long p0.toInt64]) (rest := []) S (c_X10_isPlace l D k u mf p0.toInt64) lkX10_282 ok_X10_isPlace ⟨rfl, rfl, Nat.le_of_ble_eq_true rfl, Nat.le_of_ble_eq_true rfl⟩ (mw_V (ci := 10) (q0 := 0) hF rfl rfl) rfl hl.1 rfl (Nat.le_of_ble_eq_true rfl) ⟨Nat.zero_le _, Nat.zero_le _⟩ dX10_far_3 (fun r_1 er_1 => ?_)
  subst er_1
  refine lv_if_eq (tgt := 18) hx hb dX10_far_6 (by decide) (fun c_2 => ?_) (fun c_2 => ?_)
  rotate_left
  · first | exact absurd c_2 (by decide) | exact absurd (by decide) c_2
  refine lv_bipush (v := (-2)) hx hb dX10_far_18 (by decide) ?_
  exact W.iret (v := (-2)) hx hb hr (fun t ht hW => ⟨(-2), rfl, rfl, ht⟩) (fun _ h9 => by cases h9) dX10_far_20
set_option maxHeartbeats 4000000 in
set_option maxRecDepth 100000 in
theorem c_X10_dues (l : Launch) (D : va_G) (k : Nat → ClassId) (u : Nat → Nat) (mf : Nat → Int32)   : Met l yX10_dues (.code yX10_dues cX10_dues 3 (some .int) :: TB) (rmk 2) (va_Pc [.ref (u 0)] (fun U => MWH D k u mf U U.heap)) (vp_Si (fun r => r = (-2))) 0 0 (fun _ => False) := by
  refine Met.ofW (cc := cX10_dues) (maxL := 3) (ret := (some .int)) (by decide) rfl ?_
  intro p e s m args below meth c s₁ B hml hv
  obtain ⟨rfl, hF⟩ := hv
  have hx := B.exec
  have hb := B.bytes
  have hr := B.returns
  have hT : ∀ w ∈ TB, w.before ([.ref (u 0)] : List Value).toArray s = true := fun w h => atoms_spec (ws := .code yX10_dues cX10_dues 3 (some .int) :: TB) B.pre w (List.mem_cons_of_mem _ h)
  have hown : s.vm.findClass RX10 = some m.cls := findClass_of_methodNamed B.named
  have S : CallFix p m c cX10_dues 3 s _ TB RX10 := ⟨hx, hb, hml, hown, hT⟩
  have hP : va_P D vwCl [(u 0, .inr (10, [.int 0, .ref (u 1), .ref (u 2), .ref (u 3), .ref (u 4), .int 0, .ref (u 5), .int 0, .int 0, .int 0, .int 0, .int 0, .int 0, .int (-1), .ref (u 6), .ref (u 7), .ref (u 8), .ref (u 9), .ref (u 10), .ref (u 11), .int 0, .int 0, .int 0, .ref (u 12), .ref (u 13), .ref (u 14), .int 0, .int 0, .ref (u 15), .int 0, .ref (u 16), .int 0, .ref (u 17), .int 0, .ref (u 18), .ref (u 19), .ref (u 20), .ref (u 21)])), (u 1, .inl (k 0, 168, .inl (fun _ => 0))), (u 3, .inl (k 3, 3, .inl (fun _ => 0))), (u 18, .inl (k 0, 4, .inl mf))] s.heap := hF.1
  have hK := hF.2.1
  have hl := lv_entry ([.ref (u 0)]) (n := 3) (Nat.le_of_ble_eq_true rfl)
  rw [lg_entry_eq]
  generalize (lg_sl ([.ref (u 0)]) ++ List.replicate (3 - (lg_sl ([.ref (u 0)])).length) Slot.unset).toArray = ls at hl ⊢
  have hl : lv_has ls 3 [(0, .ref (u 0))] := hl
  refine lv_aload_n hx hb dX10_dues_0 rfl (lv_at hl 0 rfl) ?_
  refine ro_V (As := []) (rest := []) S (c_X10_isLand l D k u mf ) lkX10_297 ok_X10_isLand ⟨rfl, rfl, Nat.le_of_ble_eq_true rfl, Nat.le_of_ble_eq_true rfl⟩ (mw_V (ci := 10) (q0 := 0) hF rfl rfl) rfl hl.1 rfl (Nat.le_of_ble_eq_true rfl) ⟨Nat.zero_le _, Nat.zero_le _⟩ dX10_dues_1 (fun r_1 er_1 => ?_)
  subst er_1
  refine lv_if_ne (tgt := 10) hx hb dX10_dues_4 (by decide) (fun c_2 => ?_) (fun c_2 => ?_)
  · first | exact absurd c_2 (by decide) | exact absurd (by decide) c_2
  refine lv_bipush (v := (-2)) hx hb dX10_dues_7 (by decide) ?_
  exact W.iret (v := (-2)) hx hb hr (fun t ht hW => ⟨(-2), rfl, rfl, ht⟩) (fun _ h9 => by cases h9) dX10_dues_9
set_option maxHeartbeats 4000000 in
set_option maxRecDepth 100000 in
theorem c_X10_choose (l : Launch) (D : va_G) (k : Nat → ClassId) (u : Nat → Nat) (mf : Nat → Int32) (p0 : Int32) (p1 : Int32)  : Met l yX10_choose (.code yX10_choose cX10_choose 4 (some .int) :: TB) (rmk 3) (va_Pc [.ref (u 0), .int p0, .int p1] (fun U => MWH D k u mf U U.heap)) (vp_Si (fun r => r = (-2))) 0 0 (fun _ => False) := by
  refine Met.ofW (cc := cX10_choose) (maxL := 4) (ret := (some .int)) (by decide) rfl ?_
  intro p e s m args below meth c s₁ B hml hv
  obtain ⟨rfl, hF⟩ := hv
  have hx := B.exec
  have hb := B.bytes
  have hr := B.returns
  have hT : ∀ w ∈ TB, w.before ([.ref (u 0), .int p0, .int p1] : List Value).toArray s = true := fun w h => atoms_spec (ws := .code yX10_choose cX10_choose 4 (some .int) :: TB) B.pre w (List.mem_cons_of_mem _ h)
  have hown : s.vm.findClass RX10 = some m.cls := findClass_of_methodNamed B.named
  have S : CallFix p m c cX10_choose 4 s _ TB RX10 := ⟨hx, hb, hml, hown, hT⟩
  have hP : va_P D vwCl [(u 0, .inr (10, [.int 0, .ref (u 1), .ref (u 2), .ref (u 3), .ref (u 4), .int 0, .ref (u 5), .int 0, .int 0, .int 0, .int 0, .int 0, .int 0, .int (-1), .ref (u 6), .ref (u 7), .ref (u 8), .ref (u 9), .ref (u 10), .ref (u 11), .int 0, .int 0, .int 0, .ref (u 12), .ref (u 13), .ref (u 14), .int 0, .int 0, .ref (u 15), .int 0, .ref (u 16), .int 0, .ref (u 17), .int 0, .ref (u 18), .ref (u 19), .ref (u 20), .ref (u 21)])), (u 1, .inl (k 0, 168, .inl (fun _ => 0))), (u 3, .inl (k 3, 3, .inl (fun _ => 0))), (u 18, .inl (k 0, 4, .inl mf))] s.heap := hF.1
  have hK := hF.2.1
  have hl := lv_entry ([.ref (u 0), .int p0, .int p1]) (n := 4) (Nat.le_of_ble_eq_true rfl)
  rw [lg_entry_eq]
  generalize (lg_sl ([.ref (u 0), .int p0, .int p1]) ++ List.replicate (4 - (lg_sl ([.ref (u 0), .int p0, .int p1])).length) Slot.unset).toArray = ls at hl ⊢
  have hl : lv_has ls 4 [(0, .ref (u 0)), (1, .int p0), (2, .int p1)] := hl
  refine lv_aload_n hx hb dX10_choose_0 rfl (lv_at hl 0 rfl) ?_
  refine lv_iload_n hx hb dX10_choose_1 rfl (lv_at hl 1 rfl) ?_
  refine ro_V (As := [.int p0]) (rest := []) S (c_X10_isCart l D k u mf p0) lkX10_279 ok_X10_isCart ⟨rfl, rfl, Nat.le_of_ble_eq_true rfl, Nat.le_of_ble_eq_true rfl⟩ (mw_V (ci := 10) (q0 := 0) hF rfl rfl) rfl hl.1 rfl (Nat.le_of_ble_eq_true rfl) ⟨Nat.zero_le _, Nat.zero_le _⟩ dX10_choose_2 (fun r_1 er_1 => ?_)
  subst er_1
  refine lv_if_eq (tgt := 17) hx hb dX10_choose_5 (by decide) (fun c_2 => ?_) (fun c_2 => ?_)
  rotate_left
  · first | exact absurd c_2 (by decide) | exact absurd (by decide) c_2
  refine lv_bipush (v := (-2)) hx hb dX10_choose_17 (by decide) ?_
  exact W.iret (v := (-2)) hx hb hr (fun t ht hW => ⟨(-2), rfl, rfl, ht⟩) (fun _ h9 => by cases h9) dX10_choose_19
set_option maxHeartbeats 4000000 in
set_option maxRecDepth 100000 in
theorem c_X10_chosen (l : Launch) (D : va_G) (k : Nat → ClassId) (u : Nat → Nat) (mf : Nat → Int32) (p0 : Int32) (p1 : Int32)  : Met l yX10_chosen (.code yX10_chosen cX10_chosen 3 (some .int) :: TB) (rmk 3) (va_Pc [.ref (u 0), .int p0, .int p1] (fun U => MWH D k u mf U U.heap)) (vp_Si (fun r => r = (-2))) 0 0 (fun _ => False) := by
  refine Met.ofW (cc := cX10_chosen) (maxL := 3) (ret := (some .int)) (by decide) rfl ?_
  intro p e s m args below meth c s₁ B hml hv
  obtain ⟨rfl, hF⟩ := hv
  have hx := B.exec
  have hb := B.bytes
  have hr := B.returns
  have hT : ∀ w ∈ TB, w.before ([.ref (u 0), .int p0, .int p1] : List Value).toArray s = true := fun w h => atoms_spec (ws := .code yX10_chosen cX10_chosen 3 (some .int) :: TB) B.pre w (List.mem_cons_of_mem _ h)
  have hown : s.vm.findClass RX10 = some m.cls := findClass_of_methodNamed B.named
  have S : CallFix p m c cX10_chosen 3 s _ TB RX10 := ⟨hx, hb, hml, hown, hT⟩
  have hP : va_P D vwCl [(u 0, .inr (10, [.int 0, .ref (u 1), .ref (u 2), .ref (u 3), .ref (u 4), .int 0, .ref (u 5), .int 0, .int 0, .int 0, .int 0, .int 0, .int 0, .int (-1), .ref (u 6), .ref (u 7), .ref (u 8), .ref (u 9), .ref (u 10), .ref (u 11), .int 0, .int 0, .int 0, .ref (u 12), .ref (u 13), .ref (u 14), .int 0, .int 0, .ref (u 15), .int 0, .ref (u 16), .int 0, .ref (u 17), .int 0, .ref (u 18), .ref (u 19), .ref (u 20), .ref (u 21)])), (u 1, .inl (k 0, 168, .inl (fun _ => 0))), (u 3, .inl (k 3, 3, .inl (fun _ => 0))), (u 18, .inl (k 0, 4, .inl mf))] s.heap := hF.1
  have hK := hF.2.1
  have hl := lv_entry ([.ref (u 0), .int p0, .int p1]) (n := 3) (Nat.le_of_ble_eq_true rfl)
  rw [lg_entry_eq]
  generalize (lg_sl ([.ref (u 0), .int p0, .int p1]) ++ List.replicate (3 - (lg_sl ([.ref (u 0), .int p0, .int p1])).length) Slot.unset).toArray = ls at hl ⊢
  have hl : lv_has ls 3 [(0, .ref (u 0)), (1, .int p0), (2, .int p1)] := hl
  refine lv_aload_n hx hb dX10_chosen_0 rfl (lv_at hl 0 rfl) ?_
  refine lv_iload_n hx hb dX10_chosen_1 rfl (lv_at hl 1 rfl) ?_
  refine ro_V (As := [.int p0]) (rest := []) S (c_X10_isCart l D k u mf p0) lkX10_279 ok_X10_isCart ⟨rfl, rfl, Nat.le_of_ble_eq_true rfl, Nat.le_of_ble_eq_true rfl⟩ (mw_V (ci := 10) (q0 := 0) hF rfl rfl) rfl hl.1 rfl (Nat.le_of_ble_eq_true rfl) ⟨Nat.zero_le _, Nat.zero_le _⟩ dX10_chosen_2 (fun r_1 er_1 => ?_)
  subst er_1
  refine lv_if_eq (tgt := 17) hx hb dX10_chosen_5 (by decide) (fun c_2 => ?_) (fun c_2 => ?_)
  rotate_left
  · first | exact absurd c_2 (by decide) | exact absurd (by decide) c_2
  refine lv_bipush (v := (-2)) hx hb dX10_chosen_17 (by decide) ?_
  exact W.iret (v := (-2)) hx hb hr (fun t ht hW => ⟨(-2), rfl, rfl, ht⟩) (fun _ h9 => by cases h9) dX10_chosen_19
set_option maxHeartbeats 4000000 in
set_option maxRecDepth 100000 in
theorem c_X10_roams (l : Launch) (D : va_G) (k : Nat → ClassId) (u : Nat → Nat) (mf : Nat → Int32) (p0 : Int32) (p1 : Int32)  : Met l yX10_roams (.code yX10_roams cX10_roams 3 (some .int) :: TB) (rmk 3) (va_Pc [.ref (u 0), .int p0, .int p1] (fun U => MWH D k u mf U U.heap)) (vp_Si (fun r => r = (-2))) 0 0 (fun _ => False) := by
  refine Met.ofW (cc := cX10_roams) (maxL := 3) (ret := (some .int)) (by decide) rfl ?_
  intro p e s m args below meth c s₁ B hml hv
  obtain ⟨rfl, hF⟩ := hv
  have hx := B.exec
  have hb := B.bytes
  have hr := B.returns
  have hT : ∀ w ∈ TB, w.before ([.ref (u 0), .int p0, .int p1] : List Value).toArray s = true := fun w h => atoms_spec (ws := .code yX10_roams cX10_roams 3 (some .int) :: TB) B.pre w (List.mem_cons_of_mem _ h)
  have hown : s.vm.findClass RX10 = some m.cls := findClass_of_methodNamed B.named
  have S : CallFix p m c cX10_roams 3 s _ TB RX10 := ⟨hx, hb, hml, hown, hT⟩
  have hP : va_P D vwCl [(u 0, .inr (10, [.int 0, .ref (u 1), .ref (u 2), .ref (u 3), .ref (u 4), .int 0, .ref (u 5), .int 0, .int 0, .int 0, .int 0, .int 0, .int 0, .int (-1), .ref (u 6), .ref (u 7), .ref (u 8), .ref (u 9), .ref (u 10), .ref (u 11), .int 0, .int 0, .int 0, .ref (u 12), .ref (u 13), .ref (u 14), .int 0, .int 0, .ref (u 15), .int 0, .ref (u 16), .int 0, .ref (u 17), .int 0, .ref (u 18), .ref (u 19), .ref (u 20), .ref (u 21)])), (u 1, .inl (k 0, 168, .inl (fun _ => 0))), (u 3, .inl (k 3, 3, .inl (fun _ => 0))), (u 18, .inl (k 0, 4, .inl mf))] s.heap := hF.1
  have hK := hF.2.1
  have hl := lv_entry ([.ref (u 0), .int p0, .int p1]) (n := 3) (Nat.le_of_ble_eq_true rfl)
  rw [lg_entry_eq]
  generalize (lg_sl ([.ref (u 0), .int p0, .int p1]) ++ List.replicate (3 - (lg_sl ([.ref (u 0), .int p0, .int p1])).length) Slot.unset).toArray = ls at hl ⊢
  have hl : lv_has ls 3 [(0, .ref (u 0)), (1, .int p0), (2, .int p1)] := hl
  refine lv_aload_n hx hb dX10_roams_0 rfl (lv_at hl 0 rfl) ?_
  refine lv_iload_n hx hb dX10_roams_1 rfl (lv_at hl 1 rfl) ?_
  refine ro_V (As := [.int p0]) (rest := []) S (c_X10_isCart l D k u mf p0) lkX10_279 ok_X10_isCart ⟨rfl, rfl, Nat.le_of_ble_eq_true rfl, Nat.le_of_ble_eq_true rfl⟩ (mw_V (ci := 10) (q0 := 0) hF rfl rfl) rfl hl.1 rfl (Nat.le_of_ble_eq_true rfl) ⟨Nat.zero_le _, Nat.zero_le _⟩ dX10_roams_2 (fun r_1 er_1 => ?_)
  subst er_1
  refine lv_if_eq (tgt := 20) hx hb dX10_roams_5 (by decide) (fun c_2 => ?_) (fun c_2 => ?_)
  rotate_left
  · first | exact absurd c_2 (by decide) | exact absurd (by decide) c_2
  refine lv_bipush (v := (-2)) hx hb dX10_roams_20 (by decide) ?_
  exact W.iret (v := (-2)) hx hb hr (fun t ht hW => ⟨(-2), rfl, rfl, ht⟩) (fun _ h9 => by cases h9) dX10_roams_22
set_option maxHeartbeats 4000000 in
set_option maxRecDepth 100000 in
theorem c_X10_circle (l : Launch) (D : va_G) (k : Nat → ClassId) (u : Nat → Nat) (mf : Nat → Int32) (p0 : Int32)  : Met l yX10_circle (.code yX10_circle cX10_circle 4 (some .int) :: TB) (rmk 3) (va_Pc [.ref (u 0), .int p0] (fun U => MWH D k u mf U U.heap)) (vp_Si (fun r => r = (-2))) 0 0 (fun _ => False) := by
  refine Met.ofW (cc := cX10_circle) (maxL := 4) (ret := (some .int)) (by decide) rfl ?_
  intro p e s m args below meth c s₁ B hml hv
  obtain ⟨rfl, hF⟩ := hv
  have hx := B.exec
  have hb := B.bytes
  have hr := B.returns
  have hT : ∀ w ∈ TB, w.before ([.ref (u 0), .int p0] : List Value).toArray s = true := fun w h => atoms_spec (ws := .code yX10_circle cX10_circle 4 (some .int) :: TB) B.pre w (List.mem_cons_of_mem _ h)
  have hown : s.vm.findClass RX10 = some m.cls := findClass_of_methodNamed B.named
  have S : CallFix p m c cX10_circle 4 s _ TB RX10 := ⟨hx, hb, hml, hown, hT⟩
  have hP : va_P D vwCl [(u 0, .inr (10, [.int 0, .ref (u 1), .ref (u 2), .ref (u 3), .ref (u 4), .int 0, .ref (u 5), .int 0, .int 0, .int 0, .int 0, .int 0, .int 0, .int (-1), .ref (u 6), .ref (u 7), .ref (u 8), .ref (u 9), .ref (u 10), .ref (u 11), .int 0, .int 0, .int 0, .ref (u 12), .ref (u 13), .ref (u 14), .int 0, .int 0, .ref (u 15), .int 0, .ref (u 16), .int 0, .ref (u 17), .int 0, .ref (u 18), .ref (u 19), .ref (u 20), .ref (u 21)])), (u 1, .inl (k 0, 168, .inl (fun _ => 0))), (u 3, .inl (k 3, 3, .inl (fun _ => 0))), (u 18, .inl (k 0, 4, .inl mf))] s.heap := hF.1
  have hK := hF.2.1
  have hl := lv_entry ([.ref (u 0), .int p0]) (n := 4) (Nat.le_of_ble_eq_true rfl)
  rw [lg_entry_eq]
  generalize (lg_sl ([.ref (u 0), .int p0]) ++ List.replicate (4 - (lg_sl ([.ref (u 0), .int p0])).length) Slot.unset).toArray = ls at hl ⊢
  have hl : lv_has ls 4 [(0, .ref (u 0)), (1, .int p0)] := hl
  refine lv_aload_n hx hb dX10_circle_0 rfl (lv_at hl 0 rfl) ?_
  refine lv_iload_n hx hb dX10_circle_1 rfl (lv_at hl 1 rfl) ?_
  refine ro_V (As := [.int p0]) (rest := []) S (c_X10_isCart l D k u mf p0) lkX10_279 ok_X10_isCart ⟨rfl, rfl, Nat.le_of_ble_eq_true rfl, Nat.le_of_ble_eq_true rfl⟩ (mw_V (ci := 10) (q0 := 0) hF rfl rfl) rfl hl.1 rfl (Nat.le_of_ble_eq_true rfl) ⟨Nat.zero_le _, Nat.zero_le _⟩ dX10_circle_2 (fun r_1 er_1 => ?_)
  subst er_1
  refine lv_if_ne (tgt := 11) hx hb dX10_circle_5 (by decide) (fun c_2 => ?_) (fun c_2 => ?_)
  · first | exact absurd c_2 (by decide) | exact absurd (by decide) c_2
  refine lv_bipush (v := (-2)) hx hb dX10_circle_8 (by decide) ?_
  exact W.iret (v := (-2)) hx hb hr (fun t ht hW => ⟨(-2), rfl, rfl, ht⟩) (fun _ h9 => by cases h9) dX10_circle_10
set_option maxHeartbeats 4000000 in
set_option maxRecDepth 100000 in
theorem c_X10_haunts (l : Launch) (D : va_G) (k : Nat → ClassId) (u : Nat → Nat) (mf : Nat → Int32) (p0 : Int32)  : Met l yX10_haunts (.code yX10_haunts cX10_haunts 7 (some .int) :: TB) (rmk 3) (va_Pc [.ref (u 0), .int p0] (fun U => MWH D k u mf U U.heap)) (vp_Si (fun r => r = (-2))) 0 0 (fun _ => False) := by
  refine Met.ofW (cc := cX10_haunts) (maxL := 7) (ret := (some .int)) (by decide) rfl ?_
  intro p e s m args below meth c s₁ B hml hv
  obtain ⟨rfl, hF⟩ := hv
  have hx := B.exec
  have hb := B.bytes
  have hr := B.returns
  have hT : ∀ w ∈ TB, w.before ([.ref (u 0), .int p0] : List Value).toArray s = true := fun w h => atoms_spec (ws := .code yX10_haunts cX10_haunts 7 (some .int) :: TB) B.pre w (List.mem_cons_of_mem _ h)
  have hown : s.vm.findClass RX10 = some m.cls := findClass_of_methodNamed B.named
  have S : CallFix p m c cX10_haunts 7 s _ TB RX10 := ⟨hx, hb, hml, hown, hT⟩
  have hP : va_P D vwCl [(u 0, .inr (10, [.int 0, .ref (u 1), .ref (u 2), .ref (u 3), .ref (u 4), .int 0, .ref (u 5), .int 0, .int 0, .int 0, .int 0, .int 0, .int 0, .int (-1), .ref (u 6), .ref (u 7), .ref (u 8), .ref (u 9), .ref (u 10), .ref (u 11), .int 0, .int 0, .int 0, .ref (u 12), .ref (u 13), .ref (u 14), .int 0, .int 0, .ref (u 15), .int 0, .ref (u 16), .int 0, .ref (u 17), .int 0, .ref (u 18), .ref (u 19), .ref (u 20), .ref (u 21)])), (u 1, .inl (k 0, 168, .inl (fun _ => 0))), (u 3, .inl (k 3, 3, .inl (fun _ => 0))), (u 18, .inl (k 0, 4, .inl mf))] s.heap := hF.1
  have hK := hF.2.1
  have hl := lv_entry ([.ref (u 0), .int p0]) (n := 7) (Nat.le_of_ble_eq_true rfl)
  rw [lg_entry_eq]
  generalize (lg_sl ([.ref (u 0), .int p0]) ++ List.replicate (7 - (lg_sl ([.ref (u 0), .int p0])).length) Slot.unset).toArray = ls at hl ⊢
  have hl : lv_has ls 7 [(0, .ref (u 0)), (1, .int p0)] := hl
  refine lv_aload_n hx hb dX10_haunts_0 rfl (lv_at hl 0 rfl) ?_
  refine lv_iload_n hx hb dX10_haunts_1 rfl (lv_at hl 1 rfl) ?_
  refine ro_V (As := [.int p0]) (rest := []) S (c_X10_isCart l D k u mf p0) lkX10_279 ok_X10_isCart ⟨rfl, rfl, Nat.le_of_ble_eq_true rfl, Nat.le_of_ble_eq_true rfl⟩ (mw_V (ci := 10) (q0 := 0) hF rfl rfl) rfl hl.1 rfl (Nat.le_of_ble_eq_true rfl) ⟨Nat.zero_le _, Nat.zero_le _⟩ dX10_haunts_2 (fun r_1 er_1 => ?_)
  subst er_1
  refine lv_if_ne (tgt := 11) hx hb dX10_haunts_5 (by decide) (fun c_2 => ?_) (fun c_2 => ?_)
  · first | exact absurd c_2 (by decide) | exact absurd (by decide) c_2
  refine lv_bipush (v := (-2)) hx hb dX10_haunts_8 (by decide) ?_
  exact W.iret (v := (-2)) hx hb hr (fun t ht hW => ⟨(-2), rfl, rfl, ht⟩) (fun _ h9 => by cases h9) dX10_haunts_10
set_option maxHeartbeats 4000000 in
set_option maxRecDepth 100000 in
theorem c_X10_meet (l : Launch) (D : va_G) (k : Nat → ClassId) (u : Nat → Nat) (mf : Nat → Int32) (p0 : Int32) (p1 : Int32)  : Met l yX10_meet (.code yX10_meet cX10_meet 3 (some .int) :: TB) (rmk 3) (va_Pc [.ref (u 0), .int p0, .int p1] (fun U => MWH D k u mf U U.heap)) (vp_Si (fun r => r = (-2))) 0 0 (fun _ => False) := by
  refine Met.ofW (cc := cX10_meet) (maxL := 3) (ret := (some .int)) (by decide) rfl ?_
  intro p e s m args below meth c s₁ B hml hv
  obtain ⟨rfl, hF⟩ := hv
  have hx := B.exec
  have hb := B.bytes
  have hr := B.returns
  have hT : ∀ w ∈ TB, w.before ([.ref (u 0), .int p0, .int p1] : List Value).toArray s = true := fun w h => atoms_spec (ws := .code yX10_meet cX10_meet 3 (some .int) :: TB) B.pre w (List.mem_cons_of_mem _ h)
  have hown : s.vm.findClass RX10 = some m.cls := findClass_of_methodNamed B.named
  have S : CallFix p m c cX10_meet 3 s _ TB RX10 := ⟨hx, hb, hml, hown, hT⟩
  have hP : va_P D vwCl [(u 0, .inr (10, [.int 0, .ref (u 1), .ref (u 2), .ref (u 3), .ref (u 4), .int 0, .ref (u 5), .int 0, .int 0, .int 0, .int 0, .int 0, .int 0, .int (-1), .ref (u 6), .ref (u 7), .ref (u 8), .ref (u 9), .ref (u 10), .ref (u 11), .int 0, .int 0, .int 0, .ref (u 12), .ref (u 13), .ref (u 14), .int 0, .int 0, .ref (u 15), .int 0, .ref (u 16), .int 0, .ref (u 17), .int 0, .ref (u 18), .ref (u 19), .ref (u 20), .ref (u 21)])), (u 1, .inl (k 0, 168, .inl (fun _ => 0))), (u 3, .inl (k 3, 3, .inl (fun _ => 0))), (u 18, .inl (k 0, 4, .inl mf))] s.heap := hF.1
  have hK := hF.2.1
  have hl := lv_entry ([.ref (u 0), .int p0, .int p1]) (n := 3) (Nat.le_of_ble_eq_true rfl)
  rw [lg_entry_eq]
  generalize (lg_sl ([.ref (u 0), .int p0, .int p1]) ++ List.replicate (3 - (lg_sl ([.ref (u 0), .int p0, .int p1])).length) Slot.unset).toArray = ls at hl ⊢
  have hl : lv_has ls 3 [(0, .ref (u 0)), (1, .int p0), (2, .int p1)] := hl
  refine lv_aload_n hx hb dX10_meet_0 rfl (lv_at hl 0 rfl) ?_
  refine lv_iload_n hx hb dX10_meet_1 rfl (lv_at hl 1 rfl) ?_
  refine ro_V (As := [.int p0]) (rest := []) S (c_X10_isCart l D k u mf p0) lkX10_279 ok_X10_isCart ⟨rfl, rfl, Nat.le_of_ble_eq_true rfl, Nat.le_of_ble_eq_true rfl⟩ (mw_V (ci := 10) (q0 := 0) hF rfl rfl) rfl hl.1 rfl (Nat.le_of_ble_eq_true rfl) ⟨Nat.zero_le _, Nat.zero_le _⟩ dX10_meet_2 (fun r_1 er_1 => ?_)
  subst er_1
  refine lv_if_eq (tgt := 26) hx hb dX10_meet_5 (by decide) (fun c_2 => ?_) (fun c_2 => ?_)
  rotate_left
  · first | exact absurd c_2 (by decide) | exact absurd (by decide) c_2
  refine lv_bipush (v := (-2)) hx hb dX10_meet_26 (by decide) ?_
  exact W.iret (v := (-2)) hx hb hr (fun t ht hW => ⟨(-2), rfl, rfl, ht⟩) (fun _ h9 => by cases h9) dX10_meet_28
set_option maxHeartbeats 4000000 in
set_option maxRecDepth 100000 in
theorem c_X10_met (l : Launch) (D : va_G) (k : Nat → ClassId) (u : Nat → Nat) (mf : Nat → Int32) (p0 : Int32) (p1 : Int32)  : Met l yX10_met (.code yX10_met cX10_met 4 (some .int) :: TB) (rmk 3) (va_Pc [.ref (u 0), .int p0, .int p1] (fun U => MWH D k u mf U U.heap)) (vp_Si (fun r => r = (-2))) 0 0 (fun _ => False) := by
  refine Met.ofW (cc := cX10_met) (maxL := 4) (ret := (some .int)) (by decide) rfl ?_
  intro p e s m args below meth c s₁ B hml hv
  obtain ⟨rfl, hF⟩ := hv
  have hx := B.exec
  have hb := B.bytes
  have hr := B.returns
  have hT : ∀ w ∈ TB, w.before ([.ref (u 0), .int p0, .int p1] : List Value).toArray s = true := fun w h => atoms_spec (ws := .code yX10_met cX10_met 4 (some .int) :: TB) B.pre w (List.mem_cons_of_mem _ h)
  have hown : s.vm.findClass RX10 = some m.cls := findClass_of_methodNamed B.named
  have S : CallFix p m c cX10_met 4 s _ TB RX10 := ⟨hx, hb, hml, hown, hT⟩
  have hP : va_P D vwCl [(u 0, .inr (10, [.int 0, .ref (u 1), .ref (u 2), .ref (u 3), .ref (u 4), .int 0, .ref (u 5), .int 0, .int 0, .int 0, .int 0, .int 0, .int 0, .int (-1), .ref (u 6), .ref (u 7), .ref (u 8), .ref (u 9), .ref (u 10), .ref (u 11), .int 0, .int 0, .int 0, .ref (u 12), .ref (u 13), .ref (u 14), .int 0, .int 0, .ref (u 15), .int 0, .ref (u 16), .int 0, .ref (u 17), .int 0, .ref (u 18), .ref (u 19), .ref (u 20), .ref (u 21)])), (u 1, .inl (k 0, 168, .inl (fun _ => 0))), (u 3, .inl (k 3, 3, .inl (fun _ => 0))), (u 18, .inl (k 0, 4, .inl mf))] s.heap := hF.1
  have hK := hF.2.1
  have hl := lv_entry ([.ref (u 0), .int p0, .int p1]) (n := 4) (Nat.le_of_ble_eq_true rfl)
  rw [lg_entry_eq]
  generalize (lg_sl ([.ref (u 0), .int p0, .int p1]) ++ List.replicate (4 - (lg_sl ([.ref (u 0), .int p0, .int p1])).length) Slot.unset).toArray = ls at hl ⊢
  have hl : lv_has ls 4 [(0, .ref (u 0)), (1, .int p0), (2, .int p1)] := hl
  refine lv_aload_n hx hb dX10_met_0 rfl (lv_at hl 0 rfl) ?_
  refine lv_iload_n hx hb dX10_met_1 rfl (lv_at hl 1 rfl) ?_
  refine ro_V (As := [.int p0]) (rest := []) S (c_X10_isCart l D k u mf p0) lkX10_279 ok_X10_isCart ⟨rfl, rfl, Nat.le_of_ble_eq_true rfl, Nat.le_of_ble_eq_true rfl⟩ (mw_V (ci := 10) (q0 := 0) hF rfl rfl) rfl hl.1 rfl (Nat.le_of_ble_eq_true rfl) ⟨Nat.zero_le _, Nat.zero_le _⟩ dX10_met_2 (fun r_1 er_1 => ?_)
  subst er_1
  refine lv_if_eq (tgt := 17) hx hb dX10_met_5 (by decide) (fun c_2 => ?_) (fun c_2 => ?_)
  rotate_left
  · first | exact absurd c_2 (by decide) | exact absurd (by decide) c_2
  refine lv_bipush (v := (-2)) hx hb dX10_met_17 (by decide) ?_
  exact W.iret (v := (-2)) hx hb hr (fun t ht hW => ⟨(-2), rfl, rfl, ht⟩) (fun _ h9 => by cases h9) dX10_met_19
set_option maxHeartbeats 4000000 in
set_option maxRecDepth 100000 in
theorem c_X10_fits (l : Launch) (D : va_G) (k : Nat → ClassId) (u : Nat → Nat) (mf : Nat → Int32) (p0 : Int32)  : Met l yX10_fits (.code yX10_fits cX10_fits 3 (some .int) :: TB) (rmk 4) (va_Pc [.ref (u 0), .int p0] (fun U => MWH D k u mf U U.heap)) (vp_Si (fun r => r = (-2))) 0 0 (fun _ => False) := by
  refine Met.ofW (cc := cX10_fits) (maxL := 3) (ret := (some .int)) (by decide) rfl ?_
  intro p e s m args below meth c s₁ B hml hv
  obtain ⟨rfl, hF⟩ := hv
  have hx := B.exec
  have hb := B.bytes
  have hr := B.returns
  have hT : ∀ w ∈ TB, w.before ([.ref (u 0), .int p0] : List Value).toArray s = true := fun w h => atoms_spec (ws := .code yX10_fits cX10_fits 3 (some .int) :: TB) B.pre w (List.mem_cons_of_mem _ h)
  have hown : s.vm.findClass RX10 = some m.cls := findClass_of_methodNamed B.named
  have S : CallFix p m c cX10_fits 3 s _ TB RX10 := ⟨hx, hb, hml, hown, hT⟩
  have hP : va_P D vwCl [(u 0, .inr (10, [.int 0, .ref (u 1), .ref (u 2), .ref (u 3), .ref (u 4), .int 0, .ref (u 5), .int 0, .int 0, .int 0, .int 0, .int 0, .int 0, .int (-1), .ref (u 6), .ref (u 7), .ref (u 8), .ref (u 9), .ref (u 10), .ref (u 11), .int 0, .int 0, .int 0, .ref (u 12), .ref (u 13), .ref (u 14), .int 0, .int 0, .ref (u 15), .int 0, .ref (u 16), .int 0, .ref (u 17), .int 0, .ref (u 18), .ref (u 19), .ref (u 20), .ref (u 21)])), (u 1, .inl (k 0, 168, .inl (fun _ => 0))), (u 3, .inl (k 3, 3, .inl (fun _ => 0))), (u 18, .inl (k 0, 4, .inl mf))] s.heap := hF.1
  have hK := hF.2.1
  have hl := lv_entry ([.ref (u 0), .int p0]) (n := 3) (Nat.le_of_ble_eq_true rfl)
  rw [lg_entry_eq]
  generalize (lg_sl ([.ref (u 0), .int p0]) ++ List.replicate (3 - (lg_sl ([.ref (u 0), .int p0])).length) Slot.unset).toArray = ls at hl ⊢
  have hl : lv_has ls 3 [(0, .ref (u 0)), (1, .int p0)] := hl
  refine lv_aload_n hx hb dX10_fits_0 rfl (lv_at hl 0 rfl) ?_
  refine lv_iload_n hx hb dX10_fits_1 rfl (lv_at hl 1 rfl) ?_
  refine ro_V (As := [.int p0]) (rest := []) S (c_X10_asksSeen l D k u mf p0) lkX10_361 ok_X10_asksSeen ⟨rfl, rfl, Nat.le_of_ble_eq_true rfl, Nat.le_of_ble_eq_true rfl⟩ (mw_V (ci := 10) (q0 := 0) hF rfl rfl) rfl hl.1 rfl (Nat.le_of_ble_eq_true rfl) ⟨Nat.zero_le _, Nat.zero_le _⟩ dX10_fits_2 (fun r_1 er_1 => ?_)
  subst er_1
  refine lv_istore_n (lv' := [(2, .int (-2)), (0, .ref (u 0)), (1, .int p0)]) hx hb dX10_fits_5 rfl hl (by decide) rfl (fun ls hl => ?_)
  refine lv_iload_n hx hb dX10_fits_6 rfl (lv_at hl 0 rfl) ?_
  refine lv_if_ge (tgt := 14) hx hb dX10_fits_7 (by decide) (fun c_2 => ?_) (fun c_2 => ?_)
  · first | exact absurd c_2 (by decide) | exact absurd (by decide) c_2
  refine lv_iload_n hx hb dX10_fits_10 rfl (lv_at hl 0 rfl) ?_
  refine lv_goto (tgt := 19) hx hb dX10_fits_11 (by decide) ?_
  exact W.iret (v := (-2)) hx hb hr (fun t ht hW => ⟨(-2), rfl, rfl, ht⟩) (fun _ h9 => by cases h9) dX10_fits_19
set_option maxHeartbeats 4000000 in
set_option maxRecDepth 100000 in
theorem c_X10_ask (l : Launch) (D : va_G) (k : Nat → ClassId) (u : Nat → Nat) (mf : Nat → Int32) (p0 : Int32)  : Met l yX10_ask (.code yX10_ask cX10_ask 3 (some .int) :: TB) (rmk 4) (va_Pc [.ref (u 0), .int p0] (fun U => MWH D k u mf U U.heap)) (vp_Si (fun r => r = (-2))) 0 0 (fun _ => False) := by
  refine Met.ofW (cc := cX10_ask) (maxL := 3) (ret := (some .int)) (by decide) rfl ?_
  intro p e s m args below meth c s₁ B hml hv
  obtain ⟨rfl, hF⟩ := hv
  have hx := B.exec
  have hb := B.bytes
  have hr := B.returns
  have hT : ∀ w ∈ TB, w.before ([.ref (u 0), .int p0] : List Value).toArray s = true := fun w h => atoms_spec (ws := .code yX10_ask cX10_ask 3 (some .int) :: TB) B.pre w (List.mem_cons_of_mem _ h)
  have hown : s.vm.findClass RX10 = some m.cls := findClass_of_methodNamed B.named
  have S : CallFix p m c cX10_ask 3 s _ TB RX10 := ⟨hx, hb, hml, hown, hT⟩
  have hP : va_P D vwCl [(u 0, .inr (10, [.int 0, .ref (u 1), .ref (u 2), .ref (u 3), .ref (u 4), .int 0, .ref (u 5), .int 0, .int 0, .int 0, .int 0, .int 0, .int 0, .int (-1), .ref (u 6), .ref (u 7), .ref (u 8), .ref (u 9), .ref (u 10), .ref (u 11), .int 0, .int 0, .int 0, .ref (u 12), .ref (u 13), .ref (u 14), .int 0, .int 0, .ref (u 15), .int 0, .ref (u 16), .int 0, .ref (u 17), .int 0, .ref (u 18), .ref (u 19), .ref (u 20), .ref (u 21)])), (u 1, .inl (k 0, 168, .inl (fun _ => 0))), (u 3, .inl (k 3, 3, .inl (fun _ => 0))), (u 18, .inl (k 0, 4, .inl mf))] s.heap := hF.1
  have hK := hF.2.1
  have hl := lv_entry ([.ref (u 0), .int p0]) (n := 3) (Nat.le_of_ble_eq_true rfl)
  rw [lg_entry_eq]
  generalize (lg_sl ([.ref (u 0), .int p0]) ++ List.replicate (3 - (lg_sl ([.ref (u 0), .int p0])).length) Slot.unset).toArray = ls at hl ⊢
  have hl : lv_has ls 3 [(0, .ref (u 0)), (1, .int p0)] := hl
  refine lv_aload_n hx hb dX10_ask_0 rfl (lv_at hl 0 rfl) ?_
  refine lv_iload_n hx hb dX10_ask_1 rfl (lv_at hl 1 rfl) ?_
  refine ro_V (As := [.int p0]) (rest := []) S (c_X10_asksSeen l D k u mf p0) lkX10_361 ok_X10_asksSeen ⟨rfl, rfl, Nat.le_of_ble_eq_true rfl, Nat.le_of_ble_eq_true rfl⟩ (mw_V (ci := 10) (q0 := 0) hF rfl rfl) rfl hl.1 rfl (Nat.le_of_ble_eq_true rfl) ⟨Nat.zero_le _, Nat.zero_le _⟩ dX10_ask_2 (fun r_1 er_1 => ?_)
  subst er_1
  refine lv_istore_n (lv' := [(2, .int (-2)), (0, .ref (u 0)), (1, .int p0)]) hx hb dX10_ask_5 rfl hl (by decide) rfl (fun ls hl => ?_)
  refine lv_iload_n hx hb dX10_ask_6 rfl (lv_at hl 0 rfl) ?_
  refine lv_if_ge (tgt := 14) hx hb dX10_ask_7 (by decide) (fun c_2 => ?_) (fun c_2 => ?_)
  · first | exact absurd c_2 (by decide) | exact absurd (by decide) c_2
  refine lv_iload_n hx hb dX10_ask_10 rfl (lv_at hl 0 rfl) ?_
  refine lv_goto (tgt := 19) hx hb dX10_ask_11 (by decide) ?_
  exact W.iret (v := (-2)) hx hb hr (fun t ht hW => ⟨(-2), rfl, rfl, ht⟩) (fun _ h9 => by cases h9) dX10_ask_19
set_option maxHeartbeats 4000000 in
set_option maxRecDepth 100000 in
theorem c_X10_leaves (l : Launch) (D : va_G) (k : Nat → ClassId) (u : Nat → Nat) (mf : Nat → Int32) (p0 : Int32)  : Met l yX10_leaves (.code yX10_leaves cX10_leaves 3 (some .int) :: TB) (rmk 4) (va_Pc [.ref (u 0), .int p0] (fun U => MWH D k u mf U U.heap)) (vp_Si (fun r => r = (-2))) 0 0 (fun _ => False) := by
  refine Met.ofW (cc := cX10_leaves) (maxL := 3) (ret := (some .int)) (by decide) rfl ?_
  intro p e s m args below meth c s₁ B hml hv
  obtain ⟨rfl, hF⟩ := hv
  have hx := B.exec
  have hb := B.bytes
  have hr := B.returns
  have hT : ∀ w ∈ TB, w.before ([.ref (u 0), .int p0] : List Value).toArray s = true := fun w h => atoms_spec (ws := .code yX10_leaves cX10_leaves 3 (some .int) :: TB) B.pre w (List.mem_cons_of_mem _ h)
  have hown : s.vm.findClass RX10 = some m.cls := findClass_of_methodNamed B.named
  have S : CallFix p m c cX10_leaves 3 s _ TB RX10 := ⟨hx, hb, hml, hown, hT⟩
  have hP : va_P D vwCl [(u 0, .inr (10, [.int 0, .ref (u 1), .ref (u 2), .ref (u 3), .ref (u 4), .int 0, .ref (u 5), .int 0, .int 0, .int 0, .int 0, .int 0, .int 0, .int (-1), .ref (u 6), .ref (u 7), .ref (u 8), .ref (u 9), .ref (u 10), .ref (u 11), .int 0, .int 0, .int 0, .ref (u 12), .ref (u 13), .ref (u 14), .int 0, .int 0, .ref (u 15), .int 0, .ref (u 16), .int 0, .ref (u 17), .int 0, .ref (u 18), .ref (u 19), .ref (u 20), .ref (u 21)])), (u 1, .inl (k 0, 168, .inl (fun _ => 0))), (u 3, .inl (k 3, 3, .inl (fun _ => 0))), (u 18, .inl (k 0, 4, .inl mf))] s.heap := hF.1
  have hK := hF.2.1
  have hl := lv_entry ([.ref (u 0), .int p0]) (n := 3) (Nat.le_of_ble_eq_true rfl)
  rw [lg_entry_eq]
  generalize (lg_sl ([.ref (u 0), .int p0]) ++ List.replicate (3 - (lg_sl ([.ref (u 0), .int p0])).length) Slot.unset).toArray = ls at hl ⊢
  have hl : lv_has ls 3 [(0, .ref (u 0)), (1, .int p0)] := hl
  refine lv_aload_n hx hb dX10_leaves_0 rfl (lv_at hl 0 rfl) ?_
  refine lv_iload_n hx hb dX10_leaves_1 rfl (lv_at hl 1 rfl) ?_
  refine ro_V (As := [.int p0]) (rest := []) S (c_X10_asksSeen l D k u mf p0) lkX10_361 ok_X10_asksSeen ⟨rfl, rfl, Nat.le_of_ble_eq_true rfl, Nat.le_of_ble_eq_true rfl⟩ (mw_V (ci := 10) (q0 := 0) hF rfl rfl) rfl hl.1 rfl (Nat.le_of_ble_eq_true rfl) ⟨Nat.zero_le _, Nat.zero_le _⟩ dX10_leaves_2 (fun r_1 er_1 => ?_)
  subst er_1
  refine lv_istore_n (lv' := [(2, .int (-2)), (0, .ref (u 0)), (1, .int p0)]) hx hb dX10_leaves_5 rfl hl (by decide) rfl (fun ls hl => ?_)
  refine lv_iload_n hx hb dX10_leaves_6 rfl (lv_at hl 0 rfl) ?_
  refine lv_if_ge (tgt := 12) hx hb dX10_leaves_7 (by decide) (fun c_2 => ?_) (fun c_2 => ?_)
  · first | exact absurd c_2 (by decide) | exact absurd (by decide) c_2
  refine lv_iload_n hx hb dX10_leaves_10 rfl (lv_at hl 0 rfl) ?_
  exact W.iret (v := (-2)) hx hb hr (fun t ht hW => ⟨(-2), rfl, rfl, ht⟩) (fun _ h9 => by cases h9) dX10_leaves_11
set_option maxHeartbeats 4000000 in
set_option maxRecDepth 100000 in
theorem c_X10_votes (l : Launch) (D : va_G) (k : Nat → ClassId) (u : Nat → Nat) (mf : Nat → Int32) (p0 : Int32) (p1 : Int32)  : Met l yX10_votes (.code yX10_votes cX10_votes 5 (some .int) :: TB) (rmk 3) (va_Pc [.ref (u 0), .int p0, .int p1] (fun U => MWH D k u mf U U.heap)) (vp_Si (fun r => r = (-2))) 0 0 (fun _ => False) := by
  refine Met.ofW (cc := cX10_votes) (maxL := 5) (ret := (some .int)) (by decide) rfl ?_
  intro p e s m args below meth c s₁ B hml hv
  obtain ⟨rfl, hF⟩ := hv
  have hx := B.exec
  have hb := B.bytes
  have hr := B.returns
  have hT : ∀ w ∈ TB, w.before ([.ref (u 0), .int p0, .int p1] : List Value).toArray s = true := fun w h => atoms_spec (ws := .code yX10_votes cX10_votes 5 (some .int) :: TB) B.pre w (List.mem_cons_of_mem _ h)
  have hown : s.vm.findClass RX10 = some m.cls := findClass_of_methodNamed B.named
  have S : CallFix p m c cX10_votes 5 s _ TB RX10 := ⟨hx, hb, hml, hown, hT⟩
  have hP : va_P D vwCl [(u 0, .inr (10, [.int 0, .ref (u 1), .ref (u 2), .ref (u 3), .ref (u 4), .int 0, .ref (u 5), .int 0, .int 0, .int 0, .int 0, .int 0, .int 0, .int (-1), .ref (u 6), .ref (u 7), .ref (u 8), .ref (u 9), .ref (u 10), .ref (u 11), .int 0, .int 0, .int 0, .ref (u 12), .ref (u 13), .ref (u 14), .int 0, .int 0, .ref (u 15), .int 0, .ref (u 16), .int 0, .ref (u 17), .int 0, .ref (u 18), .ref (u 19), .ref (u 20), .ref (u 21)])), (u 1, .inl (k 0, 168, .inl (fun _ => 0))), (u 3, .inl (k 3, 3, .inl (fun _ => 0))), (u 18, .inl (k 0, 4, .inl mf))] s.heap := hF.1
  have hK := hF.2.1
  have hl := lv_entry ([.ref (u 0), .int p0, .int p1]) (n := 5) (Nat.le_of_ble_eq_true rfl)
  rw [lg_entry_eq]
  generalize (lg_sl ([.ref (u 0), .int p0, .int p1]) ++ List.replicate (5 - (lg_sl ([.ref (u 0), .int p0, .int p1])).length) Slot.unset).toArray = ls at hl ⊢
  have hl : lv_has ls 5 [(0, .ref (u 0)), (1, .int p0), (2, .int p1)] := hl
  refine lv_aload_n hx hb dX10_votes_0 rfl (lv_at hl 0 rfl) ?_
  refine lv_iload_n hx hb dX10_votes_1 rfl (lv_at hl 1 rfl) ?_
  refine lv_i2l (v := p0.toInt64) hx hb dX10_votes_2 rfl ?_
  refine ro_V (As := [.long p0.toInt64]) (rest := []) S (c_X10_isPlace l D k u mf p0.toInt64) lkX10_282 ok_X10_isPlace ⟨rfl, rfl, Nat.le_of_ble_eq_true rfl, Nat.le_of_ble_eq_true rfl⟩ (mw_V (ci := 10) (q0 := 0) hF rfl rfl) rfl hl.1 rfl (Nat.le_of_ble_eq_true rfl) ⟨Nat.zero_le _, Nat.zero_le _⟩ dX10_votes_3 (fun r_1 er_1 => ?_)
  subst er_1
  refine lv_if_eq (tgt := 27) hx hb dX10_votes_6 (by decide) (fun c_2 => ?_) (fun c_2 => ?_)
  rotate_left
  · first | exact absurd c_2 (by decide) | exact absurd (by decide) c_2
  refine lv_bipush (v := (-2)) hx hb dX10_votes_27 (by decide) ?_
  exact W.iret (v := (-2)) hx hb hr (fun t ht hW => ⟨(-2), rfl, rfl, ht⟩) (fun _ h9 => by cases h9) dX10_votes_29
set_option maxHeartbeats 4000000 in
set_option maxRecDepth 100000 in
theorem c_X10_loved (l : Launch) (D : va_G) (k : Nat → ClassId) (u : Nat → Nat) (mf : Nat → Int32) (p0 : Int32)  : Met l yX10_loved (.code yX10_loved cX10_loved 2 (some .int) :: TB) (rmk 3) (va_Pc [.ref (u 0), .int p0] (fun U => MWH D k u mf U U.heap)) (vp_Si (fun r => r = (-2))) 0 0 (fun _ => False) := by
  refine Met.ofW (cc := cX10_loved) (maxL := 2) (ret := (some .int)) (by decide) rfl ?_
  intro p e s m args below meth c s₁ B hml hv
  obtain ⟨rfl, hF⟩ := hv
  have hx := B.exec
  have hb := B.bytes
  have hr := B.returns
  have hT : ∀ w ∈ TB, w.before ([.ref (u 0), .int p0] : List Value).toArray s = true := fun w h => atoms_spec (ws := .code yX10_loved cX10_loved 2 (some .int) :: TB) B.pre w (List.mem_cons_of_mem _ h)
  have hown : s.vm.findClass RX10 = some m.cls := findClass_of_methodNamed B.named
  have S : CallFix p m c cX10_loved 2 s _ TB RX10 := ⟨hx, hb, hml, hown, hT⟩
  have hP : va_P D vwCl [(u 0, .inr (10, [.int 0, .ref (u 1), .ref (u 2), .ref (u 3), .ref (u 4), .int 0, .ref (u 5), .int 0, .int 0, .int 0, .int 0, .int 0, .int 0, .int (-1), .ref (u 6), .ref (u 7), .ref (u 8), .ref (u 9), .ref (u 10), .ref (u 11), .int 0, .int 0, .int 0, .ref (u 12), .ref (u 13), .ref (u 14), .int 0, .int 0, .ref (u 15), .int 0, .ref (u 16), .int 0, .ref (u 17), .int 0, .ref (u 18), .ref (u 19), .ref (u 20), .ref (u 21)])), (u 1, .inl (k 0, 168, .inl (fun _ => 0))), (u 3, .inl (k 3, 3, .inl (fun _ => 0))), (u 18, .inl (k 0, 4, .inl mf))] s.heap := hF.1
  have hK := hF.2.1
  have hl := lv_entry ([.ref (u 0), .int p0]) (n := 2) (Nat.le_of_ble_eq_true rfl)
  rw [lg_entry_eq]
  generalize (lg_sl ([.ref (u 0), .int p0]) ++ List.replicate (2 - (lg_sl ([.ref (u 0), .int p0])).length) Slot.unset).toArray = ls at hl ⊢
  have hl : lv_has ls 2 [(0, .ref (u 0)), (1, .int p0)] := hl
  refine lv_aload_n hx hb dX10_loved_0 rfl (lv_at hl 0 rfl) ?_
  refine lv_iload_n hx hb dX10_loved_1 rfl (lv_at hl 1 rfl) ?_
  refine lv_i2l (v := p0.toInt64) hx hb dX10_loved_2 rfl ?_
  refine ro_V (As := [.long p0.toInt64]) (rest := []) S (c_X10_isRoad l D k u mf p0.toInt64) lkX10_265 ok_X10_isRoad ⟨rfl, rfl, Nat.le_of_ble_eq_true rfl, Nat.le_of_ble_eq_true rfl⟩ (mw_V (ci := 10) (q0 := 0) hF rfl rfl) rfl hl.1 rfl (Nat.le_of_ble_eq_true rfl) ⟨Nat.zero_le _, Nat.zero_le _⟩ dX10_loved_3 (fun r_1 er_1 => ?_)
  subst er_1
  refine lv_if_ne (tgt := 12) hx hb dX10_loved_6 (by decide) (fun c_2 => ?_) (fun c_2 => ?_)
  · first | exact absurd c_2 (by decide) | exact absurd (by decide) c_2
  refine lv_bipush (v := (-2)) hx hb dX10_loved_9 (by decide) ?_
  exact W.iret (v := (-2)) hx hb hr (fun t ht hW => ⟨(-2), rfl, rfl, ht⟩) (fun _ h9 => by cases h9) dX10_loved_11
set_option maxHeartbeats 4000000 in
set_option maxRecDepth 100000 in
theorem c_X10_dearest (l : Launch) (D : va_G) (k : Nat → ClassId) (u : Nat → Nat) (mf : Nat → Int32)   : Met l yX10_dearest (.code yX10_dearest cX10_dearest 3 (some .int) :: TB) (rmk 2) (va_Pc [.ref (u 0)] (fun U => MWH D k u mf U U.heap)) (vp_Si (fun r => r = (-2))) 0 0 (fun _ => False) := by
  refine Met.ofW (cc := cX10_dearest) (maxL := 3) (ret := (some .int)) (by decide) rfl ?_
  intro p e s m args below meth c s₁ B hml hv
  obtain ⟨rfl, hF⟩ := hv
  have hx := B.exec
  have hb := B.bytes
  have hr := B.returns
  have hT : ∀ w ∈ TB, w.before ([.ref (u 0)] : List Value).toArray s = true := fun w h => atoms_spec (ws := .code yX10_dearest cX10_dearest 3 (some .int) :: TB) B.pre w (List.mem_cons_of_mem _ h)
  have hown : s.vm.findClass RX10 = some m.cls := findClass_of_methodNamed B.named
  have S : CallFix p m c cX10_dearest 3 s _ TB RX10 := ⟨hx, hb, hml, hown, hT⟩
  have hP : va_P D vwCl [(u 0, .inr (10, [.int 0, .ref (u 1), .ref (u 2), .ref (u 3), .ref (u 4), .int 0, .ref (u 5), .int 0, .int 0, .int 0, .int 0, .int 0, .int 0, .int (-1), .ref (u 6), .ref (u 7), .ref (u 8), .ref (u 9), .ref (u 10), .ref (u 11), .int 0, .int 0, .int 0, .ref (u 12), .ref (u 13), .ref (u 14), .int 0, .int 0, .ref (u 15), .int 0, .ref (u 16), .int 0, .ref (u 17), .int 0, .ref (u 18), .ref (u 19), .ref (u 20), .ref (u 21)])), (u 1, .inl (k 0, 168, .inl (fun _ => 0))), (u 3, .inl (k 3, 3, .inl (fun _ => 0))), (u 18, .inl (k 0, 4, .inl mf))] s.heap := hF.1
  have hK := hF.2.1
  have hl := lv_entry ([.ref (u 0)]) (n := 3) (Nat.le_of_ble_eq_true rfl)
  rw [lg_entry_eq]
  generalize (lg_sl ([.ref (u 0)]) ++ List.replicate (3 - (lg_sl ([.ref (u 0)])).length) Slot.unset).toArray = ls at hl ⊢
  have hl : lv_has ls 3 [(0, .ref (u 0))] := hl
  refine lv_aload_n hx hb dX10_dearest_0 rfl (lv_at hl 0 rfl) ?_
  refine ro_V (As := []) (rest := []) S (c_X10_isLand l D k u mf ) lkX10_297 ok_X10_isLand ⟨rfl, rfl, Nat.le_of_ble_eq_true rfl, Nat.le_of_ble_eq_true rfl⟩ (mw_V (ci := 10) (q0 := 0) hF rfl rfl) rfl hl.1 rfl (Nat.le_of_ble_eq_true rfl) ⟨Nat.zero_le _, Nat.zero_le _⟩ dX10_dearest_1 (fun r_1 er_1 => ?_)
  subst er_1
  refine lv_if_ne (tgt := 10) hx hb dX10_dearest_4 (by decide) (fun c_2 => ?_) (fun c_2 => ?_)
  · first | exact absurd c_2 (by decide) | exact absurd (by decide) c_2
  refine lv_bipush (v := (-2)) hx hb dX10_dearest_7 (by decide) ?_
  exact W.iret (v := (-2)) hx hb hr (fun t ht hW => ⟨(-2), rfl, rfl, ht⟩) (fun _ h9 => by cases h9) dX10_dearest_9
set_option maxHeartbeats 4000000 in
set_option maxRecDepth 100000 in
theorem c_X10_agree (l : Launch) (D : va_G) (k : Nat → ClassId) (u : Nat → Nat) (mf : Nat → Int32) (p0 : Int32) (p1 : Int32)  : Met l yX10_agree (.code yX10_agree cX10_agree 3 (some .int) :: TB) (rmk 3) (va_Pc [.ref (u 0), .int p0, .int p1] (fun U => MWH D k u mf U U.heap)) (vp_Si (fun r => r = (-2))) 0 0 (fun _ => False) := by
  refine Met.ofW (cc := cX10_agree) (maxL := 3) (ret := (some .int)) (by decide) rfl ?_
  intro p e s m args below meth c s₁ B hml hv
  obtain ⟨rfl, hF⟩ := hv
  have hx := B.exec
  have hb := B.bytes
  have hr := B.returns
  have hT : ∀ w ∈ TB, w.before ([.ref (u 0), .int p0, .int p1] : List Value).toArray s = true := fun w h => atoms_spec (ws := .code yX10_agree cX10_agree 3 (some .int) :: TB) B.pre w (List.mem_cons_of_mem _ h)
  have hown : s.vm.findClass RX10 = some m.cls := findClass_of_methodNamed B.named
  have S : CallFix p m c cX10_agree 3 s _ TB RX10 := ⟨hx, hb, hml, hown, hT⟩
  have hP : va_P D vwCl [(u 0, .inr (10, [.int 0, .ref (u 1), .ref (u 2), .ref (u 3), .ref (u 4), .int 0, .ref (u 5), .int 0, .int 0, .int 0, .int 0, .int 0, .int 0, .int (-1), .ref (u 6), .ref (u 7), .ref (u 8), .ref (u 9), .ref (u 10), .ref (u 11), .int 0, .int 0, .int 0, .ref (u 12), .ref (u 13), .ref (u 14), .int 0, .int 0, .ref (u 15), .int 0, .ref (u 16), .int 0, .ref (u 17), .int 0, .ref (u 18), .ref (u 19), .ref (u 20), .ref (u 21)])), (u 1, .inl (k 0, 168, .inl (fun _ => 0))), (u 3, .inl (k 3, 3, .inl (fun _ => 0))), (u 18, .inl (k 0, 4, .inl mf))] s.heap := hF.1
  have hK := hF.2.1
  have hl := lv_entry ([.ref (u 0), .int p0, .int p1]) (n := 3) (Nat.le_of_ble_eq_true rfl)
  rw [lg_entry_eq]
  generalize (lg_sl ([.ref (u 0), .int p0, .int p1]) ++ List.replicate (3 - (lg_sl ([.ref (u 0), .int p0, .int p1])).length) Slot.unset).toArray = ls at hl ⊢
  have hl : lv_has ls 3 [(0, .ref (u 0)), (1, .int p0), (2, .int p1)] := hl
  refine lv_aload_n hx hb dX10_agree_0 rfl (lv_at hl 0 rfl) ?_
  refine lv_iload_n hx hb dX10_agree_1 rfl (lv_at hl 1 rfl) ?_
  refine ro_V (As := [.int p0]) (rest := []) S (c_X10_isWheel l D k u mf p0) lkX10_269 ok_X10_isWheel ⟨rfl, rfl, Nat.le_of_ble_eq_true rfl, Nat.le_of_ble_eq_true rfl⟩ (mw_V (ci := 10) (q0 := 0) hF rfl rfl) rfl hl.1 rfl (Nat.le_of_ble_eq_true rfl) ⟨Nat.zero_le _, Nat.zero_le _⟩ dX10_agree_2 (fun r_1 er_1 => ?_)
  subst er_1
  refine lv_if_eq (tgt := 16) hx hb dX10_agree_5 (by decide) (fun c_2 => ?_) (fun c_2 => ?_)
  rotate_left
  · first | exact absurd c_2 (by decide) | exact absurd (by decide) c_2
  refine lv_bipush (v := (-2)) hx hb dX10_agree_16 (by decide) ?_
  exact W.iret (v := (-2)) hx hb hr (fun t ht hW => ⟨(-2), rfl, rfl, ht⟩) (fun _ h9 => by cases h9) dX10_agree_18
set_option maxHeartbeats 4000000 in
set_option maxRecDepth 100000 in
theorem c_X10_mate (l : Launch) (D : va_G) (k : Nat → ClassId) (u : Nat → Nat) (mf : Nat → Int32) (p0 : Int32)  : Met l yX10_mate (.code yX10_mate cX10_mate 4 (some .int) :: TB) (rmk 3) (va_Pc [.ref (u 0), .int p0] (fun U => MWH D k u mf U U.heap)) (vp_Si (fun r => r = (-2))) 0 0 (fun _ => False) := by
  refine Met.ofW (cc := cX10_mate) (maxL := 4) (ret := (some .int)) (by decide) rfl ?_
  intro p e s m args below meth c s₁ B hml hv
  obtain ⟨rfl, hF⟩ := hv
  have hx := B.exec
  have hb := B.bytes
  have hr := B.returns
  have hT : ∀ w ∈ TB, w.before ([.ref (u 0), .int p0] : List Value).toArray s = true := fun w h => atoms_spec (ws := .code yX10_mate cX10_mate 4 (some .int) :: TB) B.pre w (List.mem_cons_of_mem _ h)
  have hown : s.vm.findClass RX10 = some m.cls := findClass_of_methodNamed B.named
  have S : CallFix p m c cX10_mate 4 s _ TB RX10 := ⟨hx, hb, hml, hown, hT⟩
  have hP : va_P D vwCl [(u 0, .inr (10, [.int 0, .ref (u 1), .ref (u 2), .ref (u 3), .ref (u 4), .int 0, .ref (u 5), .int 0, .int 0, .int 0, .int 0, .int 0, .int 0, .int (-1), .ref (u 6), .ref (u 7), .ref (u 8), .ref (u 9), .ref (u 10), .ref (u 11), .int 0, .int 0, .int 0, .ref (u 12), .ref (u 13), .ref (u 14), .int 0, .int 0, .ref (u 15), .int 0, .ref (u 16), .int 0, .ref (u 17), .int 0, .ref (u 18), .ref (u 19), .ref (u 20), .ref (u 21)])), (u 1, .inl (k 0, 168, .inl (fun _ => 0))), (u 3, .inl (k 3, 3, .inl (fun _ => 0))), (u 18, .inl (k 0, 4, .inl mf))] s.heap := hF.1
  have hK := hF.2.1
  have hl := lv_entry ([.ref (u 0), .int p0]) (n := 4) (Nat.le_of_ble_eq_true rfl)
  rw [lg_entry_eq]
  generalize (lg_sl ([.ref (u 0), .int p0]) ++ List.replicate (4 - (lg_sl ([.ref (u 0), .int p0])).length) Slot.unset).toArray = ls at hl ⊢
  have hl : lv_has ls 4 [(0, .ref (u 0)), (1, .int p0)] := hl
  refine lv_aload_n hx hb dX10_mate_0 rfl (lv_at hl 0 rfl) ?_
  refine lv_iload_n hx hb dX10_mate_1 rfl (lv_at hl 1 rfl) ?_
  refine ro_V (As := [.int p0]) (rest := []) S (c_X10_isWheel l D k u mf p0) lkX10_269 ok_X10_isWheel ⟨rfl, rfl, Nat.le_of_ble_eq_true rfl, Nat.le_of_ble_eq_true rfl⟩ (mw_V (ci := 10) (q0 := 0) hF rfl rfl) rfl hl.1 rfl (Nat.le_of_ble_eq_true rfl) ⟨Nat.zero_le _, Nat.zero_le _⟩ dX10_mate_2 (fun r_1 er_1 => ?_)
  subst er_1
  refine lv_if_ne (tgt := 11) hx hb dX10_mate_5 (by decide) (fun c_2 => ?_) (fun c_2 => ?_)
  · first | exact absurd c_2 (by decide) | exact absurd (by decide) c_2
  refine lv_bipush (v := (-2)) hx hb dX10_mate_8 (by decide) ?_
  exact W.iret (v := (-2)) hx hb hr (fun t ht hW => ⟨(-2), rfl, rfl, ht⟩) (fun _ h9 => by cases h9) dX10_mate_10
set_option maxHeartbeats 4000000 in
set_option maxRecDepth 100000 in
theorem c_X10_teach (l : Launch) (D : va_G) (k : Nat → ClassId) (u : Nat → Nat) (mf : Nat → Int32) (p0 : Int32) (p1 : Int32)  : Met l yX10_teach (.code yX10_teach cX10_teach 4 (some .int) :: TB) (rmk 3) (va_Pc [.ref (u 0), .int p0, .int p1] (fun U => MWH D k u mf U U.heap)) (vp_Si (fun r => r = (-2))) 0 0 (fun _ => False) := by
  refine Met.ofW (cc := cX10_teach) (maxL := 4) (ret := (some .int)) (by decide) rfl ?_
  intro p e s m args below meth c s₁ B hml hv
  obtain ⟨rfl, hF⟩ := hv
  have hx := B.exec
  have hb := B.bytes
  have hr := B.returns
  have hT : ∀ w ∈ TB, w.before ([.ref (u 0), .int p0, .int p1] : List Value).toArray s = true := fun w h => atoms_spec (ws := .code yX10_teach cX10_teach 4 (some .int) :: TB) B.pre w (List.mem_cons_of_mem _ h)
  have hown : s.vm.findClass RX10 = some m.cls := findClass_of_methodNamed B.named
  have S : CallFix p m c cX10_teach 4 s _ TB RX10 := ⟨hx, hb, hml, hown, hT⟩
  have hP : va_P D vwCl [(u 0, .inr (10, [.int 0, .ref (u 1), .ref (u 2), .ref (u 3), .ref (u 4), .int 0, .ref (u 5), .int 0, .int 0, .int 0, .int 0, .int 0, .int 0, .int (-1), .ref (u 6), .ref (u 7), .ref (u 8), .ref (u 9), .ref (u 10), .ref (u 11), .int 0, .int 0, .int 0, .ref (u 12), .ref (u 13), .ref (u 14), .int 0, .int 0, .ref (u 15), .int 0, .ref (u 16), .int 0, .ref (u 17), .int 0, .ref (u 18), .ref (u 19), .ref (u 20), .ref (u 21)])), (u 1, .inl (k 0, 168, .inl (fun _ => 0))), (u 3, .inl (k 3, 3, .inl (fun _ => 0))), (u 18, .inl (k 0, 4, .inl mf))] s.heap := hF.1
  have hK := hF.2.1
  have hl := lv_entry ([.ref (u 0), .int p0, .int p1]) (n := 4) (Nat.le_of_ble_eq_true rfl)
  rw [lg_entry_eq]
  generalize (lg_sl ([.ref (u 0), .int p0, .int p1]) ++ List.replicate (4 - (lg_sl ([.ref (u 0), .int p0, .int p1])).length) Slot.unset).toArray = ls at hl ⊢
  have hl : lv_has ls 4 [(0, .ref (u 0)), (1, .int p0), (2, .int p1)] := hl
  refine lv_aload_n hx hb dX10_teach_0 rfl (lv_at hl 0 rfl) ?_
  refine lv_iload_n hx hb dX10_teach_1 rfl (lv_at hl 1 rfl) ?_
  refine ro_V (As := [.int p0]) (rest := []) S (c_X10_isWheel l D k u mf p0) lkX10_269 ok_X10_isWheel ⟨rfl, rfl, Nat.le_of_ble_eq_true rfl, Nat.le_of_ble_eq_true rfl⟩ (mw_V (ci := 10) (q0 := 0) hF rfl rfl) rfl hl.1 rfl (Nat.le_of_ble_eq_true rfl) ⟨Nat.zero_le _, Nat.zero_le _⟩ dX10_teach_2 (fun r_1 er_1 => ?_)
  subst er_1
  refine lv_if_eq (tgt := 17) hx hb dX10_teach_5 (by decide) (fun c_2 => ?_) (fun c_2 => ?_)
  rotate_left
  · first | exact absurd c_2 (by decide) | exact absurd (by decide) c_2
  refine lv_bipush (v := (-2)) hx hb dX10_teach_17 (by decide) ?_
  exact W.iret (v := (-2)) hx hb hr (fun t ht hW => ⟨(-2), rfl, rfl, ht⟩) (fun _ h9 => by cases h9) dX10_teach_19
set_option maxHeartbeats 4000000 in
set_option maxRecDepth 100000 in
theorem c_X10_blind (l : Launch) (D : va_G) (k : Nat → ClassId) (u : Nat → Nat) (mf : Nat → Int32) (p0 : Int32) (p1 : Int32)  : Met l yX10_blind (.code yX10_blind cX10_blind 4 (some .int) :: TB) (rmk 4) (va_Pc [.ref (u 0), .int p0, .int p1] (fun U => MWH D k u mf U U.heap)) (vp_Si (fun r => r = (-2))) 0 0 (fun _ => False) := by
  refine Met.ofW (cc := cX10_blind) (maxL := 4) (ret := (some .int)) (by decide) rfl ?_
  intro p e s m args below meth c s₁ B hml hv
  obtain ⟨rfl, hF⟩ := hv
  have hx := B.exec
  have hb := B.bytes
  have hr := B.returns
  have hT : ∀ w ∈ TB, w.before ([.ref (u 0), .int p0, .int p1] : List Value).toArray s = true := fun w h => atoms_spec (ws := .code yX10_blind cX10_blind 4 (some .int) :: TB) B.pre w (List.mem_cons_of_mem _ h)
  have hown : s.vm.findClass RX10 = some m.cls := findClass_of_methodNamed B.named
  have S : CallFix p m c cX10_blind 4 s _ TB RX10 := ⟨hx, hb, hml, hown, hT⟩
  have hP : va_P D vwCl [(u 0, .inr (10, [.int 0, .ref (u 1), .ref (u 2), .ref (u 3), .ref (u 4), .int 0, .ref (u 5), .int 0, .int 0, .int 0, .int 0, .int 0, .int 0, .int (-1), .ref (u 6), .ref (u 7), .ref (u 8), .ref (u 9), .ref (u 10), .ref (u 11), .int 0, .int 0, .int 0, .ref (u 12), .ref (u 13), .ref (u 14), .int 0, .int 0, .ref (u 15), .int 0, .ref (u 16), .int 0, .ref (u 17), .int 0, .ref (u 18), .ref (u 19), .ref (u 20), .ref (u 21)])), (u 1, .inl (k 0, 168, .inl (fun _ => 0))), (u 3, .inl (k 3, 3, .inl (fun _ => 0))), (u 18, .inl (k 0, 4, .inl mf))] s.heap := hF.1
  have hK := hF.2.1
  have hl := lv_entry ([.ref (u 0), .int p0, .int p1]) (n := 4) (Nat.le_of_ble_eq_true rfl)
  rw [lg_entry_eq]
  generalize (lg_sl ([.ref (u 0), .int p0, .int p1]) ++ List.replicate (4 - (lg_sl ([.ref (u 0), .int p0, .int p1])).length) Slot.unset).toArray = ls at hl ⊢
  have hl : lv_has ls 4 [(0, .ref (u 0)), (1, .int p0), (2, .int p1)] := hl
  refine lv_iload_n hx hb dX10_blind_0 rfl (lv_at hl 2 rfl) ?_
  refine lv_iconst (v := (-1)) hx hb dX10_blind_1 (by decide) ?_
  refine lv_icmp_eq (tgt := 15) hx hb dX10_blind_2 (by decide) (fun c_1 => ?_) (fun c_1 => ?_)
  · skip
    refine lv_bipush (v := (-2)) hx hb dX10_blind_15 (by decide) ?_
    exact W.iret (v := (-2)) hx hb hr (fun t ht hW => ⟨(-2), rfl, rfl, ht⟩) (fun _ h9 => by cases h9) dX10_blind_17
  · skip
    refine lv_aload_n hx hb dX10_blind_5 rfl (lv_at hl 0 rfl) ?_
    refine lv_iload_n hx hb dX10_blind_6 rfl (lv_at hl 1 rfl) ?_
    refine lv_iload_n hx hb dX10_blind_7 rfl (lv_at hl 2 rfl) ?_
    refine lv_i2l (v := p1.toInt64) hx hb dX10_blind_8 rfl ?_
    refine ro_V (As := [.int p0, .long p1.toInt64]) (rest := []) S (c_X10_canWant l D k u mf p0 p1.toInt64) lkX10_290 ok_X10_canWant ⟨rfl, rfl, Nat.le_of_ble_eq_true rfl, Nat.le_of_ble_eq_true rfl⟩ (mw_V (ci := 10) (q0 := 0) hF rfl rfl) rfl hl.1 rfl (Nat.le_of_ble_eq_true rfl) ⟨Nat.zero_le _, Nat.zero_le _⟩ dX10_blind_9 (fun r_2 er_2 => ?_)
    subst er_2
    refine lv_if_ne (tgt := 18) hx hb dX10_blind_12 (by decide) (fun c_3 => ?_) (fun c_3 => ?_)
    · first | exact absurd c_3 (by decide) | exact absurd (by decide) c_3
    refine lv_bipush (v := (-2)) hx hb dX10_blind_15 (by decide) ?_
    exact W.iret (v := (-2)) hx hb hr (fun t ht hW => ⟨(-2), rfl, rfl, ht⟩) (fun _ h9 => by cases h9) dX10_blind_17
set_option maxHeartbeats 4000000 in
set_option maxRecDepth 100000 in
theorem c_X10_blinds (l : Launch) (D : va_G) (k : Nat → ClassId) (u : Nat → Nat) (mf : Nat → Int32) (p0 : Int32) (p1 : Int32)  : Met l yX10_blinds (.code yX10_blinds cX10_blinds 3 (some .int) :: TB) (rmk 4) (va_Pc [.ref (u 0), .int p0, .int p1] (fun U => MWH D k u mf U U.heap)) (vp_Si (fun r => r = (-2))) 0 0 (fun _ => False) := by
  refine Met.ofW (cc := cX10_blinds) (maxL := 3) (ret := (some .int)) (by decide) rfl ?_
  intro p e s m args below meth c s₁ B hml hv
  obtain ⟨rfl, hF⟩ := hv
  have hx := B.exec
  have hb := B.bytes
  have hr := B.returns
  have hT : ∀ w ∈ TB, w.before ([.ref (u 0), .int p0, .int p1] : List Value).toArray s = true := fun w h => atoms_spec (ws := .code yX10_blinds cX10_blinds 3 (some .int) :: TB) B.pre w (List.mem_cons_of_mem _ h)
  have hown : s.vm.findClass RX10 = some m.cls := findClass_of_methodNamed B.named
  have S : CallFix p m c cX10_blinds 3 s _ TB RX10 := ⟨hx, hb, hml, hown, hT⟩
  have hP : va_P D vwCl [(u 0, .inr (10, [.int 0, .ref (u 1), .ref (u 2), .ref (u 3), .ref (u 4), .int 0, .ref (u 5), .int 0, .int 0, .int 0, .int 0, .int 0, .int 0, .int (-1), .ref (u 6), .ref (u 7), .ref (u 8), .ref (u 9), .ref (u 10), .ref (u 11), .int 0, .int 0, .int 0, .ref (u 12), .ref (u 13), .ref (u 14), .int 0, .int 0, .ref (u 15), .int 0, .ref (u 16), .int 0, .ref (u 17), .int 0, .ref (u 18), .ref (u 19), .ref (u 20), .ref (u 21)])), (u 1, .inl (k 0, 168, .inl (fun _ => 0))), (u 3, .inl (k 3, 3, .inl (fun _ => 0))), (u 18, .inl (k 0, 4, .inl mf))] s.heap := hF.1
  have hK := hF.2.1
  have hl := lv_entry ([.ref (u 0), .int p0, .int p1]) (n := 3) (Nat.le_of_ble_eq_true rfl)
  rw [lg_entry_eq]
  generalize (lg_sl ([.ref (u 0), .int p0, .int p1]) ++ List.replicate (3 - (lg_sl ([.ref (u 0), .int p0, .int p1])).length) Slot.unset).toArray = ls at hl ⊢
  have hl : lv_has ls 3 [(0, .ref (u 0)), (1, .int p0), (2, .int p1)] := hl
  refine lv_iload_n hx hb dX10_blinds_0 rfl (lv_at hl 2 rfl) ?_
  refine lv_iconst (v := (-1)) hx hb dX10_blinds_1 (by decide) ?_
  refine lv_icmp_eq (tgt := 15) hx hb dX10_blinds_2 (by decide) (fun c_1 => ?_) (fun c_1 => ?_)
  · skip
    refine lv_bipush (v := (-2)) hx hb dX10_blinds_15 (by decide) ?_
    refine lv_goto (tgt := 26) hx hb dX10_blinds_17 (by decide) ?_
    exact W.iret (v := (-2)) hx hb hr (fun t ht hW => ⟨(-2), rfl, rfl, ht⟩) (fun _ h9 => by cases h9) dX10_blinds_26
  · skip
    refine lv_aload_n hx hb dX10_blinds_5 rfl (lv_at hl 0 rfl) ?_
    refine lv_iload_n hx hb dX10_blinds_6 rfl (lv_at hl 1 rfl) ?_
    refine lv_iload_n hx hb dX10_blinds_7 rfl (lv_at hl 2 rfl) ?_
    refine lv_i2l (v := p1.toInt64) hx hb dX10_blinds_8 rfl ?_
    refine ro_V (As := [.int p0, .long p1.toInt64]) (rest := []) S (c_X10_canWant l D k u mf p0 p1.toInt64) lkX10_290 ok_X10_canWant ⟨rfl, rfl, Nat.le_of_ble_eq_true rfl, Nat.le_of_ble_eq_true rfl⟩ (mw_V (ci := 10) (q0 := 0) hF rfl rfl) rfl hl.1 rfl (Nat.le_of_ble_eq_true rfl) ⟨Nat.zero_le _, Nat.zero_le _⟩ dX10_blinds_9 (fun r_2 er_2 => ?_)
    subst er_2
    refine lv_if_ne (tgt := 20) hx hb dX10_blinds_12 (by decide) (fun c_3 => ?_) (fun c_3 => ?_)
    · first | exact absurd c_3 (by decide) | exact absurd (by decide) c_3
    refine lv_bipush (v := (-2)) hx hb dX10_blinds_15 (by decide) ?_
    refine lv_goto (tgt := 26) hx hb dX10_blinds_17 (by decide) ?_
    exact W.iret (v := (-2)) hx hb hr (fun t ht hW => ⟨(-2), rfl, rfl, ht⟩) (fun _ h9 => by cases h9) dX10_blinds_26
set_option maxHeartbeats 4000000 in
set_option maxRecDepth 100000 in
theorem c_X10_lasts (l : Launch) (D : va_G) (k : Nat → ClassId) (u : Nat → Nat) (mf : Nat → Int32) (p0 : Int32) (p1 : Int32)  : Met l yX10_lasts (.code yX10_lasts cX10_lasts 3 (some .int) :: TB) (rmk 3) (va_Pc [.ref (u 0), .int p0, .int p1] (fun U => MWH D k u mf U U.heap)) (vp_Si (fun r => r = (-2))) 0 0 (fun _ => False) := by
  refine Met.ofW (cc := cX10_lasts) (maxL := 3) (ret := (some .int)) (by decide) rfl ?_
  intro p e s m args below meth c s₁ B hml hv
  obtain ⟨rfl, hF⟩ := hv
  have hx := B.exec
  have hb := B.bytes
  have hr := B.returns
  have hT : ∀ w ∈ TB, w.before ([.ref (u 0), .int p0, .int p1] : List Value).toArray s = true := fun w h => atoms_spec (ws := .code yX10_lasts cX10_lasts 3 (some .int) :: TB) B.pre w (List.mem_cons_of_mem _ h)
  have hown : s.vm.findClass RX10 = some m.cls := findClass_of_methodNamed B.named
  have S : CallFix p m c cX10_lasts 3 s _ TB RX10 := ⟨hx, hb, hml, hown, hT⟩
  have hP : va_P D vwCl [(u 0, .inr (10, [.int 0, .ref (u 1), .ref (u 2), .ref (u 3), .ref (u 4), .int 0, .ref (u 5), .int 0, .int 0, .int 0, .int 0, .int 0, .int 0, .int (-1), .ref (u 6), .ref (u 7), .ref (u 8), .ref (u 9), .ref (u 10), .ref (u 11), .int 0, .int 0, .int 0, .ref (u 12), .ref (u 13), .ref (u 14), .int 0, .int 0, .ref (u 15), .int 0, .ref (u 16), .int 0, .ref (u 17), .int 0, .ref (u 18), .ref (u 19), .ref (u 20), .ref (u 21)])), (u 1, .inl (k 0, 168, .inl (fun _ => 0))), (u 3, .inl (k 3, 3, .inl (fun _ => 0))), (u 18, .inl (k 0, 4, .inl mf))] s.heap := hF.1
  have hK := hF.2.1
  have hl := lv_entry ([.ref (u 0), .int p0, .int p1]) (n := 3) (Nat.le_of_ble_eq_true rfl)
  rw [lg_entry_eq]
  generalize (lg_sl ([.ref (u 0), .int p0, .int p1]) ++ List.replicate (3 - (lg_sl ([.ref (u 0), .int p0, .int p1])).length) Slot.unset).toArray = ls at hl ⊢
  have hl : lv_has ls 3 [(0, .ref (u 0)), (1, .int p0), (2, .int p1)] := hl
  refine lv_aload_n hx hb dX10_lasts_0 rfl (lv_at hl 0 rfl) ?_
  refine lv_iload_n hx hb dX10_lasts_1 rfl (lv_at hl 1 rfl) ?_
  refine ro_V (As := [.int p0]) (rest := []) S (c_X10_isWheel l D k u mf p0) lkX10_269 ok_X10_isWheel ⟨rfl, rfl, Nat.le_of_ble_eq_true rfl, Nat.le_of_ble_eq_true rfl⟩ (mw_V (ci := 10) (q0 := 0) hF rfl rfl) rfl hl.1 rfl (Nat.le_of_ble_eq_true rfl) ⟨Nat.zero_le _, Nat.zero_le _⟩ dX10_lasts_2 (fun r_1 er_1 => ?_)
  subst er_1
  refine lv_if_eq (tgt := 20) hx hb dX10_lasts_5 (by decide) (fun c_2 => ?_) (fun c_2 => ?_)
  rotate_left
  · first | exact absurd c_2 (by decide) | exact absurd (by decide) c_2
  refine lv_bipush (v := (-2)) hx hb dX10_lasts_20 (by decide) ?_
  exact W.iret (v := (-2)) hx hb hr (fun t ht hW => ⟨(-2), rfl, rfl, ht⟩) (fun _ h9 => by cases h9) dX10_lasts_22
set_option maxHeartbeats 4000000 in
set_option maxRecDepth 100000 in
theorem c_X10_share (l : Launch) (D : va_G) (k : Nat → ClassId) (u : Nat → Nat) (mf : Nat → Int32) (p0 : Int32) (p1 : Int32) (p2 : Int32)  : Met l yX10_share (.code yX10_share cX10_share 9 (some .int) :: TB) (rmk 3) (va_Pc [.ref (u 0), .int p0, .int p1, .int p2] (fun U => MWH D k u mf U U.heap)) (vp_Si (fun r => r = (-2))) 0 0 (fun _ => False) := by
  refine Met.ofW (cc := cX10_share) (maxL := 9) (ret := (some .int)) (by decide) rfl ?_
  intro p e s m args below meth c s₁ B hml hv
  obtain ⟨rfl, hF⟩ := hv
  have hx := B.exec
  have hb := B.bytes
  have hr := B.returns
  have hT : ∀ w ∈ TB, w.before ([.ref (u 0), .int p0, .int p1, .int p2] : List Value).toArray s = true := fun w h => atoms_spec (ws := .code yX10_share cX10_share 9 (some .int) :: TB) B.pre w (List.mem_cons_of_mem _ h)
  have hown : s.vm.findClass RX10 = some m.cls := findClass_of_methodNamed B.named
  have S : CallFix p m c cX10_share 9 s _ TB RX10 := ⟨hx, hb, hml, hown, hT⟩
  have hP : va_P D vwCl [(u 0, .inr (10, [.int 0, .ref (u 1), .ref (u 2), .ref (u 3), .ref (u 4), .int 0, .ref (u 5), .int 0, .int 0, .int 0, .int 0, .int 0, .int 0, .int (-1), .ref (u 6), .ref (u 7), .ref (u 8), .ref (u 9), .ref (u 10), .ref (u 11), .int 0, .int 0, .int 0, .ref (u 12), .ref (u 13), .ref (u 14), .int 0, .int 0, .ref (u 15), .int 0, .ref (u 16), .int 0, .ref (u 17), .int 0, .ref (u 18), .ref (u 19), .ref (u 20), .ref (u 21)])), (u 1, .inl (k 0, 168, .inl (fun _ => 0))), (u 3, .inl (k 3, 3, .inl (fun _ => 0))), (u 18, .inl (k 0, 4, .inl mf))] s.heap := hF.1
  have hK := hF.2.1
  have hl := lv_entry ([.ref (u 0), .int p0, .int p1, .int p2]) (n := 9) (Nat.le_of_ble_eq_true rfl)
  rw [lg_entry_eq]
  generalize (lg_sl ([.ref (u 0), .int p0, .int p1, .int p2]) ++ List.replicate (9 - (lg_sl ([.ref (u 0), .int p0, .int p1, .int p2])).length) Slot.unset).toArray = ls at hl ⊢
  have hl : lv_has ls 9 [(0, .ref (u 0)), (1, .int p0), (2, .int p1), (3, .int p2)] := hl
  refine lv_aload_n hx hb dX10_share_0 rfl (lv_at hl 0 rfl) ?_
  refine lv_iload_n hx hb dX10_share_1 rfl (lv_at hl 1 rfl) ?_
  refine ro_V (As := [.int p0]) (rest := []) S (c_X10_isCart l D k u mf p0) lkX10_279 ok_X10_isCart ⟨rfl, rfl, Nat.le_of_ble_eq_true rfl, Nat.le_of_ble_eq_true rfl⟩ (mw_V (ci := 10) (q0 := 0) hF rfl rfl) rfl hl.1 rfl (Nat.le_of_ble_eq_true rfl) ⟨Nat.zero_le _, Nat.zero_le _⟩ dX10_share_2 (fun r_1 er_1 => ?_)
  subst er_1
  refine lv_if_eq (tgt := 28) hx hb dX10_share_5 (by decide) (fun c_2 => ?_) (fun c_2 => ?_)
  rotate_left
  · first | exact absurd c_2 (by decide) | exact absurd (by decide) c_2
  refine lv_bipush (v := (-2)) hx hb dX10_share_28 (by decide) ?_
  exact W.iret (v := (-2)) hx hb hr (fun t ht hW => ⟨(-2), rfl, rfl, ht⟩) (fun _ h9 => by cases h9) dX10_share_30
set_option maxHeartbeats 4000000 in
set_option maxRecDepth 100000 in
theorem c_X10_worth (l : Launch) (D : va_G) (k : Nat → ClassId) (u : Nat → Nat) (mf : Nat → Int32) (p0 : Int32)  : Met l yX10_worth (.code yX10_worth cX10_worth 2 (some .int) :: TB) (rmk 3) (va_Pc [.ref (u 0), .int p0] (fun U => MWH D k u mf U U.heap)) (vp_Si (fun r => r = (-2))) 0 0 (fun _ => False) := by
  refine Met.ofW (cc := cX10_worth) (maxL := 2) (ret := (some .int)) (by decide) rfl ?_
  intro p e s m args below meth c s₁ B hml hv
  obtain ⟨rfl, hF⟩ := hv
  have hx := B.exec
  have hb := B.bytes
  have hr := B.returns
  have hT : ∀ w ∈ TB, w.before ([.ref (u 0), .int p0] : List Value).toArray s = true := fun w h => atoms_spec (ws := .code yX10_worth cX10_worth 2 (some .int) :: TB) B.pre w (List.mem_cons_of_mem _ h)
  have hown : s.vm.findClass RX10 = some m.cls := findClass_of_methodNamed B.named
  have S : CallFix p m c cX10_worth 2 s _ TB RX10 := ⟨hx, hb, hml, hown, hT⟩
  have hP : va_P D vwCl [(u 0, .inr (10, [.int 0, .ref (u 1), .ref (u 2), .ref (u 3), .ref (u 4), .int 0, .ref (u 5), .int 0, .int 0, .int 0, .int 0, .int 0, .int 0, .int (-1), .ref (u 6), .ref (u 7), .ref (u 8), .ref (u 9), .ref (u 10), .ref (u 11), .int 0, .int 0, .int 0, .ref (u 12), .ref (u 13), .ref (u 14), .int 0, .int 0, .ref (u 15), .int 0, .ref (u 16), .int 0, .ref (u 17), .int 0, .ref (u 18), .ref (u 19), .ref (u 20), .ref (u 21)])), (u 1, .inl (k 0, 168, .inl (fun _ => 0))), (u 3, .inl (k 3, 3, .inl (fun _ => 0))), (u 18, .inl (k 0, 4, .inl mf))] s.heap := hF.1
  have hK := hF.2.1
  have hl := lv_entry ([.ref (u 0), .int p0]) (n := 2) (Nat.le_of_ble_eq_true rfl)
  rw [lg_entry_eq]
  generalize (lg_sl ([.ref (u 0), .int p0]) ++ List.replicate (2 - (lg_sl ([.ref (u 0), .int p0])).length) Slot.unset).toArray = ls at hl ⊢
  have hl : lv_has ls 2 [(0, .ref (u 0)), (1, .int p0)] := hl
  refine lv_aload_n hx hb dX10_worth_0 rfl (lv_at hl 0 rfl) ?_
  refine lv_iload_n hx hb dX10_worth_1 rfl (lv_at hl 1 rfl) ?_
  refine ro_V (As := [.int p0]) (rest := []) S (c_X10_isWheel l D k u mf p0) lkX10_269 ok_X10_isWheel ⟨rfl, rfl, Nat.le_of_ble_eq_true rfl, Nat.le_of_ble_eq_true rfl⟩ (mw_V (ci := 10) (q0 := 0) hF rfl rfl) rfl hl.1 rfl (Nat.le_of_ble_eq_true rfl) ⟨Nat.zero_le _, Nat.zero_le _⟩ dX10_worth_2 (fun r_1 er_1 => ?_)
  subst er_1
  refine lv_if_ne (tgt := 11) hx hb dX10_worth_5 (by decide) (fun c_2 => ?_) (fun c_2 => ?_)
  · first | exact absurd c_2 (by decide) | exact absurd (by decide) c_2
  refine lv_bipush (v := (-2)) hx hb dX10_worth_8 (by decide) ?_
  exact W.iret (v := (-2)) hx hb hr (fun t ht hW => ⟨(-2), rfl, rfl, ht⟩) (fun _ h9 => by cases h9) dX10_worth_10
set_option maxHeartbeats 4000000 in
set_option maxRecDepth 100000 in
theorem c_X10_picks (l : Launch) (D : va_G) (k : Nat → ClassId) (u : Nat → Nat) (mf : Nat → Int32)   : Met l yX10_picks (.code yX10_picks cX10_picks 4 (some .int) :: TB) (rmk 2) (va_Pc [.ref (u 0)] (fun U => MWH D k u mf U U.heap)) (vp_Si (fun r => r = (-2))) 0 0 (fun _ => False) := by
  refine Met.ofW (cc := cX10_picks) (maxL := 4) (ret := (some .int)) (by decide) rfl ?_
  intro p e s m args below meth c s₁ B hml hv
  obtain ⟨rfl, hF⟩ := hv
  have hx := B.exec
  have hb := B.bytes
  have hr := B.returns
  have hT : ∀ w ∈ TB, w.before ([.ref (u 0)] : List Value).toArray s = true := fun w h => atoms_spec (ws := .code yX10_picks cX10_picks 4 (some .int) :: TB) B.pre w (List.mem_cons_of_mem _ h)
  have hown : s.vm.findClass RX10 = some m.cls := findClass_of_methodNamed B.named
  have S : CallFix p m c cX10_picks 4 s _ TB RX10 := ⟨hx, hb, hml, hown, hT⟩
  have hP : va_P D vwCl [(u 0, .inr (10, [.int 0, .ref (u 1), .ref (u 2), .ref (u 3), .ref (u 4), .int 0, .ref (u 5), .int 0, .int 0, .int 0, .int 0, .int 0, .int 0, .int (-1), .ref (u 6), .ref (u 7), .ref (u 8), .ref (u 9), .ref (u 10), .ref (u 11), .int 0, .int 0, .int 0, .ref (u 12), .ref (u 13), .ref (u 14), .int 0, .int 0, .ref (u 15), .int 0, .ref (u 16), .int 0, .ref (u 17), .int 0, .ref (u 18), .ref (u 19), .ref (u 20), .ref (u 21)])), (u 1, .inl (k 0, 168, .inl (fun _ => 0))), (u 3, .inl (k 3, 3, .inl (fun _ => 0))), (u 18, .inl (k 0, 4, .inl mf))] s.heap := hF.1
  have hK := hF.2.1
  have hl := lv_entry ([.ref (u 0)]) (n := 4) (Nat.le_of_ble_eq_true rfl)
  rw [lg_entry_eq]
  generalize (lg_sl ([.ref (u 0)]) ++ List.replicate (4 - (lg_sl ([.ref (u 0)])).length) Slot.unset).toArray = ls at hl ⊢
  have hl : lv_has ls 4 [(0, .ref (u 0))] := hl
  refine lv_aload_n hx hb dX10_picks_0 rfl (lv_at hl 0 rfl) ?_
  refine ro_V (As := []) (rest := []) S (c_X10_isLand l D k u mf ) lkX10_297 ok_X10_isLand ⟨rfl, rfl, Nat.le_of_ble_eq_true rfl, Nat.le_of_ble_eq_true rfl⟩ (mw_V (ci := 10) (q0 := 0) hF rfl rfl) rfl hl.1 rfl (Nat.le_of_ble_eq_true rfl) ⟨Nat.zero_le _, Nat.zero_le _⟩ dX10_picks_1 (fun r_1 er_1 => ?_)
  subst er_1
  refine lv_if_ne (tgt := 10) hx hb dX10_picks_4 (by decide) (fun c_2 => ?_) (fun c_2 => ?_)
  · first | exact absurd c_2 (by decide) | exact absurd (by decide) c_2
  refine lv_bipush (v := (-2)) hx hb dX10_picks_7 (by decide) ?_
  exact W.iret (v := (-2)) hx hb hr (fun t ht hW => ⟨(-2), rfl, rfl, ht⟩) (fun _ h9 => by cases h9) dX10_picks_9
set_option maxHeartbeats 4000000 in
set_option maxRecDepth 100000 in
theorem c_X10_drawn (l : Launch) (D : va_G) (k : Nat → ClassId) (u : Nat → Nat) (mf : Nat → Int32) (p0 : Int32) (p1 : Int32) (p2 : Int32) (p3 : Int32)  : Met l yX10_drawn (.code yX10_drawn cX10_drawn 5 (some .int) :: TB) (rmk 4) (va_Pc [.ref (u 0), .int p0, .int p1, .int p2, .int p3] (fun U => MWH D k u mf U U.heap)) (vp_Si (fun r => r = (-2))) 0 0 (fun _ => False) := by
  refine Met.ofW (cc := cX10_drawn) (maxL := 5) (ret := (some .int)) (by decide) rfl ?_
  intro p e s m args below meth c s₁ B hml hv
  obtain ⟨rfl, hF⟩ := hv
  have hx := B.exec
  have hb := B.bytes
  have hr := B.returns
  have hT : ∀ w ∈ TB, w.before ([.ref (u 0), .int p0, .int p1, .int p2, .int p3] : List Value).toArray s = true := fun w h => atoms_spec (ws := .code yX10_drawn cX10_drawn 5 (some .int) :: TB) B.pre w (List.mem_cons_of_mem _ h)
  have hown : s.vm.findClass RX10 = some m.cls := findClass_of_methodNamed B.named
  have S : CallFix p m c cX10_drawn 5 s _ TB RX10 := ⟨hx, hb, hml, hown, hT⟩
  have hP : va_P D vwCl [(u 0, .inr (10, [.int 0, .ref (u 1), .ref (u 2), .ref (u 3), .ref (u 4), .int 0, .ref (u 5), .int 0, .int 0, .int 0, .int 0, .int 0, .int 0, .int (-1), .ref (u 6), .ref (u 7), .ref (u 8), .ref (u 9), .ref (u 10), .ref (u 11), .int 0, .int 0, .int 0, .ref (u 12), .ref (u 13), .ref (u 14), .int 0, .int 0, .ref (u 15), .int 0, .ref (u 16), .int 0, .ref (u 17), .int 0, .ref (u 18), .ref (u 19), .ref (u 20), .ref (u 21)])), (u 1, .inl (k 0, 168, .inl (fun _ => 0))), (u 3, .inl (k 3, 3, .inl (fun _ => 0))), (u 18, .inl (k 0, 4, .inl mf))] s.heap := hF.1
  have hK := hF.2.1
  have hl := lv_entry ([.ref (u 0), .int p0, .int p1, .int p2, .int p3]) (n := 5) (Nat.le_of_ble_eq_true rfl)
  rw [lg_entry_eq]
  generalize (lg_sl ([.ref (u 0), .int p0, .int p1, .int p2, .int p3]) ++ List.replicate (5 - (lg_sl ([.ref (u 0), .int p0, .int p1, .int p2, .int p3])).length) Slot.unset).toArray = ls at hl ⊢
  have hl : lv_has ls 5 [(0, .ref (u 0)), (1, .int p0), (2, .int p1), (3, .int p2), (4, .int p3)] := hl
  refine lv_aload_n hx hb dX10_drawn_0 rfl (lv_at hl 0 rfl) ?_
  refine lv_iload_n hx hb dX10_drawn_1 rfl (lv_at hl 1 rfl) ?_
  refine lv_iload_n hx hb dX10_drawn_2 rfl (lv_at hl 2 rfl) ?_
  refine lv_iload_n hx hb dX10_drawn_3 rfl (lv_at hl 3 rfl) ?_
  refine ro_V (As := [.int p0, .int p1, .int p2]) (rest := []) S (c_X10_isDrawn l D k u mf p0 p1 p2) lkX10_424 ok_X10_isDrawn ⟨rfl, rfl, Nat.le_of_ble_eq_true rfl, Nat.le_of_ble_eq_true rfl⟩ (mw_V (ci := 10) (q0 := 0) hF rfl rfl) rfl hl.1 rfl (Nat.le_of_ble_eq_true rfl) ⟨Nat.zero_le _, Nat.zero_le _⟩ dX10_drawn_4 (fun r_1 er_1 => ?_)
  subst er_1
  refine lv_if_eq (tgt := 23) hx hb dX10_drawn_7 (by decide) (fun c_2 => ?_) (fun c_2 => ?_)
  rotate_left
  · first | exact absurd c_2 (by decide) | exact absurd (by decide) c_2
  refine lv_bipush (v := (-2)) hx hb dX10_drawn_23 (by decide) ?_
  exact W.iret (v := (-2)) hx hb hr (fun t ht hW => ⟨(-2), rfl, rfl, ht⟩) (fun _ h9 => by cases h9) dX10_drawn_25
set_option maxHeartbeats 4000000 in
set_option maxRecDepth 100000 in
theorem c_X10_luck (l : Launch) (D : va_G) (k : Nat → ClassId) (u : Nat → Nat) (mf : Nat → Int32) (p0 : Int32) (p1 : Int32) (p2 : Int32) (p3 : Int32) (p4 : Int32)  : Met l yX10_luck (.code yX10_luck cX10_luck 8 (some .int) :: TB) (rmk 4) (va_Pc [.ref (u 0), .int p0, .int p1, .int p2, .int p3, .int p4] (fun U => MWH D k u mf U U.heap)) (vp_Si (fun r => r = (-2))) 0 0 (fun _ => False) := by
  refine Met.ofW (cc := cX10_luck) (maxL := 8) (ret := (some .int)) (by decide) rfl ?_
  intro p e s m args below meth c s₁ B hml hv
  obtain ⟨rfl, hF⟩ := hv
  have hx := B.exec
  have hb := B.bytes
  have hr := B.returns
  have hT : ∀ w ∈ TB, w.before ([.ref (u 0), .int p0, .int p1, .int p2, .int p3, .int p4] : List Value).toArray s = true := fun w h => atoms_spec (ws := .code yX10_luck cX10_luck 8 (some .int) :: TB) B.pre w (List.mem_cons_of_mem _ h)
  have hown : s.vm.findClass RX10 = some m.cls := findClass_of_methodNamed B.named
  have S : CallFix p m c cX10_luck 8 s _ TB RX10 := ⟨hx, hb, hml, hown, hT⟩
  have hP : va_P D vwCl [(u 0, .inr (10, [.int 0, .ref (u 1), .ref (u 2), .ref (u 3), .ref (u 4), .int 0, .ref (u 5), .int 0, .int 0, .int 0, .int 0, .int 0, .int 0, .int (-1), .ref (u 6), .ref (u 7), .ref (u 8), .ref (u 9), .ref (u 10), .ref (u 11), .int 0, .int 0, .int 0, .ref (u 12), .ref (u 13), .ref (u 14), .int 0, .int 0, .ref (u 15), .int 0, .ref (u 16), .int 0, .ref (u 17), .int 0, .ref (u 18), .ref (u 19), .ref (u 20), .ref (u 21)])), (u 1, .inl (k 0, 168, .inl (fun _ => 0))), (u 3, .inl (k 3, 3, .inl (fun _ => 0))), (u 18, .inl (k 0, 4, .inl mf))] s.heap := hF.1
  have hK := hF.2.1
  have hl := lv_entry ([.ref (u 0), .int p0, .int p1, .int p2, .int p3, .int p4]) (n := 8) (Nat.le_of_ble_eq_true rfl)
  rw [lg_entry_eq]
  generalize (lg_sl ([.ref (u 0), .int p0, .int p1, .int p2, .int p3, .int p4]) ++ List.replicate (8 - (lg_sl ([.ref (u 0), .int p0, .int p1, .int p2, .int p3, .int p4])).length) Slot.unset).toArray = ls at hl ⊢
  have hl : lv_has ls 8 [(0, .ref (u 0)), (1, .int p0), (2, .int p1), (3, .int p2), (4, .int p3), (5, .int p4)] := hl
  refine lv_aload_n hx hb dX10_luck_0 rfl (lv_at hl 0 rfl) ?_
  refine lv_iload_n hx hb dX10_luck_1 rfl (lv_at hl 1 rfl) ?_
  refine lv_iload_n hx hb dX10_luck_2 rfl (lv_at hl 3 rfl) ?_
  refine lv_iload hx hb dX10_luck_3 (lv_at hl 4 rfl) ?_
  refine ro_V (As := [.int p0, .int p2, .int p3]) (rest := []) S (c_X10_isDrawn l D k u mf p0 p2 p3) lkX10_424 ok_X10_isDrawn ⟨rfl, rfl, Nat.le_of_ble_eq_true rfl, Nat.le_of_ble_eq_true rfl⟩ (mw_V (ci := 10) (q0 := 0) hF rfl rfl) rfl hl.1 rfl (Nat.le_of_ble_eq_true rfl) ⟨Nat.zero_le _, Nat.zero_le _⟩ dX10_luck_5 (fun r_1 er_1 => ?_)
  subst er_1
  refine lv_if_eq (tgt := 33) hx hb dX10_luck_8 (by decide) (fun c_2 => ?_) (fun c_2 => ?_)
  rotate_left
  · first | exact absurd c_2 (by decide) | exact absurd (by decide) c_2
  refine lv_bipush (v := (-2)) hx hb dX10_luck_33 (by decide) ?_
  exact W.iret (v := (-2)) hx hb hr (fun t ht hW => ⟨(-2), rfl, rfl, ht⟩) (fun _ h9 => by cases h9) dX10_luck_35
set_option maxHeartbeats 4000000 in
set_option maxRecDepth 100000 in
theorem c_X10_tell (l : Launch) (D : va_G) (k : Nat → ClassId) (u : Nat → Nat) (mf : Nat → Int32) (p0 : Int32) (p1 : Int32) (p2 : Int32)  : Met l yX10_tell (.code yX10_tell cX10_tell 6 (some .int) :: TB) (rmk 3) (va_Pc [.ref (u 0), .int p0, .int p1, .int p2] (fun U => MWH D k u mf U U.heap)) (vp_Si (fun r => r = (-2))) 0 0 (fun _ => False) := by
  refine Met.ofW (cc := cX10_tell) (maxL := 6) (ret := (some .int)) (by decide) rfl ?_
  intro p e s m args below meth c s₁ B hml hv
  obtain ⟨rfl, hF⟩ := hv
  have hx := B.exec
  have hb := B.bytes
  have hr := B.returns
  have hT : ∀ w ∈ TB, w.before ([.ref (u 0), .int p0, .int p1, .int p2] : List Value).toArray s = true := fun w h => atoms_spec (ws := .code yX10_tell cX10_tell 6 (some .int) :: TB) B.pre w (List.mem_cons_of_mem _ h)
  have hown : s.vm.findClass RX10 = some m.cls := findClass_of_methodNamed B.named
  have S : CallFix p m c cX10_tell 6 s _ TB RX10 := ⟨hx, hb, hml, hown, hT⟩
  have hP : va_P D vwCl [(u 0, .inr (10, [.int 0, .ref (u 1), .ref (u 2), .ref (u 3), .ref (u 4), .int 0, .ref (u 5), .int 0, .int 0, .int 0, .int 0, .int 0, .int 0, .int (-1), .ref (u 6), .ref (u 7), .ref (u 8), .ref (u 9), .ref (u 10), .ref (u 11), .int 0, .int 0, .int 0, .ref (u 12), .ref (u 13), .ref (u 14), .int 0, .int 0, .ref (u 15), .int 0, .ref (u 16), .int 0, .ref (u 17), .int 0, .ref (u 18), .ref (u 19), .ref (u 20), .ref (u 21)])), (u 1, .inl (k 0, 168, .inl (fun _ => 0))), (u 3, .inl (k 3, 3, .inl (fun _ => 0))), (u 18, .inl (k 0, 4, .inl mf))] s.heap := hF.1
  have hK := hF.2.1
  have hl := lv_entry ([.ref (u 0), .int p0, .int p1, .int p2]) (n := 6) (Nat.le_of_ble_eq_true rfl)
  rw [lg_entry_eq]
  generalize (lg_sl ([.ref (u 0), .int p0, .int p1, .int p2]) ++ List.replicate (6 - (lg_sl ([.ref (u 0), .int p0, .int p1, .int p2])).length) Slot.unset).toArray = ls at hl ⊢
  have hl : lv_has ls 6 [(0, .ref (u 0)), (1, .int p0), (2, .int p1), (3, .int p2)] := hl
  refine lv_aload_n hx hb dX10_tell_0 rfl (lv_at hl 0 rfl) ?_
  refine lv_iload_n hx hb dX10_tell_1 rfl (lv_at hl 1 rfl) ?_
  refine ro_V (As := [.int p0]) (rest := []) S (c_X10_isWheel l D k u mf p0) lkX10_269 ok_X10_isWheel ⟨rfl, rfl, Nat.le_of_ble_eq_true rfl, Nat.le_of_ble_eq_true rfl⟩ (mw_V (ci := 10) (q0 := 0) hF rfl rfl) rfl hl.1 rfl (Nat.le_of_ble_eq_true rfl) ⟨Nat.zero_le _, Nat.zero_le _⟩ dX10_tell_2 (fun r_1 er_1 => ?_)
  subst er_1
  refine lv_if_eq (tgt := 29) hx hb dX10_tell_5 (by decide) (fun c_2 => ?_) (fun c_2 => ?_)
  rotate_left
  · first | exact absurd c_2 (by decide) | exact absurd (by decide) c_2
  refine lv_bipush (v := (-2)) hx hb dX10_tell_29 (by decide) ?_
  exact W.iret (v := (-2)) hx hb hr (fun t ht hW => ⟨(-2), rfl, rfl, ht⟩) (fun _ h9 => by cases h9) dX10_tell_31
set_option maxHeartbeats 4000000 in
set_option maxRecDepth 100000 in
theorem c_X10_hand (l : Launch) (D : va_G) (k : Nat → ClassId) (u : Nat → Nat) (mf : Nat → Int32) (p0 : Int32)  : Met l yX10_hand (.code yX10_hand cX10_hand 3 (some .int) :: TB) (rmk 2) (va_Pc [.ref (u 0), .int p0] (fun U => MWH D k u mf U U.heap)) (vp_Si (fun r => r = (-2))) 0 0 (fun _ => False) := by
  refine Met.ofW (cc := cX10_hand) (maxL := 3) (ret := (some .int)) (by decide) rfl ?_
  intro p e s m args below meth c s₁ B hml hv
  obtain ⟨rfl, hF⟩ := hv
  have hx := B.exec
  have hb := B.bytes
  have hr := B.returns
  have hT : ∀ w ∈ TB, w.before ([.ref (u 0), .int p0] : List Value).toArray s = true := fun w h => atoms_spec (ws := .code yX10_hand cX10_hand 3 (some .int) :: TB) B.pre w (List.mem_cons_of_mem _ h)
  have hown : s.vm.findClass RX10 = some m.cls := findClass_of_methodNamed B.named
  have S : CallFix p m c cX10_hand 3 s _ TB RX10 := ⟨hx, hb, hml, hown, hT⟩
  have hP : va_P D vwCl [(u 0, .inr (10, [.int 0, .ref (u 1), .ref (u 2), .ref (u 3), .ref (u 4), .int 0, .ref (u 5), .int 0, .int 0, .int 0, .int 0, .int 0, .int 0, .int (-1), .ref (u 6), .ref (u 7), .ref (u 8), .ref (u 9), .ref (u 10), .ref (u 11), .int 0, .int 0, .int 0, .ref (u 12), .ref (u 13), .ref (u 14), .int 0, .int 0, .ref (u 15), .int 0, .ref (u 16), .int 0, .ref (u 17), .int 0, .ref (u 18), .ref (u 19), .ref (u 20), .ref (u 21)])), (u 1, .inl (k 0, 168, .inl (fun _ => 0))), (u 3, .inl (k 3, 3, .inl (fun _ => 0))), (u 18, .inl (k 0, 4, .inl mf))] s.heap := hF.1
  have hK := hF.2.1
  have hl := lv_entry ([.ref (u 0), .int p0]) (n := 3) (Nat.le_of_ble_eq_true rfl)
  rw [lg_entry_eq]
  generalize (lg_sl ([.ref (u 0), .int p0]) ++ List.replicate (3 - (lg_sl ([.ref (u 0), .int p0])).length) Slot.unset).toArray = ls at hl ⊢
  have hl : lv_has ls 3 [(0, .ref (u 0)), (1, .int p0)] := hl
  refine lv_aload_n hx hb dX10_hand_0 rfl (lv_at hl 0 rfl) ?_
  refine ro_V (As := []) (rest := []) S (c_X10_isLand l D k u mf ) lkX10_297 ok_X10_isLand ⟨rfl, rfl, Nat.le_of_ble_eq_true rfl, Nat.le_of_ble_eq_true rfl⟩ (mw_V (ci := 10) (q0 := 0) hF rfl rfl) rfl hl.1 rfl (Nat.le_of_ble_eq_true rfl) ⟨Nat.zero_le _, Nat.zero_le _⟩ dX10_hand_1 (fun r_1 er_1 => ?_)
  subst er_1
  refine lv_if_eq (tgt := 19) hx hb dX10_hand_4 (by decide) (fun c_2 => ?_) (fun c_2 => ?_)
  rotate_left
  · first | exact absurd c_2 (by decide) | exact absurd (by decide) c_2
  refine lv_bipush (v := (-2)) hx hb dX10_hand_19 (by decide) ?_
  exact W.iret (v := (-2)) hx hb hr (fun t ht hW => ⟨(-2), rfl, rfl, ht⟩) (fun _ h9 => by cases h9) dX10_hand_21
set_option maxHeartbeats 4000000 in
set_option maxRecDepth 100000 in
theorem c_X10_smiths (l : Launch) (D : va_G) (k : Nat → ClassId) (u : Nat → Nat) (mf : Nat → Int32)   : Met l yX10_smiths (.code yX10_smiths cX10_smiths 1 (some .int) :: TB) (rmk 2) (va_Pc [.ref (u 0)] (fun U => MWH D k u mf U U.heap)) (vp_Si (fun r => r = (-2000000))) 0 0 (fun _ => False) := by
  refine Met.ofW (cc := cX10_smiths) (maxL := 1) (ret := (some .int)) (by decide) rfl ?_
  intro p e s m args below meth c s₁ B hml hv
  obtain ⟨rfl, hF⟩ := hv
  have hx := B.exec
  have hb := B.bytes
  have hr := B.returns
  have hT : ∀ w ∈ TB, w.before ([.ref (u 0)] : List Value).toArray s = true := fun w h => atoms_spec (ws := .code yX10_smiths cX10_smiths 1 (some .int) :: TB) B.pre w (List.mem_cons_of_mem _ h)
  have hown : s.vm.findClass RX10 = some m.cls := findClass_of_methodNamed B.named
  have S : CallFix p m c cX10_smiths 1 s _ TB RX10 := ⟨hx, hb, hml, hown, hT⟩
  have hP : va_P D vwCl [(u 0, .inr (10, [.int 0, .ref (u 1), .ref (u 2), .ref (u 3), .ref (u 4), .int 0, .ref (u 5), .int 0, .int 0, .int 0, .int 0, .int 0, .int 0, .int (-1), .ref (u 6), .ref (u 7), .ref (u 8), .ref (u 9), .ref (u 10), .ref (u 11), .int 0, .int 0, .int 0, .ref (u 12), .ref (u 13), .ref (u 14), .int 0, .int 0, .ref (u 15), .int 0, .ref (u 16), .int 0, .ref (u 17), .int 0, .ref (u 18), .ref (u 19), .ref (u 20), .ref (u 21)])), (u 1, .inl (k 0, 168, .inl (fun _ => 0))), (u 3, .inl (k 3, 3, .inl (fun _ => 0))), (u 18, .inl (k 0, 4, .inl mf))] s.heap := hF.1
  have hK := hF.2.1
  have hl := lv_entry ([.ref (u 0)]) (n := 1) (Nat.le_of_ble_eq_true rfl)
  rw [lg_entry_eq]
  generalize (lg_sl ([.ref (u 0)]) ++ List.replicate (1 - (lg_sl ([.ref (u 0)])).length) Slot.unset).toArray = ls at hl ⊢
  have hl : lv_has ls 1 [(0, .ref (u 0))] := hl
  refine lv_aload_n hx hb dX10_smiths_0 rfl (lv_at hl 0 rfl) ?_
  refine ro_V (As := []) (rest := []) S (c_X10_isLand l D k u mf ) lkX10_297 ok_X10_isLand ⟨rfl, rfl, Nat.le_of_ble_eq_true rfl, Nat.le_of_ble_eq_true rfl⟩ (mw_V (ci := 10) (q0 := 0) hF rfl rfl) rfl hl.1 rfl (Nat.le_of_ble_eq_true rfl) ⟨Nat.zero_le _, Nat.zero_le _⟩ dX10_smiths_1 (fun r_1 er_1 => ?_)
  subst er_1
  refine lv_if_ne (tgt := 11) hx hb dX10_smiths_4 (by decide) (fun c_2 => ?_) (fun c_2 => ?_)
  · first | exact absurd c_2 (by decide) | exact absurd (by decide) c_2
  refine lv_ldcw (v := (-2000000)) hx hb hown (hT _ t1875) dX10_smiths_7 ?_
  exact W.iret (v := (-2000000)) hx hb hr (fun t ht hW => ⟨(-2000000), rfl, rfl, ht⟩) (fun _ h9 => by cases h9) dX10_smiths_10
set_option maxHeartbeats 4000000 in
set_option maxRecDepth 100000 in
theorem c_X10_fault (l : Launch) (D : va_G) (k : Nat → ClassId) (u : Nat → Nat) (mf : Nat → Int32) (p0 : Int32)  : Met l yX10_fault (.code yX10_fault cX10_fault 2 (some .int) :: TB) (rmk 1) (va_Pc [.ref (u 0), .int p0] (fun U => MWH D k u mf U U.heap)) (vp_Si (fun r => r = a_fault p0)) 0 0 (fun _ => False) := by
  refine Met.ofW (cc := cX10_fault) (maxL := 2) (ret := (some .int)) (by decide) rfl ?_
  intro p e s m args below meth c s₁ B hml hv
  obtain ⟨rfl, hF⟩ := hv
  have hx := B.exec
  have hb := B.bytes
  have hr := B.returns
  have hT : ∀ w ∈ TB, w.before ([.ref (u 0), .int p0] : List Value).toArray s = true := fun w h => atoms_spec (ws := .code yX10_fault cX10_fault 2 (some .int) :: TB) B.pre w (List.mem_cons_of_mem _ h)
  have hown : s.vm.findClass RX10 = some m.cls := findClass_of_methodNamed B.named
  have S : CallFix p m c cX10_fault 2 s _ TB RX10 := ⟨hx, hb, hml, hown, hT⟩
  have hP : va_P D vwCl [(u 0, .inr (10, [.int 0, .ref (u 1), .ref (u 2), .ref (u 3), .ref (u 4), .int 0, .ref (u 5), .int 0, .int 0, .int 0, .int 0, .int 0, .int 0, .int (-1), .ref (u 6), .ref (u 7), .ref (u 8), .ref (u 9), .ref (u 10), .ref (u 11), .int 0, .int 0, .int 0, .ref (u 12), .ref (u 13), .ref (u 14), .int 0, .int 0, .ref (u 15), .int 0, .ref (u 16), .int 0, .ref (u 17), .int 0, .ref (u 18), .ref (u 19), .ref (u 20), .ref (u 21)])), (u 1, .inl (k 0, 168, .inl (fun _ => 0))), (u 3, .inl (k 3, 3, .inl (fun _ => 0))), (u 18, .inl (k 0, 4, .inl mf))] s.heap := hF.1
  have hK := hF.2.1
  have hl := lv_entry ([.ref (u 0), .int p0]) (n := 2) (Nat.le_of_ble_eq_true rfl)
  rw [lg_entry_eq]
  generalize (lg_sl ([.ref (u 0), .int p0]) ++ List.replicate (2 - (lg_sl ([.ref (u 0), .int p0])).length) Slot.unset).toArray = ls at hl ⊢
  have hl : lv_has ls 2 [(0, .ref (u 0)), (1, .int p0)] := hl
  refine lv_iload_n hx hb dX10_fault_0 rfl (lv_at hl 1 rfl) ?_
  refine lv_if_ne (tgt := 11) hx hb dX10_fault_1 (by decide) (fun c_1 => ?_) (fun c_1 => ?_)
  · skip
    refine lv_iload_n hx hb dX10_fault_11 rfl (lv_at hl 1 rfl) ?_
    refine lv_iconst (v := 1) hx hb dX10_fault_12 (by decide) ?_
    refine lv_icmp_ne (tgt := 23) hx hb dX10_fault_13 (by decide) (fun c_2 => ?_) (fun c_2 => ?_)
    · skip
      refine lv_iconst (v := (-1)) hx hb dX10_fault_23 (by decide) ?_
      exact W.iret (v := (-1)) hx hb hr (fun t ht hW => ⟨(-1), rfl, (by rw [a_fault, if_neg c_1]), ht⟩) (fun _ h9 => by cases h9) dX10_fault_24
    · skip
      refine lv_aload_n hx hb dX10_fault_16 rfl (lv_at hl 0 rfl) ?_
      refine va_get (D := D) (ci := 10) (v := .int (-1)) (C := RX10) (T := TX10) (N := 38) hx hb hT in_X10 hown hK hP 0 rfl rfl 13 (by decide) (hT _ t1275) (fun _ h9 => h9) rfl dX10_fault_17 ?_
      refine lv_goto (tgt := 24) hx hb dX10_fault_20 (by decide) ?_
      exact W.iret (v := (-1)) hx hb hr (fun t ht hW => ⟨(-1), rfl, (by rw [a_fault, if_neg c_1]), ht⟩) (fun _ h9 => by cases h9) dX10_fault_24
  · skip
    refine lv_aload_n hx hb dX10_fault_4 rfl (lv_at hl 0 rfl) ?_
    refine va_get (D := D) (ci := 10) (v := .int 0) (C := RX10) (T := TX10) (N := 38) hx hb hT in_X10 hown hK hP 0 rfl rfl 12 (by decide) (hT _ t1274) (fun _ h9 => h9) rfl dX10_fault_5 ?_
    refine lv_goto (tgt := 24) hx hb dX10_fault_8 (by decide) ?_
    exact W.iret (v := 0) hx hb hr (fun t ht hW => ⟨0, rfl, (by rw [a_fault, if_pos c_1]), ht⟩) (fun _ h9 => by cases h9) dX10_fault_24
set_option maxHeartbeats 4000000 in
set_option maxRecDepth 100000 in
theorem c_X10_count (l : Launch) (D : va_G) (k : Nat → ClassId) (u : Nat → Nat) (mf : Nat → Int32) (p0 : Int32)  : Met l yX10_count (.code yX10_count cX10_count 4 (some .int) :: TB) (rmk 1) (va_Pc [.ref (u 0), .int p0] (fun U => MWH D k u mf U U.heap)) (vp_Si (fun r => r = a_count p0)) 0 0 (fun _ => False) := by
  refine Met.ofW (cc := cX10_count) (maxL := 4) (ret := (some .int)) (by decide) rfl ?_
  intro p e s m args below meth c s₁ B hml hv
  obtain ⟨rfl, hF⟩ := hv
  have hx := B.exec
  have hb := B.bytes
  have hr := B.returns
  have hT : ∀ w ∈ TB, w.before ([.ref (u 0), .int p0] : List Value).toArray s = true := fun w h => atoms_spec (ws := .code yX10_count cX10_count 4 (some .int) :: TB) B.pre w (List.mem_cons_of_mem _ h)
  have hown : s.vm.findClass RX10 = some m.cls := findClass_of_methodNamed B.named
  have S : CallFix p m c cX10_count 4 s _ TB RX10 := ⟨hx, hb, hml, hown, hT⟩
  have hP : va_P D vwCl [(u 0, .inr (10, [.int 0, .ref (u 1), .ref (u 2), .ref (u 3), .ref (u 4), .int 0, .ref (u 5), .int 0, .int 0, .int 0, .int 0, .int 0, .int 0, .int (-1), .ref (u 6), .ref (u 7), .ref (u 8), .ref (u 9), .ref (u 10), .ref (u 11), .int 0, .int 0, .int 0, .ref (u 12), .ref (u 13), .ref (u 14), .int 0, .int 0, .ref (u 15), .int 0, .ref (u 16), .int 0, .ref (u 17), .int 0, .ref (u 18), .ref (u 19), .ref (u 20), .ref (u 21)])), (u 1, .inl (k 0, 168, .inl (fun _ => 0))), (u 3, .inl (k 3, 3, .inl (fun _ => 0))), (u 18, .inl (k 0, 4, .inl mf))] s.heap := hF.1
  have hK := hF.2.1
  have hl := lv_entry ([.ref (u 0), .int p0]) (n := 4) (Nat.le_of_ble_eq_true rfl)
  rw [lg_entry_eq]
  generalize (lg_sl ([.ref (u 0), .int p0]) ++ List.replicate (4 - (lg_sl ([.ref (u 0), .int p0])).length) Slot.unset).toArray = ls at hl ⊢
  have hl : lv_has ls 4 [(0, .ref (u 0)), (1, .int p0)] := hl
  refine lv_iconst (v := 0) hx hb dX10_count_0 (by decide) ?_
  refine lv_istore_n (lv' := [(2, .int 0), (0, .ref (u 0)), (1, .int p0)]) hx hb dX10_count_1 rfl hl (by decide) rfl (fun ls hl => ?_)
  refine lv_iload_n hx hb dX10_count_2 rfl (lv_at hl 2 rfl) ?_
  by_cases c_1 : p0.toInt < 0 ∨ 9 < p0.toInt
  · skip
    refine lv_tableOut (tgt := 152) hx hb dX10_count_3 c_1 (by decide) ?_
    refine lv_iconst (v := (-1)) hx hb dX10_count_152 (by decide) ?_
    exact W.iret (v := (-1)) hx hb hr (fun t ht hW => ⟨(-1), rfl, (by rw [a_count, if_pos c_1]), ht⟩) (fun _ h9 => by cases h9) dX10_count_153
  · skip
    have x_2 : p0 = 0 ∨ p0 = 1 ∨ p0 = 2 ∨ p0 = 3 ∨ p0 = 4 ∨ p0 = 5 ∨ p0 = 6 ∨ p0 = 7 ∨ p0 = 8 ∨ p0 = 9 := by
      have q1 : ¬ p0.toInt < 0 := fun z => c_1 (Or.inl z)
      have q2 : ¬ 9 < p0.toInt := fun z => c_1 (Or.inr z)
      have q3 : p0.toInt = 0 ∨ p0.toInt = 1 ∨ p0.toInt = 2 ∨ p0.toInt = 3 ∨ p0.toInt = 4 ∨ p0.toInt = 5 ∨ p0.toInt = 6 ∨ p0.toInt = 7 ∨ p0.toInt = 8 ∨ p0.toInt = 9 := by omega
      rcases q3 with q3 | q3 | q3 | q3 | q3 | q3 | q3 | q3 | q3 | q3
      · exact Or.inl (Int32.toInt_inj.mp (q3.trans (by decide)))
      · exact Or.inr (Or.inl (Int32.toInt_inj.mp (q3.trans (by decide))))
      · exact Or.inr (Or.inr (Or.inl (Int32.toInt_inj.mp (q3.trans (by decide)))))
      · exact Or.inr (Or.inr (Or.inr (Or.inl (Int32.toInt_inj.mp (q3.trans (by decide))))))
      · exact Or.inr (Or.inr (Or.inr (Or.inr (Or.inl (Int32.toInt_inj.mp (q3.trans (by decide)))))))
      · exact Or.inr (Or.inr (Or.inr (Or.inr (Or.inr (Or.inl (Int32.toInt_inj.mp (q3.trans (by decide))))))))
      · exact Or.inr (Or.inr (Or.inr (Or.inr (Or.inr (Or.inr (Or.inl (Int32.toInt_inj.mp (q3.trans (by decide)))))))))
      · exact Or.inr (Or.inr (Or.inr (Or.inr (Or.inr (Or.inr (Or.inr (Or.inl (Int32.toInt_inj.mp (q3.trans (by decide))))))))))
      · exact Or.inr (Or.inr (Or.inr (Or.inr (Or.inr (Or.inr (Or.inr (Or.inr (Or.inl (Int32.toInt_inj.mp (q3.trans (by decide)))))))))))
      · exact Or.inr (Or.inr (Or.inr (Or.inr (Or.inr (Or.inr (Or.inr (Or.inr (Or.inr ((Int32.toInt_inj.mp (q3.trans (by decide))))))))))))
    clear c_1
    rcases x_2 with rfl | rfl | rfl | rfl | rfl | rfl | rfl | rfl | rfl | rfl
    · skip
      refine lv_tableIn (off := 53) (tgt := 56) hx hb dX10_count_3 (by decide) (by decide) (by decide +kernel) (by decide) ?_
      refine lv_aload_n hx hb dX10_count_56 rfl (lv_at hl 1 rfl) ?_
      refine va_get (D := D) (ci := 10) (v := .ref (u 1)) (C := RX10) (T := TX10) (N := 38) hx hb hT in_X10 hown hK hP 0 rfl rfl 1 (by decide) (hT _ t1263) (fun _ h9 => h9) rfl dX10_count_57 ?_
      refine lv_iconst (v := 0) hx hb dX10_count_60 (by decide) ?_
      refine va_iald hx hb hK hP 1 0 rfl rfl (by unfold vp_in; decide) dX10_count_61 ?_
      refine k_top (y := 0) rfl ?_
      exact W.iret (v := 0) hx hb hr (fun t ht hW => ⟨0, rfl, (by decide), ht⟩) (fun _ h9 => by cases h9) dX10_count_62
    · skip
      refine lv_tableIn (off := 60) (tgt := 63) hx hb dX10_count_3 (by decide) (by decide) (by decide +kernel) (by decide) ?_
      refine lv_aload_n hx hb dX10_count_63 rfl (lv_at hl 1 rfl) ?_
      refine va_get (D := D) (ci := 10) (v := .ref (u 1)) (C := RX10) (T := TX10) (N := 38) hx hb hT in_X10 hown hK hP 0 rfl rfl 1 (by decide) (hT _ t1263) (fun _ h9 => h9) rfl dX10_count_64 ?_
      refine lv_iconst (v := 2) hx hb dX10_count_67 (by decide) ?_
      refine va_iald hx hb hK hP 1 0 rfl rfl (by unfold vp_in; decide) dX10_count_68 ?_
      refine k_top (y := 0) rfl ?_
      exact W.iret (v := 0) hx hb hr (fun t ht hW => ⟨0, rfl, (by decide), ht⟩) (fun _ h9 => by cases h9) dX10_count_69
    · skip
      refine lv_tableIn (off := 67) (tgt := 70) hx hb dX10_count_3 (by decide) (by decide) (by decide +kernel) (by decide) ?_
      refine lv_aload_n hx hb dX10_count_70 rfl (lv_at hl 1 rfl) ?_
      refine va_get (D := D) (ci := 10) (v := .ref (u 1)) (C := RX10) (T := TX10) (N := 38) hx hb hT in_X10 hown hK hP 0 rfl rfl 1 (by decide) (hT _ t1263) (fun _ h9 => h9) rfl dX10_count_71 ?_
      refine lv_iconst (v := 3) hx hb dX10_count_74 (by decide) ?_
      refine va_iald hx hb hK hP 1 0 rfl rfl (by unfold vp_in; decide) dX10_count_75 ?_
      refine k_top (y := 0) rfl ?_
      exact W.iret (v := 0) hx hb hr (fun t ht hW => ⟨0, rfl, (by decide), ht⟩) (fun _ h9 => by cases h9) dX10_count_76
    · skip
      refine lv_tableIn (off := 74) (tgt := 77) hx hb dX10_count_3 (by decide) (by decide) (by decide +kernel) (by decide) ?_
      refine lv_aload_n hx hb dX10_count_77 rfl (lv_at hl 1 rfl) ?_
      refine va_get (D := D) (ci := 10) (v := .ref (u 1)) (C := RX10) (T := TX10) (N := 38) hx hb hT in_X10 hown hK hP 0 rfl rfl 1 (by decide) (hT _ t1263) (fun _ h9 => h9) rfl dX10_count_78 ?_
      refine lv_iconst (v := 4) hx hb dX10_count_81 (by decide) ?_
      refine va_iald hx hb hK hP 1 0 rfl rfl (by unfold vp_in; decide) dX10_count_82 ?_
      refine k_top (y := 0) rfl ?_
      exact W.iret (v := 0) hx hb hr (fun t ht hW => ⟨0, rfl, (by decide), ht⟩) (fun _ h9 => by cases h9) dX10_count_83
    · skip
      refine lv_tableIn (off := 81) (tgt := 84) hx hb dX10_count_3 (by decide) (by decide) (by decide +kernel) (by decide) ?_
      refine lv_aload_n hx hb dX10_count_84 rfl (lv_at hl 1 rfl) ?_
      refine va_get (D := D) (ci := 10) (v := .ref (u 1)) (C := RX10) (T := TX10) (N := 38) hx hb hT in_X10 hown hK hP 0 rfl rfl 1 (by decide) (hT _ t1263) (fun _ h9 => h9) rfl dX10_count_85 ?_
      refine lv_iconst (v := 5) hx hb dX10_count_88 (by decide) ?_
      refine va_iald hx hb hK hP 1 0 rfl rfl (by unfold vp_in; decide) dX10_count_89 ?_
      refine k_top (y := 0) rfl ?_
      exact W.iret (v := 0) hx hb hr (fun t ht hW => ⟨0, rfl, (by decide), ht⟩) (fun _ h9 => by cases h9) dX10_count_90
    · skip
      refine lv_tableIn (off := 88) (tgt := 91) hx hb dX10_count_3 (by decide) (by decide) (by decide +kernel) (by decide) ?_
      refine lv_aload_n hx hb dX10_count_91 rfl (lv_at hl 1 rfl) ?_
      refine va_get (D := D) (ci := 10) (v := .ref (u 1)) (C := RX10) (T := TX10) (N := 38) hx hb hT in_X10 hown hK hP 0 rfl rfl 1 (by decide) (hT _ t1263) (fun _ h9 => h9) rfl dX10_count_92 ?_
      refine lv_iconst (v := 1) hx hb dX10_count_95 (by decide) ?_
      refine va_iald hx hb hK hP 1 0 rfl rfl (by unfold vp_in; decide) dX10_count_96 ?_
      refine k_top (y := 0) rfl ?_
      exact W.iret (v := 0) hx hb hr (fun t ht hW => ⟨0, rfl, (by decide), ht⟩) (fun _ h9 => by cases h9) dX10_count_97
    · skip
      refine lv_tableIn (off := 95) (tgt := 98) hx hb dX10_count_3 (by decide) (by decide) (by decide +kernel) (by decide) ?_
      refine lv_aload_n hx hb dX10_count_98 rfl (lv_at hl 1 rfl) ?_
      refine va_get (D := D) (ci := 10) (v := .ref (u 1)) (C := RX10) (T := TX10) (N := 38) hx hb hT in_X10 hown hK hP 0 rfl rfl 1 (by decide) (hT _ t1263) (fun _ h9 => h9) rfl dX10_count_99 ?_
      refine lv_bipush (v := 6) hx hb dX10_count_102 (by decide) ?_
      refine va_iald hx hb hK hP 1 0 rfl rfl (by unfold vp_in; decide) dX10_count_104 ?_
      refine k_top (y := 0) rfl ?_
      exact W.iret (v := 0) hx hb hr (fun t ht hW => ⟨0, rfl, (by decide), ht⟩) (fun _ h9 => by cases h9) dX10_count_105
    · skip
      refine lv_tableIn (off := 103) (tgt := 106) hx hb dX10_count_3 (by decide) (by decide) (by decide +kernel) (by decide) ?_
      refine lv_aload_n hx hb dX10_count_106 rfl (lv_at hl 1 rfl) ?_
      refine va_get (D := D) (ci := 10) (v := .int 0) (C := RX10) (T := TX10) (N := 38) hx hb hT in_X10 hown hK hP 0 rfl rfl 5 (by decide) (hT _ t1267) (fun _ h9 => h9) rfl dX10_count_107 ?_
      exact W.iret (v := 0) hx hb hr (fun t ht hW => ⟨0, rfl, (by decide), ht⟩) (fun _ h9 => by cases h9) dX10_count_110
    · skip
      refine lv_tableIn (off := 108) (tgt := 111) hx hb dX10_count_3 (by decide) (by decide) (by decide +kernel) (by decide) ?_
      refine lv_aload_n hx hb dX10_count_111 rfl (lv_at hl 1 rfl) ?_
      refine va_get (D := D) (ci := 10) (v := .ref (u 1)) (C := RX10) (T := TX10) (N := 38) hx hb hT in_X10 hown hK hP 0 rfl rfl 1 (by decide) (hT _ t1263) (fun _ h9 => h9) rfl dX10_count_112 ?_
      refine lv_bipush (v := 7) hx hb dX10_count_115 (by decide) ?_
      refine va_iald hx hb hK hP 1 0 rfl rfl (by unfold vp_in; decide) dX10_count_117 ?_
      refine k_top (y := 0) rfl ?_
      exact W.iret (v := 0) hx hb hr (fun t ht hW => ⟨0, rfl, (by decide), ht⟩) (fun _ h9 => by cases h9) dX10_count_118
    · skip
      refine lv_tableIn (off := 116) (tgt := 119) hx hb dX10_count_3 (by decide) (by decide) (by decide +kernel) (by decide) ?_
      refine lv_iconst (v := 0) hx hb dX10_count_119 (by decide) ?_
      refine lv_istore_n (lv' := [(3, .int 0), (2, .int 0), (0, .ref (u 0)), (1, .int 9)]) hx hb dX10_count_120 rfl hl (by decide) rfl (fun ls hl => ?_)
      refine lv_iload_n hx hb dX10_count_121 rfl (lv_at hl 0 rfl) ?_
      refine lv_iconst (v := 4) hx hb dX10_count_122 (by decide) ?_
      refine lv_icmp_ge (tgt := 150) hx hb dX10_count_123 (by decide) (fun c_3 => ?_) (fun c_3 => ?_)
      · first | exact absurd c_3 (by decide) | exact absurd (by decide) c_3
      refine lv_iload_n hx hb dX10_count_126 rfl (lv_at hl 1 rfl) ?_
      refine lv_aload_n hx hb dX10_count_127 rfl (lv_at hl 2 rfl) ?_
      refine va_get (D := D) (ci := 10) (v := .ref (u 18)) (C := RX10) (T := TX10) (N := 38) hx hb hT in_X10 hown hK hP 0 rfl rfl 34 (by decide) (hT _ t1296) (fun _ h9 => h9) rfl dX10_count_128 ?_
      refine lv_iload_n hx hb dX10_count_131 rfl (lv_at hl 0 rfl) ?_
      refine va_iald hx hb hK hP 3 0 rfl rfl (by unfold vp_in; decide) dX10_count_132 ?_
      refine k_top (y := (-1)) (hF.2.2 _ (vp_in_lt (by unfold vp_in; decide))) ?_
      refine lv_iconst (v := (-1)) hx hb dX10_count_133 (by decide) ?_
      refine lv_icmp_ne (tgt := 141) hx hb dX10_count_134 (by decide) (fun c_4 => ?_) (fun c_4 => ?_)
      · first | exact absurd c_4 (by decide) | exact absurd (by decide) c_4
      refine lv_iconst (v := 0) hx hb dX10_count_137 (by decide) ?_
      refine lv_goto (tgt := 142) hx hb dX10_count_138 (by decide) ?_
      refine lv_iadd hx hb dX10_count_142 ?_
      refine k_top (y := 0) (by decide) ?_
      refine lv_istore_n (lv' := [(2, .int 0), (3, .int 0), (0, .ref (u 0)), (1, .int 9)]) hx hb dX10_count_143 rfl hl (by decide) rfl (fun ls hl => ?_)
      refine lv_iinc (v := 1) (lv' := [(3, .int 1), (2, .int 0), (0, .ref (u 0)), (1, .int 9)]) hx hb dX10_count_144 hl (k := 1) rfl (by decide) (by decide) rfl (fun ls hl => ?_)
      refine lv_goto (tgt := 121) hx hb dX10_count_147 (by decide) ?_
      refine lv_iload_n hx hb dX10_count_121 rfl (lv_at hl 0 rfl) ?_
      refine lv_iconst (v := 4) hx hb dX10_count_122 (by decide) ?_
      refine lv_icmp_ge (tgt := 150) hx hb dX10_count_123 (by decide) (fun c_5 => ?_) (fun c_5 => ?_)
      · first | exact absurd c_5 (by decide) | exact absurd (by decide) c_5
      refine lv_iload_n hx hb dX10_count_126 rfl (lv_at hl 1 rfl) ?_
      refine lv_aload_n hx hb dX10_count_127 rfl (lv_at hl 2 rfl) ?_
      refine va_get (D := D) (ci := 10) (v := .ref (u 18)) (C := RX10) (T := TX10) (N := 38) hx hb hT in_X10 hown hK hP 0 rfl rfl 34 (by decide) (hT _ t1296) (fun _ h9 => h9) rfl dX10_count_128 ?_
      refine lv_iload_n hx hb dX10_count_131 rfl (lv_at hl 0 rfl) ?_
      refine va_iald hx hb hK hP 3 0 rfl rfl (by unfold vp_in; decide) dX10_count_132 ?_
      refine k_top (y := (-1)) (hF.2.2 _ (vp_in_lt (by unfold vp_in; decide))) ?_
      refine lv_iconst (v := (-1)) hx hb dX10_count_133 (by decide) ?_
      refine lv_icmp_ne (tgt := 141) hx hb dX10_count_134 (by decide) (fun c_6 => ?_) (fun c_6 => ?_)
      · first | exact absurd c_6 (by decide) | exact absurd (by decide) c_6
      refine lv_iconst (v := 0) hx hb dX10_count_137 (by decide) ?_
      refine lv_goto (tgt := 142) hx hb dX10_count_138 (by decide) ?_
      refine lv_iadd hx hb dX10_count_142 ?_
      refine k_top (y := 0) (by decide) ?_
      refine lv_istore_n (lv' := [(2, .int 0), (3, .int 1), (0, .ref (u 0)), (1, .int 9)]) hx hb dX10_count_143 rfl hl (by decide) rfl (fun ls hl => ?_)
      refine lv_iinc (v := 2) (lv' := [(3, .int 2), (2, .int 0), (0, .ref (u 0)), (1, .int 9)]) hx hb dX10_count_144 hl (k := 1) rfl (by decide) (by decide) rfl (fun ls hl => ?_)
      refine lv_goto (tgt := 121) hx hb dX10_count_147 (by decide) ?_
      refine lv_iload_n hx hb dX10_count_121 rfl (lv_at hl 0 rfl) ?_
      refine lv_iconst (v := 4) hx hb dX10_count_122 (by decide) ?_
      refine lv_icmp_ge (tgt := 150) hx hb dX10_count_123 (by decide) (fun c_7 => ?_) (fun c_7 => ?_)
      · first | exact absurd c_7 (by decide) | exact absurd (by decide) c_7
      refine lv_iload_n hx hb dX10_count_126 rfl (lv_at hl 1 rfl) ?_
      refine lv_aload_n hx hb dX10_count_127 rfl (lv_at hl 2 rfl) ?_
      refine va_get (D := D) (ci := 10) (v := .ref (u 18)) (C := RX10) (T := TX10) (N := 38) hx hb hT in_X10 hown hK hP 0 rfl rfl 34 (by decide) (hT _ t1296) (fun _ h9 => h9) rfl dX10_count_128 ?_
      refine lv_iload_n hx hb dX10_count_131 rfl (lv_at hl 0 rfl) ?_
      refine va_iald hx hb hK hP 3 0 rfl rfl (by unfold vp_in; decide) dX10_count_132 ?_
      refine k_top (y := (-1)) (hF.2.2 _ (vp_in_lt (by unfold vp_in; decide))) ?_
      refine lv_iconst (v := (-1)) hx hb dX10_count_133 (by decide) ?_
      refine lv_icmp_ne (tgt := 141) hx hb dX10_count_134 (by decide) (fun c_8 => ?_) (fun c_8 => ?_)
      · first | exact absurd c_8 (by decide) | exact absurd (by decide) c_8
      refine lv_iconst (v := 0) hx hb dX10_count_137 (by decide) ?_
      refine lv_goto (tgt := 142) hx hb dX10_count_138 (by decide) ?_
      refine lv_iadd hx hb dX10_count_142 ?_
      refine k_top (y := 0) (by decide) ?_
      refine lv_istore_n (lv' := [(2, .int 0), (3, .int 2), (0, .ref (u 0)), (1, .int 9)]) hx hb dX10_count_143 rfl hl (by decide) rfl (fun ls hl => ?_)
      refine lv_iinc (v := 3) (lv' := [(3, .int 3), (2, .int 0), (0, .ref (u 0)), (1, .int 9)]) hx hb dX10_count_144 hl (k := 1) rfl (by decide) (by decide) rfl (fun ls hl => ?_)
      refine lv_goto (tgt := 121) hx hb dX10_count_147 (by decide) ?_
      refine lv_iload_n hx hb dX10_count_121 rfl (lv_at hl 0 rfl) ?_
      refine lv_iconst (v := 4) hx hb dX10_count_122 (by decide) ?_
      refine lv_icmp_ge (tgt := 150) hx hb dX10_count_123 (by decide) (fun c_9 => ?_) (fun c_9 => ?_)
      · first | exact absurd c_9 (by decide) | exact absurd (by decide) c_9
      refine lv_iload_n hx hb dX10_count_126 rfl (lv_at hl 1 rfl) ?_
      refine lv_aload_n hx hb dX10_count_127 rfl (lv_at hl 2 rfl) ?_
      refine va_get (D := D) (ci := 10) (v := .ref (u 18)) (C := RX10) (T := TX10) (N := 38) hx hb hT in_X10 hown hK hP 0 rfl rfl 34 (by decide) (hT _ t1296) (fun _ h9 => h9) rfl dX10_count_128 ?_
      refine lv_iload_n hx hb dX10_count_131 rfl (lv_at hl 0 rfl) ?_
      refine va_iald hx hb hK hP 3 0 rfl rfl (by unfold vp_in; decide) dX10_count_132 ?_
      refine k_top (y := (-1)) (hF.2.2 _ (vp_in_lt (by unfold vp_in; decide))) ?_
      refine lv_iconst (v := (-1)) hx hb dX10_count_133 (by decide) ?_
      refine lv_icmp_ne (tgt := 141) hx hb dX10_count_134 (by decide) (fun c_10 => ?_) (fun c_10 => ?_)
      · first | exact absurd c_10 (by decide) | exact absurd (by decide) c_10
      refine lv_iconst (v := 0) hx hb dX10_count_137 (by decide) ?_
      refine lv_goto (tgt := 142) hx hb dX10_count_138 (by decide) ?_
      refine lv_iadd hx hb dX10_count_142 ?_
      refine k_top (y := 0) (by decide) ?_
      refine lv_istore_n (lv' := [(2, .int 0), (3, .int 3), (0, .ref (u 0)), (1, .int 9)]) hx hb dX10_count_143 rfl hl (by decide) rfl (fun ls hl => ?_)
      refine lv_iinc (v := 4) (lv' := [(3, .int 4), (2, .int 0), (0, .ref (u 0)), (1, .int 9)]) hx hb dX10_count_144 hl (k := 1) rfl (by decide) (by decide) rfl (fun ls hl => ?_)
      refine lv_goto (tgt := 121) hx hb dX10_count_147 (by decide) ?_
      refine lv_iload_n hx hb dX10_count_121 rfl (lv_at hl 0 rfl) ?_
      refine lv_iconst (v := 4) hx hb dX10_count_122 (by decide) ?_
      refine lv_icmp_ge (tgt := 150) hx hb dX10_count_123 (by decide) (fun c_11 => ?_) (fun c_11 => ?_)
      rotate_left
      · first | exact absurd c_11 (by decide) | exact absurd (by decide) c_11
      refine lv_iload_n hx hb dX10_count_150 rfl (lv_at hl 1 rfl) ?_
      exact W.iret (v := 0) hx hb hr (fun t ht hW => ⟨0, rfl, (by decide), ht⟩) (fun _ h9 => by cases h9) dX10_count_151
set_option maxHeartbeats 4000000 in
set_option maxRecDepth 100000 in
theorem c_X10_back (l : Launch) (D : va_G) (k : Nat → ClassId) (u : Nat → Nat) (mf : Nat → Int32) (p0 : Int32)  : Met l yX10_back (.code yX10_back cX10_back 3 (some .int) :: TB) (rmk 2) (va_Pc [.ref (u 0), .int p0] (fun U => MWH D k u mf U U.heap)) (vp_Si (fun r => r = a_back p0)) 0 0 (fun _ => False) := by
  refine Met.ofW (cc := cX10_back) (maxL := 3) (ret := (some .int)) (by decide) rfl ?_
  intro p e s m args below meth c s₁ B hml hv
  obtain ⟨rfl, hF⟩ := hv
  have hx := B.exec
  have hb := B.bytes
  have hr := B.returns
  have hT : ∀ w ∈ TB, w.before ([.ref (u 0), .int p0] : List Value).toArray s = true := fun w h => atoms_spec (ws := .code yX10_back cX10_back 3 (some .int) :: TB) B.pre w (List.mem_cons_of_mem _ h)
  have hown : s.vm.findClass RX10 = some m.cls := findClass_of_methodNamed B.named
  have S : CallFix p m c cX10_back 3 s _ TB RX10 := ⟨hx, hb, hml, hown, hT⟩
  have hP : va_P D vwCl [(u 0, .inr (10, [.int 0, .ref (u 1), .ref (u 2), .ref (u 3), .ref (u 4), .int 0, .ref (u 5), .int 0, .int 0, .int 0, .int 0, .int 0, .int 0, .int (-1), .ref (u 6), .ref (u 7), .ref (u 8), .ref (u 9), .ref (u 10), .ref (u 11), .int 0, .int 0, .int 0, .ref (u 12), .ref (u 13), .ref (u 14), .int 0, .int 0, .ref (u 15), .int 0, .ref (u 16), .int 0, .ref (u 17), .int 0, .ref (u 18), .ref (u 19), .ref (u 20), .ref (u 21)])), (u 1, .inl (k 0, 168, .inl (fun _ => 0))), (u 3, .inl (k 3, 3, .inl (fun _ => 0))), (u 18, .inl (k 0, 4, .inl mf))] s.heap := hF.1
  have hK := hF.2.1
  have hl := lv_entry ([.ref (u 0), .int p0]) (n := 3) (Nat.le_of_ble_eq_true rfl)
  rw [lg_entry_eq]
  generalize (lg_sl ([.ref (u 0), .int p0]) ++ List.replicate (3 - (lg_sl ([.ref (u 0), .int p0])).length) Slot.unset).toArray = ls at hl ⊢
  have hl : lv_has ls 3 [(0, .ref (u 0)), (1, .int p0)] := hl
  refine lv_iload_n hx hb dX10_back_0 rfl (lv_at hl 1 rfl) ?_
  refine lv_i2l (v := p0.toInt64) hx hb dX10_back_1 rfl ?_
  refine lv_lconst (v := 0) hx hb dX10_back_2 (by decide) ?_
  refine lv_ldc2 (v := 2) hx hb hown (hT _ t1381) dX10_back_3 ?_
  refine ro_S (As := [.long p0.toInt64, .long 0, .long 2]) (rest := []) S (c_X10_in l D k u mf p0.toInt64 0 2) lkX10_85 ok_X10_in ⟨rfl, rfl, Nat.le_of_ble_eq_true rfl, Nat.le_of_ble_eq_true rfl⟩ (mw_S hF) rfl hl.1 rfl (Nat.le_of_ble_eq_true rfl) ⟨Nat.zero_le _, Nat.zero_le _⟩ dX10_back_6 (fun r_1 er_1 => ?_)
  rcases er_1 with ⟨er_1, gr_1⟩ | ⟨er_1, gr_1⟩
  · subst er_1
    refine lv_if_ne (tgt := 15) hx hb dX10_back_9 (by decide) (fun c_2 => ?_) (fun c_2 => ?_)
    rotate_left
    · first | exact absurd c_2 (by decide) | exact absurd (by decide) c_2
    refine lv_aload_n hx hb dX10_back_15 rfl (lv_at hl 0 rfl) ?_
    refine va_get (D := D) (ci := 10) (v := .ref (u 3)) (C := RX10) (T := TX10) (N := 38) hx hb hT in_X10 hown hK hP 0 rfl rfl 3 (by decide) (hT _ t1265) (fun _ h9 => h9) rfl dX10_back_16 ?_
    refine lv_iload_n hx hb dX10_back_19 rfl (lv_at hl 1 rfl) ?_
    refine va_zald hx hb hK hP 2 3 rfl rfl (i32_in 3 rfl (in3_of gr_1).1 (in3_of gr_1).2) dX10_back_20 ?_
    refine k_top (y := 0) rfl ?_
    refine lv_if_ne (tgt := 27) hx hb dX10_back_21 (by decide) (fun c_3 => ?_) (fun c_3 => ?_)
    · first | exact absurd c_3 (by decide) | exact absurd (by decide) c_3
    refine lv_bipush (v := (-6)) hx hb dX10_back_24 (by decide) ?_
    exact W.iret (v := (-6)) hx hb hr (fun t ht hW => ⟨(-6), rfl, (by rw [a_back, if_neg (fun z => z.elim (in3_of gr_1).1 (Int32.not_le.mpr (in3_of gr_1).2))]), ht⟩) (fun _ h9 => by cases h9) dX10_back_26
  · subst er_1
    refine lv_if_ne (tgt := 15) hx hb dX10_back_9 (by decide) (fun c_4 => ?_) (fun c_4 => ?_)
    · first | exact absurd c_4 (by decide) | exact absurd (by decide) c_4
    refine lv_bipush (v := (-2)) hx hb dX10_back_12 (by decide) ?_
    exact W.iret (v := (-2)) hx hb hr (fun t ht hW => ⟨(-2), rfl, (by rw [a_back, if_pos (out3_of gr_1)]), ht⟩) (fun _ h9 => by cases h9) dX10_back_14
set_option maxHeartbeats 4000000 in
set_option maxRecDepth 100000 in
theorem c_X10_write (l : Launch) (D : va_G) (k : Nat → ClassId) (u : Nat → Nat) (mf : Nat → Int32) (p0 : Int32) (p1 : Int32) (p2 : Int64)  : Met l yX10_write (.code yX10_write cX10_write 5 (some .int) :: TB) (rmk 3) (va_Pc [.ref (u 0), .int p0, .int p1, .long p2] (fun U => MWH D k u mf U U.heap)) (vp_Si (fun r => r = a_slot p0)) 0 0 (fun _ => False) := by
  refine Met.ofW (cc := cX10_write) (maxL := 5) (ret := (some .int)) (by decide) rfl ?_
  intro p e s m args below meth c s₁ B hml hv
  obtain ⟨rfl, hF⟩ := hv
  have hx := B.exec
  have hb := B.bytes
  have hr := B.returns
  have hT : ∀ w ∈ TB, w.before ([.ref (u 0), .int p0, .int p1, .long p2] : List Value).toArray s = true := fun w h => atoms_spec (ws := .code yX10_write cX10_write 5 (some .int) :: TB) B.pre w (List.mem_cons_of_mem _ h)
  have hown : s.vm.findClass RX10 = some m.cls := findClass_of_methodNamed B.named
  have S : CallFix p m c cX10_write 5 s _ TB RX10 := ⟨hx, hb, hml, hown, hT⟩
  have hP : va_P D vwCl [(u 0, .inr (10, [.int 0, .ref (u 1), .ref (u 2), .ref (u 3), .ref (u 4), .int 0, .ref (u 5), .int 0, .int 0, .int 0, .int 0, .int 0, .int 0, .int (-1), .ref (u 6), .ref (u 7), .ref (u 8), .ref (u 9), .ref (u 10), .ref (u 11), .int 0, .int 0, .int 0, .ref (u 12), .ref (u 13), .ref (u 14), .int 0, .int 0, .ref (u 15), .int 0, .ref (u 16), .int 0, .ref (u 17), .int 0, .ref (u 18), .ref (u 19), .ref (u 20), .ref (u 21)])), (u 1, .inl (k 0, 168, .inl (fun _ => 0))), (u 3, .inl (k 3, 3, .inl (fun _ => 0))), (u 18, .inl (k 0, 4, .inl mf))] s.heap := hF.1
  have hK := hF.2.1
  have hl := lv_entry ([.ref (u 0), .int p0, .int p1, .long p2]) (n := 5) (Nat.le_of_ble_eq_true rfl)
  rw [lg_entry_eq]
  generalize (lg_sl ([.ref (u 0), .int p0, .int p1, .long p2]) ++ List.replicate (5 - (lg_sl ([.ref (u 0), .int p0, .int p1, .long p2])).length) Slot.unset).toArray = ls at hl ⊢
  have hl : lv_has ls 5 [(0, .ref (u 0)), (1, .int p0), (2, .int p1), (3, .long p2)] := hl
  refine lv_iload_n hx hb dX10_write_0 rfl (lv_at hl 1 rfl) ?_
  refine ro_S (As := [.int p0]) (rest := []) S (c_X10_isSlot l D k u mf p0) lkX10_300 ok_X10_isSlot ⟨rfl, rfl, Nat.le_of_ble_eq_true rfl, Nat.le_of_ble_eq_true rfl⟩ (mw_S hF) rfl hl.1 rfl (Nat.le_of_ble_eq_true rfl) ⟨Nat.zero_le _, Nat.zero_le _⟩ dX10_write_1 (fun r_1 er_1 => ?_)
  rcases er_1 with ⟨er_1, gr_1⟩ | ⟨er_1, gr_1⟩
  · subst er_1
    refine lv_if_ne (tgt := 10) hx hb dX10_write_4 (by decide) (fun c_2 => ?_) (fun c_2 => ?_)
    rotate_left
    · first | exact absurd c_2 (by decide) | exact absurd (by decide) c_2
    refine lv_aload_n hx hb dX10_write_10 rfl (lv_at hl 0 rfl) ?_
    refine va_get (D := D) (ci := 10) (v := .ref (u 18)) (C := RX10) (T := TX10) (N := 38) hx hb hT in_X10 hown hK hP 0 rfl rfl 34 (by decide) (hT _ t1296) (fun _ h9 => h9) rfl dX10_write_11 ?_
    refine lv_iload_n hx hb dX10_write_14 rfl (lv_at hl 1 rfl) ?_
    refine va_iald hx hb hK hP 3 0 rfl rfl (in4_vp gr_1) dX10_write_15 ?_
    refine k_top (y := (-1)) (hF.2.2 _ (vp_in_lt (in4_vp gr_1))) ?_
    refine lv_iconst (v := (-1)) hx hb dX10_write_16 (by decide) ?_
    refine lv_icmp_ne (tgt := 23) hx hb dX10_write_17 (by decide) (fun c_3 => ?_) (fun c_3 => ?_)
    · first | exact absurd c_3 (by decide) | exact absurd (by decide) c_3
    refine lv_bipush (v := (-6)) hx hb dX10_write_20 (by decide) ?_
    exact W.iret (v := (-6)) hx hb hr (fun t ht hW => ⟨(-6), rfl, (by rw [a_slot, if_neg (fun z => z.elim gr_1.1 (Int32.not_le.mpr gr_1.2))]), ht⟩) (fun _ h9 => by cases h9) dX10_write_22
  · subst er_1
    refine lv_if_ne (tgt := 10) hx hb dX10_write_4 (by decide) (fun c_4 => ?_) (fun c_4 => ?_)
    · first | exact absurd c_4 (by decide) | exact absurd (by decide) c_4
    refine lv_bipush (v := (-2)) hx hb dX10_write_7 (by decide) ?_
    exact W.iret (v := (-2)) hx hb hr (fun t ht hW => ⟨(-2), rfl, (by rw [a_slot, if_pos gr_1]), ht⟩) (fun _ h9 => by cases h9) dX10_write_9
set_option maxHeartbeats 4000000 in
set_option maxRecDepth 100000 in
theorem c_X10_paste (l : Launch) (D : va_G) (k : Nat → ClassId) (u : Nat → Nat) (mf : Nat → Int32) (p0 : Int32) (p1 : Int32) (p2 : Int32) (p3 : Int32) (p4 : Int32)  : Met l yX10_paste (.code yX10_paste cX10_paste 7 (some .int) :: TB) (rmk 3) (va_Pc [.ref (u 0), .int p0, .int p1, .int p2, .int p3, .int p4] (fun U => MWH D k u mf U U.heap)) (vp_Si (fun r => r = a_two p0 p2)) 0 0 (fun _ => False) := by
  refine Met.ofW (cc := cX10_paste) (maxL := 7) (ret := (some .int)) (by decide) rfl ?_
  intro p e s m args below meth c s₁ B hml hv
  obtain ⟨rfl, hF⟩ := hv
  have hx := B.exec
  have hb := B.bytes
  have hr := B.returns
  have hT : ∀ w ∈ TB, w.before ([.ref (u 0), .int p0, .int p1, .int p2, .int p3, .int p4] : List Value).toArray s = true := fun w h => atoms_spec (ws := .code yX10_paste cX10_paste 7 (some .int) :: TB) B.pre w (List.mem_cons_of_mem _ h)
  have hown : s.vm.findClass RX10 = some m.cls := findClass_of_methodNamed B.named
  have S : CallFix p m c cX10_paste 7 s _ TB RX10 := ⟨hx, hb, hml, hown, hT⟩
  have hP : va_P D vwCl [(u 0, .inr (10, [.int 0, .ref (u 1), .ref (u 2), .ref (u 3), .ref (u 4), .int 0, .ref (u 5), .int 0, .int 0, .int 0, .int 0, .int 0, .int 0, .int (-1), .ref (u 6), .ref (u 7), .ref (u 8), .ref (u 9), .ref (u 10), .ref (u 11), .int 0, .int 0, .int 0, .ref (u 12), .ref (u 13), .ref (u 14), .int 0, .int 0, .ref (u 15), .int 0, .ref (u 16), .int 0, .ref (u 17), .int 0, .ref (u 18), .ref (u 19), .ref (u 20), .ref (u 21)])), (u 1, .inl (k 0, 168, .inl (fun _ => 0))), (u 3, .inl (k 3, 3, .inl (fun _ => 0))), (u 18, .inl (k 0, 4, .inl mf))] s.heap := hF.1
  have hK := hF.2.1
  have hl := lv_entry ([.ref (u 0), .int p0, .int p1, .int p2, .int p3, .int p4]) (n := 7) (Nat.le_of_ble_eq_true rfl)
  rw [lg_entry_eq]
  generalize (lg_sl ([.ref (u 0), .int p0, .int p1, .int p2, .int p3, .int p4]) ++ List.replicate (7 - (lg_sl ([.ref (u 0), .int p0, .int p1, .int p2, .int p3, .int p4])).length) Slot.unset).toArray = ls at hl ⊢
  have hl : lv_has ls 7 [(0, .ref (u 0)), (1, .int p0), (2, .int p1), (3, .int p2), (4, .int p3), (5, .int p4)] := hl
  refine lv_iload_n hx hb dX10_paste_0 rfl (lv_at hl 1 rfl) ?_
  refine ro_S (As := [.int p0]) (rest := []) S (c_X10_isSlot l D k u mf p0) lkX10_300 ok_X10_isSlot ⟨rfl, rfl, Nat.le_of_ble_eq_true rfl, Nat.le_of_ble_eq_true rfl⟩ (mw_S hF) rfl hl.1 rfl (Nat.le_of_ble_eq_true rfl) ⟨Nat.zero_le _, Nat.zero_le _⟩ dX10_paste_1 (fun r_1 er_1 => ?_)
  rcases er_1 with ⟨er_1, gr_1⟩ | ⟨er_1, gr_1⟩
  · subst er_1
    refine lv_if_eq (tgt := 14) hx hb dX10_paste_4 (by decide) (fun c_2 => ?_) (fun c_2 => ?_)
    · first | exact absurd c_2 (by decide) | exact absurd (by decide) c_2
    refine lv_iload_n hx hb dX10_paste_7 rfl (lv_at hl 3 rfl) ?_
    refine ro_S (As := [.int p2]) (rest := []) S (c_X10_isSlot l D k u mf p2) lkX10_300 ok_X10_isSlot ⟨rfl, rfl, Nat.le_of_ble_eq_true rfl, Nat.le_of_ble_eq_true rfl⟩ (mw_S hF) rfl hl.1 rfl (Nat.le_of_ble_eq_true rfl) ⟨Nat.zero_le _, Nat.zero_le _⟩ dX10_paste_8 (fun r_3 er_3 => ?_)
    rcases er_3 with ⟨er_3, gr_3⟩ | ⟨er_3, gr_3⟩
    · subst er_3
      refine lv_if_ne (tgt := 17) hx hb dX10_paste_11 (by decide) (fun c_4 => ?_) (fun c_4 => ?_)
      rotate_left
      · first | exact absurd c_4 (by decide) | exact absurd (by decide) c_4
      refine lv_aload_n hx hb dX10_paste_17 rfl (lv_at hl 0 rfl) ?_
      refine va_get (D := D) (ci := 10) (v := .ref (u 18)) (C := RX10) (T := TX10) (N := 38) hx hb hT in_X10 hown hK hP 0 rfl rfl 34 (by decide) (hT _ t1296) (fun _ h9 => h9) rfl dX10_paste_18 ?_
      refine lv_iload_n hx hb dX10_paste_21 rfl (lv_at hl 1 rfl) ?_
      refine va_iald hx hb hK hP 3 0 rfl rfl (in4_vp gr_1) dX10_paste_22 ?_
      refine k_top (y := (-1)) (hF.2.2 _ (vp_in_lt (in4_vp gr_1))) ?_
      refine lv_iconst (v := (-1)) hx hb dX10_paste_23 (by decide) ?_
      refine lv_icmp_eq (tgt := 37) hx hb dX10_paste_24 (by decide) (fun c_5 => ?_) (fun c_5 => ?_)
      rotate_left
      · first | exact absurd c_5 (by decide) | exact absurd (by decide) c_5
      refine lv_bipush (v := (-6)) hx hb dX10_paste_37 (by decide) ?_
      exact W.iret (v := (-6)) hx hb hr (fun t ht hW => ⟨(-6), rfl, (by rw [a_two, if_neg (fun z => z.elim (fun z => z.elim gr_1.1 (Int32.not_le.mpr gr_1.2)) (fun z => z.elim gr_3.1 (Int32.not_le.mpr gr_3.2)))]), ht⟩) (fun _ h9 => by cases h9) dX10_paste_39
    · subst er_3
      refine lv_if_ne (tgt := 17) hx hb dX10_paste_11 (by decide) (fun c_6 => ?_) (fun c_6 => ?_)
      · first | exact absurd c_6 (by decide) | exact absurd (by decide) c_6
      refine lv_bipush (v := (-2)) hx hb dX10_paste_14 (by decide) ?_
      exact W.iret (v := (-2)) hx hb hr (fun t ht hW => ⟨(-2), rfl, (by rw [a_two, if_pos (Or.inr gr_3)]), ht⟩) (fun _ h9 => by cases h9) dX10_paste_16
  · subst er_1
    refine lv_if_eq (tgt := 14) hx hb dX10_paste_4 (by decide) (fun c_7 => ?_) (fun c_7 => ?_)
    rotate_left
    · first | exact absurd c_7 (by decide) | exact absurd (by decide) c_7
    refine lv_bipush (v := (-2)) hx hb dX10_paste_14 (by decide) ?_
    exact W.iret (v := (-2)) hx hb hr (fun t ht hW => ⟨(-2), rfl, (by rw [a_two, if_pos (Or.inl gr_1)]), ht⟩) (fun _ h9 => by cases h9) dX10_paste_16
