set_option maxHeartbeats 4000000 in
set_option maxRecDepth 100000 in
theorem c_X9_haunts (l : Launch) (D : va_G) (k : Nat → ClassId) (q : Nat → Nat) (wf : Nat → Int32) (p0 : Int32)  : Met l yX9_haunts (.code yX9_haunts cX9_haunts 4 (some .int) :: TB) (rmk 2) (va_Pc [.ref (q 0), .int p0] (fun U => FWH D k q wf U U.heap)) (vp_Si (fun r => r = (-2))) 0 0 (fun _ => False) := by
  refine Met.ofW (cc := cX9_haunts) (maxL := 4) (ret := (some .int)) (by decide) rfl ?_
  intro p e s m args below meth c s₁ B hml hv
  obtain ⟨rfl, hF⟩ := hv
  have hx := B.exec
  have hb := B.bytes
  have hr := B.returns
  have hT : ∀ w ∈ TB, w.before ([.ref (q 0), .int p0] : List Value).toArray s = true := fun w h => atoms_spec (ws := .code yX9_haunts cX9_haunts 4 (some .int) :: TB) B.pre w (List.mem_cons_of_mem _ h)
  have hown : s.vm.findClass RX9 = some m.cls := findClass_of_methodNamed B.named
  have S : CallFix p m c cX9_haunts 4 s _ TB RX9 := ⟨hx, hb, hml, hown, hT⟩
  have hP : va_P D vwCl [(q 0, .inr (9, [.ref (q 1), .ref (q 2), .ref (q 3), .ref (q 4), .ref (q 5), .ref (q 6), .ref (q 7), .ref (q 8), .ref (q 9), .ref (q 10), .ref (q 11)])), (q 3, .inr (8, [.ref (q 12), .ref (q 13), .int 0, .ref (q 14), .ref (q 15), .ref (q 16)])), (q 12, .inr (1, [.int 0, .int 0, .int 0, .int 0, .int 0, .int 0, .int 0, .ref (q 17), .ref (q 18), .ref (q 19), .ref (q 20), .ref (q 21), .ref (q 22), .ref (q 23)])), (q 6, .inr (4, [.ref (q 24), .ref (q 25), .ref (q 26)])), (q 24, .inl (k 0, 4, .inl wf)), (q 5, .inl (k 3, 3, .inl (fun _ => 0))), (q 1, .inr (6, [.ref (q 27), .int 0])), (q 2, .inr (2, [.ref (q 1), .ref (q 28), .int 0, .int (-1), .int 0, .int 0, .int 0, .int 0]))] s.heap := hF.1
  have hK := hF.2.1
  have hl := lv_entry ([.ref (q 0), .int p0]) (n := 4) (Nat.le_of_ble_eq_true rfl)
  rw [lg_entry_eq]
  generalize (lg_sl ([.ref (q 0), .int p0]) ++ List.replicate (4 - (lg_sl ([.ref (q 0), .int p0])).length) Slot.unset).toArray = ls at hl ⊢
  have hl : lv_has ls 4 [(0, .ref (q 0)), (1, .int p0)] := hl
  refine lv_aload_n hx hb dX9_haunts_0 rfl (lv_at hl 0 rfl) ?_
  refine va_get (D := D) (ci := 9) (v := .ref (q 3)) (C := RX9) (T := TX9) (N := 11) hx hb hT in_X9 hown hK hP 0 rfl rfl 2 (by decide) (hT _ t453) (fun _ h9 => h9) rfl dX9_haunts_1 ?_
  refine va_get (D := D) (ci := 8) (v := .ref (q 12)) (C := RX8) (T := TX8) (N := 6) hx hb hT in_X8 hown hK hP 1 rfl rfl 0 (by decide) (hT _ t312) (fun _ h9 => h9) rfl dX9_haunts_4 ?_
  refine lv_iload_n hx hb dX9_haunts_7 rfl (lv_at hl 1 rfl) ?_
  refine ro_V (As := [.int p0]) (rest := []) S (c_X1_isCart l D k q wf p0) lkX9_147 ok_X1_isCart ⟨rfl, rfl, Nat.le_of_ble_eq_true rfl, Nat.le_of_ble_eq_true rfl⟩ (fw_V (ci := 1) (q0 := 2) hF rfl rfl) rfl hl.1 rfl (Nat.le_of_ble_eq_true rfl) ⟨Nat.zero_le _, Nat.zero_le _⟩ dX9_haunts_8 (fun r_1 er_1 => ?_)
  subst er_1
  refine lv_if_ne (tgt := 17) hx hb dX9_haunts_11 (by decide) (fun c_2 => ?_) (fun c_2 => ?_)
  · first | exact absurd c_2 (by decide) | exact absurd (by decide) c_2
  refine lv_bipush (v := (-2)) hx hb dX9_haunts_14 (by decide) ?_
  exact W.iret (v := (-2)) hx hb hr (fun t ht hW => ⟨(-2), rfl, rfl, ht⟩) (fun _ h9 => by cases h9) dX9_haunts_16
set_option maxHeartbeats 4000000 in
set_option maxRecDepth 100000 in
theorem c_X9_meet (l : Launch) (D : va_G) (k : Nat → ClassId) (q : Nat → Nat) (wf : Nat → Int32) (p0 : Int32) (p1 : Int32)  : Met l yX9_meet (.code yX9_meet cX9_meet 3 (some .int) :: TB) (rmk 2) (va_Pc [.ref (q 0), .int p0, .int p1] (fun U => FWH D k q wf U U.heap)) (vp_Si (fun r => r = (-2))) 0 0 (fun _ => False) := by
  refine Met.ofW (cc := cX9_meet) (maxL := 3) (ret := (some .int)) (by decide) rfl ?_
  intro p e s m args below meth c s₁ B hml hv
  obtain ⟨rfl, hF⟩ := hv
  have hx := B.exec
  have hb := B.bytes
  have hr := B.returns
  have hT : ∀ w ∈ TB, w.before ([.ref (q 0), .int p0, .int p1] : List Value).toArray s = true := fun w h => atoms_spec (ws := .code yX9_meet cX9_meet 3 (some .int) :: TB) B.pre w (List.mem_cons_of_mem _ h)
  have hown : s.vm.findClass RX9 = some m.cls := findClass_of_methodNamed B.named
  have S : CallFix p m c cX9_meet 3 s _ TB RX9 := ⟨hx, hb, hml, hown, hT⟩
  have hP : va_P D vwCl [(q 0, .inr (9, [.ref (q 1), .ref (q 2), .ref (q 3), .ref (q 4), .ref (q 5), .ref (q 6), .ref (q 7), .ref (q 8), .ref (q 9), .ref (q 10), .ref (q 11)])), (q 3, .inr (8, [.ref (q 12), .ref (q 13), .int 0, .ref (q 14), .ref (q 15), .ref (q 16)])), (q 12, .inr (1, [.int 0, .int 0, .int 0, .int 0, .int 0, .int 0, .int 0, .ref (q 17), .ref (q 18), .ref (q 19), .ref (q 20), .ref (q 21), .ref (q 22), .ref (q 23)])), (q 6, .inr (4, [.ref (q 24), .ref (q 25), .ref (q 26)])), (q 24, .inl (k 0, 4, .inl wf)), (q 5, .inl (k 3, 3, .inl (fun _ => 0))), (q 1, .inr (6, [.ref (q 27), .int 0])), (q 2, .inr (2, [.ref (q 1), .ref (q 28), .int 0, .int (-1), .int 0, .int 0, .int 0, .int 0]))] s.heap := hF.1
  have hK := hF.2.1
  have hl := lv_entry ([.ref (q 0), .int p0, .int p1]) (n := 3) (Nat.le_of_ble_eq_true rfl)
  rw [lg_entry_eq]
  generalize (lg_sl ([.ref (q 0), .int p0, .int p1]) ++ List.replicate (3 - (lg_sl ([.ref (q 0), .int p0, .int p1])).length) Slot.unset).toArray = ls at hl ⊢
  have hl : lv_has ls 3 [(0, .ref (q 0)), (1, .int p0), (2, .int p1)] := hl
  refine lv_aload_n hx hb dX9_meet_0 rfl (lv_at hl 0 rfl) ?_
  refine va_get (D := D) (ci := 9) (v := .ref (q 3)) (C := RX9) (T := TX9) (N := 11) hx hb hT in_X9 hown hK hP 0 rfl rfl 2 (by decide) (hT _ t453) (fun _ h9 => h9) rfl dX9_meet_1 ?_
  refine va_get (D := D) (ci := 8) (v := .ref (q 12)) (C := RX8) (T := TX8) (N := 6) hx hb hT in_X8 hown hK hP 1 rfl rfl 0 (by decide) (hT _ t312) (fun _ h9 => h9) rfl dX9_meet_4 ?_
  refine lv_iload_n hx hb dX9_meet_7 rfl (lv_at hl 1 rfl) ?_
  refine ro_V (As := [.int p0]) (rest := []) S (c_X1_isCart l D k q wf p0) lkX9_147 ok_X1_isCart ⟨rfl, rfl, Nat.le_of_ble_eq_true rfl, Nat.le_of_ble_eq_true rfl⟩ (fw_V (ci := 1) (q0 := 2) hF rfl rfl) rfl hl.1 rfl (Nat.le_of_ble_eq_true rfl) ⟨Nat.zero_le _, Nat.zero_le _⟩ dX9_meet_8 (fun r_1 er_1 => ?_)
  subst er_1
  refine lv_if_eq (tgt := 28) hx hb dX9_meet_11 (by decide) (fun c_2 => ?_) (fun c_2 => ?_)
  rotate_left
  · first | exact absurd c_2 (by decide) | exact absurd (by decide) c_2
  refine lv_bipush (v := (-2)) hx hb dX9_meet_28 (by decide) ?_
  exact W.iret (v := (-2)) hx hb hr (fun t ht hW => ⟨(-2), rfl, rfl, ht⟩) (fun _ h9 => by cases h9) dX9_meet_30
set_option maxHeartbeats 4000000 in
set_option maxRecDepth 100000 in
theorem c_X9_met (l : Launch) (D : va_G) (k : Nat → ClassId) (q : Nat → Nat) (wf : Nat → Int32) (p0 : Int32) (p1 : Int32)  : Met l yX9_met (.code yX9_met cX9_met 3 (some .int) :: TB) (rmk 2) (va_Pc [.ref (q 0), .int p0, .int p1] (fun U => FWH D k q wf U U.heap)) (vp_Si (fun r => r = (-2))) 0 0 (fun _ => False) := by
  refine Met.ofW (cc := cX9_met) (maxL := 3) (ret := (some .int)) (by decide) rfl ?_
  intro p e s m args below meth c s₁ B hml hv
  obtain ⟨rfl, hF⟩ := hv
  have hx := B.exec
  have hb := B.bytes
  have hr := B.returns
  have hT : ∀ w ∈ TB, w.before ([.ref (q 0), .int p0, .int p1] : List Value).toArray s = true := fun w h => atoms_spec (ws := .code yX9_met cX9_met 3 (some .int) :: TB) B.pre w (List.mem_cons_of_mem _ h)
  have hown : s.vm.findClass RX9 = some m.cls := findClass_of_methodNamed B.named
  have S : CallFix p m c cX9_met 3 s _ TB RX9 := ⟨hx, hb, hml, hown, hT⟩
  have hP : va_P D vwCl [(q 0, .inr (9, [.ref (q 1), .ref (q 2), .ref (q 3), .ref (q 4), .ref (q 5), .ref (q 6), .ref (q 7), .ref (q 8), .ref (q 9), .ref (q 10), .ref (q 11)])), (q 3, .inr (8, [.ref (q 12), .ref (q 13), .int 0, .ref (q 14), .ref (q 15), .ref (q 16)])), (q 12, .inr (1, [.int 0, .int 0, .int 0, .int 0, .int 0, .int 0, .int 0, .ref (q 17), .ref (q 18), .ref (q 19), .ref (q 20), .ref (q 21), .ref (q 22), .ref (q 23)])), (q 6, .inr (4, [.ref (q 24), .ref (q 25), .ref (q 26)])), (q 24, .inl (k 0, 4, .inl wf)), (q 5, .inl (k 3, 3, .inl (fun _ => 0))), (q 1, .inr (6, [.ref (q 27), .int 0])), (q 2, .inr (2, [.ref (q 1), .ref (q 28), .int 0, .int (-1), .int 0, .int 0, .int 0, .int 0]))] s.heap := hF.1
  have hK := hF.2.1
  have hl := lv_entry ([.ref (q 0), .int p0, .int p1]) (n := 3) (Nat.le_of_ble_eq_true rfl)
  rw [lg_entry_eq]
  generalize (lg_sl ([.ref (q 0), .int p0, .int p1]) ++ List.replicate (3 - (lg_sl ([.ref (q 0), .int p0, .int p1])).length) Slot.unset).toArray = ls at hl ⊢
  have hl : lv_has ls 3 [(0, .ref (q 0)), (1, .int p0), (2, .int p1)] := hl
  refine lv_aload_n hx hb dX9_met_0 rfl (lv_at hl 0 rfl) ?_
  refine va_get (D := D) (ci := 9) (v := .ref (q 3)) (C := RX9) (T := TX9) (N := 11) hx hb hT in_X9 hown hK hP 0 rfl rfl 2 (by decide) (hT _ t453) (fun _ h9 => h9) rfl dX9_met_1 ?_
  refine va_get (D := D) (ci := 8) (v := .ref (q 12)) (C := RX8) (T := TX8) (N := 6) hx hb hT in_X8 hown hK hP 1 rfl rfl 0 (by decide) (hT _ t312) (fun _ h9 => h9) rfl dX9_met_4 ?_
  refine lv_iload_n hx hb dX9_met_7 rfl (lv_at hl 1 rfl) ?_
  refine ro_V (As := [.int p0]) (rest := []) S (c_X1_isCart l D k q wf p0) lkX9_147 ok_X1_isCart ⟨rfl, rfl, Nat.le_of_ble_eq_true rfl, Nat.le_of_ble_eq_true rfl⟩ (fw_V (ci := 1) (q0 := 2) hF rfl rfl) rfl hl.1 rfl (Nat.le_of_ble_eq_true rfl) ⟨Nat.zero_le _, Nat.zero_le _⟩ dX9_met_8 (fun r_1 er_1 => ?_)
  subst er_1
  refine lv_if_eq (tgt := 28) hx hb dX9_met_11 (by decide) (fun c_2 => ?_) (fun c_2 => ?_)
  rotate_left
  · first | exact absurd c_2 (by decide) | exact absurd (by decide) c_2
  refine lv_bipush (v := (-2)) hx hb dX9_met_28 (by decide) ?_
  exact W.iret (v := (-2)) hx hb hr (fun t ht hW => ⟨(-2), rfl, rfl, ht⟩) (fun _ h9 => by cases h9) dX9_met_30
set_option maxHeartbeats 4000000 in
set_option maxRecDepth 100000 in
theorem c_X9_votes (l : Launch) (D : va_G) (k : Nat → ClassId) (q : Nat → Nat) (wf : Nat → Int32) (p0 : Int32) (p1 : Int32)  : Met l yX9_votes (.code yX9_votes cX9_votes 3 (some .int) :: TB) (rmk 2) (va_Pc [.ref (q 0), .int p0, .int p1] (fun U => FWH D k q wf U U.heap)) (vp_Si (fun r => r = (-2))) 0 0 (fun _ => False) := by
  refine Met.ofW (cc := cX9_votes) (maxL := 3) (ret := (some .int)) (by decide) rfl ?_
  intro p e s m args below meth c s₁ B hml hv
  obtain ⟨rfl, hF⟩ := hv
  have hx := B.exec
  have hb := B.bytes
  have hr := B.returns
  have hT : ∀ w ∈ TB, w.before ([.ref (q 0), .int p0, .int p1] : List Value).toArray s = true := fun w h => atoms_spec (ws := .code yX9_votes cX9_votes 3 (some .int) :: TB) B.pre w (List.mem_cons_of_mem _ h)
  have hown : s.vm.findClass RX9 = some m.cls := findClass_of_methodNamed B.named
  have S : CallFix p m c cX9_votes 3 s _ TB RX9 := ⟨hx, hb, hml, hown, hT⟩
  have hP : va_P D vwCl [(q 0, .inr (9, [.ref (q 1), .ref (q 2), .ref (q 3), .ref (q 4), .ref (q 5), .ref (q 6), .ref (q 7), .ref (q 8), .ref (q 9), .ref (q 10), .ref (q 11)])), (q 3, .inr (8, [.ref (q 12), .ref (q 13), .int 0, .ref (q 14), .ref (q 15), .ref (q 16)])), (q 12, .inr (1, [.int 0, .int 0, .int 0, .int 0, .int 0, .int 0, .int 0, .ref (q 17), .ref (q 18), .ref (q 19), .ref (q 20), .ref (q 21), .ref (q 22), .ref (q 23)])), (q 6, .inr (4, [.ref (q 24), .ref (q 25), .ref (q 26)])), (q 24, .inl (k 0, 4, .inl wf)), (q 5, .inl (k 3, 3, .inl (fun _ => 0))), (q 1, .inr (6, [.ref (q 27), .int 0])), (q 2, .inr (2, [.ref (q 1), .ref (q 28), .int 0, .int (-1), .int 0, .int 0, .int 0, .int 0]))] s.heap := hF.1
  have hK := hF.2.1
  have hl := lv_entry ([.ref (q 0), .int p0, .int p1]) (n := 3) (Nat.le_of_ble_eq_true rfl)
  rw [lg_entry_eq]
  generalize (lg_sl ([.ref (q 0), .int p0, .int p1]) ++ List.replicate (3 - (lg_sl ([.ref (q 0), .int p0, .int p1])).length) Slot.unset).toArray = ls at hl ⊢
  have hl : lv_has ls 3 [(0, .ref (q 0)), (1, .int p0), (2, .int p1)] := hl
  refine lv_aload_n hx hb dX9_votes_0 rfl (lv_at hl 0 rfl) ?_
  refine va_get (D := D) (ci := 9) (v := .ref (q 3)) (C := RX9) (T := TX9) (N := 11) hx hb hT in_X9 hown hK hP 0 rfl rfl 2 (by decide) (hT _ t453) (fun _ h9 => h9) rfl dX9_votes_1 ?_
  refine va_get (D := D) (ci := 8) (v := .ref (q 12)) (C := RX8) (T := TX8) (N := 6) hx hb hT in_X8 hown hK hP 1 rfl rfl 0 (by decide) (hT _ t312) (fun _ h9 => h9) rfl dX9_votes_4 ?_
  refine lv_iload_n hx hb dX9_votes_7 rfl (lv_at hl 1 rfl) ?_
  refine ro_V (As := [.int p0]) (rest := []) S (c_X1_isPlace l D k q wf p0) lkX9_171 ok_X1_isPlace ⟨rfl, rfl, Nat.le_of_ble_eq_true rfl, Nat.le_of_ble_eq_true rfl⟩ (fw_V (ci := 1) (q0 := 2) hF rfl rfl) rfl hl.1 rfl (Nat.le_of_ble_eq_true rfl) ⟨Nat.zero_le _, Nat.zero_le _⟩ dX9_votes_8 (fun r_1 er_1 => ?_)
  subst er_1
  refine lv_if_eq (tgt := 29) hx hb dX9_votes_11 (by decide) (fun c_2 => ?_) (fun c_2 => ?_)
  rotate_left
  · first | exact absurd c_2 (by decide) | exact absurd (by decide) c_2
  refine lv_bipush (v := (-2)) hx hb dX9_votes_29 (by decide) ?_
  exact W.iret (v := (-2)) hx hb hr (fun t ht hW => ⟨(-2), rfl, rfl, ht⟩) (fun _ h9 => by cases h9) dX9_votes_31
set_option maxHeartbeats 4000000 in
set_option maxRecDepth 100000 in
theorem c_X9_loved (l : Launch) (D : va_G) (k : Nat → ClassId) (q : Nat → Nat) (wf : Nat → Int32) (p0 : Int32)  : Met l yX9_loved (.code yX9_loved cX9_loved 2 (some .int) :: TB) (rmk 2) (va_Pc [.ref (q 0), .int p0] (fun U => FWH D k q wf U U.heap)) (vp_Si (fun r => r = (-2))) 0 0 (fun _ => False) := by
  refine Met.ofW (cc := cX9_loved) (maxL := 2) (ret := (some .int)) (by decide) rfl ?_
  intro p e s m args below meth c s₁ B hml hv
  obtain ⟨rfl, hF⟩ := hv
  have hx := B.exec
  have hb := B.bytes
  have hr := B.returns
  have hT : ∀ w ∈ TB, w.before ([.ref (q 0), .int p0] : List Value).toArray s = true := fun w h => atoms_spec (ws := .code yX9_loved cX9_loved 2 (some .int) :: TB) B.pre w (List.mem_cons_of_mem _ h)
  have hown : s.vm.findClass RX9 = some m.cls := findClass_of_methodNamed B.named
  have S : CallFix p m c cX9_loved 2 s _ TB RX9 := ⟨hx, hb, hml, hown, hT⟩
  have hP : va_P D vwCl [(q 0, .inr (9, [.ref (q 1), .ref (q 2), .ref (q 3), .ref (q 4), .ref (q 5), .ref (q 6), .ref (q 7), .ref (q 8), .ref (q 9), .ref (q 10), .ref (q 11)])), (q 3, .inr (8, [.ref (q 12), .ref (q 13), .int 0, .ref (q 14), .ref (q 15), .ref (q 16)])), (q 12, .inr (1, [.int 0, .int 0, .int 0, .int 0, .int 0, .int 0, .int 0, .ref (q 17), .ref (q 18), .ref (q 19), .ref (q 20), .ref (q 21), .ref (q 22), .ref (q 23)])), (q 6, .inr (4, [.ref (q 24), .ref (q 25), .ref (q 26)])), (q 24, .inl (k 0, 4, .inl wf)), (q 5, .inl (k 3, 3, .inl (fun _ => 0))), (q 1, .inr (6, [.ref (q 27), .int 0])), (q 2, .inr (2, [.ref (q 1), .ref (q 28), .int 0, .int (-1), .int 0, .int 0, .int 0, .int 0]))] s.heap := hF.1
  have hK := hF.2.1
  have hl := lv_entry ([.ref (q 0), .int p0]) (n := 2) (Nat.le_of_ble_eq_true rfl)
  rw [lg_entry_eq]
  generalize (lg_sl ([.ref (q 0), .int p0]) ++ List.replicate (2 - (lg_sl ([.ref (q 0), .int p0])).length) Slot.unset).toArray = ls at hl ⊢
  have hl : lv_has ls 2 [(0, .ref (q 0)), (1, .int p0)] := hl
  refine lv_aload_n hx hb dX9_loved_0 rfl (lv_at hl 0 rfl) ?_
  refine va_get (D := D) (ci := 9) (v := .ref (q 3)) (C := RX9) (T := TX9) (N := 11) hx hb hT in_X9 hown hK hP 0 rfl rfl 2 (by decide) (hT _ t453) (fun _ h9 => h9) rfl dX9_loved_1 ?_
  refine va_get (D := D) (ci := 8) (v := .ref (q 12)) (C := RX8) (T := TX8) (N := 6) hx hb hT in_X8 hown hK hP 1 rfl rfl 0 (by decide) (hT _ t312) (fun _ h9 => h9) rfl dX9_loved_4 ?_
  refine lv_iload_n hx hb dX9_loved_7 rfl (lv_at hl 1 rfl) ?_
  refine ro_V (As := [.int p0]) (rest := []) S (c_X1_isRoad l D k q wf p0) lkX9_114 ok_X1_isRoad ⟨rfl, rfl, Nat.le_of_ble_eq_true rfl, Nat.le_of_ble_eq_true rfl⟩ (fw_V (ci := 1) (q0 := 2) hF rfl rfl) rfl hl.1 rfl (Nat.le_of_ble_eq_true rfl) ⟨Nat.zero_le _, Nat.zero_le _⟩ dX9_loved_8 (fun r_1 er_1 => ?_)
  subst er_1
  refine lv_if_eq (tgt := 31) hx hb dX9_loved_11 (by decide) (fun c_2 => ?_) (fun c_2 => ?_)
  rotate_left
  · first | exact absurd c_2 (by decide) | exact absurd (by decide) c_2
  refine lv_bipush (v := (-2)) hx hb dX9_loved_31 (by decide) ?_
  exact W.iret (v := (-2)) hx hb hr (fun t ht hW => ⟨(-2), rfl, rfl, ht⟩) (fun _ h9 => by cases h9) dX9_loved_33
set_option maxHeartbeats 4000000 in
set_option maxRecDepth 100000 in
theorem c_X9_dearest (l : Launch) (D : va_G) (k : Nat → ClassId) (q : Nat → Nat) (wf : Nat → Int32)   : Met l yX9_dearest (.code yX9_dearest cX9_dearest 5 (some .int) :: TB) (rmk 2) (va_Pc [.ref (q 0)] (fun U => FWH D k q wf U U.heap)) (vp_Si (fun r => r = (-2))) 0 0 (fun _ => False) := by
  refine Met.ofW (cc := cX9_dearest) (maxL := 5) (ret := (some .int)) (by decide) rfl ?_
  intro p e s m args below meth c s₁ B hml hv
  obtain ⟨rfl, hF⟩ := hv
  have hx := B.exec
  have hb := B.bytes
  have hr := B.returns
  have hT : ∀ w ∈ TB, w.before ([.ref (q 0)] : List Value).toArray s = true := fun w h => atoms_spec (ws := .code yX9_dearest cX9_dearest 5 (some .int) :: TB) B.pre w (List.mem_cons_of_mem _ h)
  have hown : s.vm.findClass RX9 = some m.cls := findClass_of_methodNamed B.named
  have S : CallFix p m c cX9_dearest 5 s _ TB RX9 := ⟨hx, hb, hml, hown, hT⟩
  have hP : va_P D vwCl [(q 0, .inr (9, [.ref (q 1), .ref (q 2), .ref (q 3), .ref (q 4), .ref (q 5), .ref (q 6), .ref (q 7), .ref (q 8), .ref (q 9), .ref (q 10), .ref (q 11)])), (q 3, .inr (8, [.ref (q 12), .ref (q 13), .int 0, .ref (q 14), .ref (q 15), .ref (q 16)])), (q 12, .inr (1, [.int 0, .int 0, .int 0, .int 0, .int 0, .int 0, .int 0, .ref (q 17), .ref (q 18), .ref (q 19), .ref (q 20), .ref (q 21), .ref (q 22), .ref (q 23)])), (q 6, .inr (4, [.ref (q 24), .ref (q 25), .ref (q 26)])), (q 24, .inl (k 0, 4, .inl wf)), (q 5, .inl (k 3, 3, .inl (fun _ => 0))), (q 1, .inr (6, [.ref (q 27), .int 0])), (q 2, .inr (2, [.ref (q 1), .ref (q 28), .int 0, .int (-1), .int 0, .int 0, .int 0, .int 0]))] s.heap := hF.1
  have hK := hF.2.1
  have hl := lv_entry ([.ref (q 0)]) (n := 5) (Nat.le_of_ble_eq_true rfl)
  rw [lg_entry_eq]
  generalize (lg_sl ([.ref (q 0)]) ++ List.replicate (5 - (lg_sl ([.ref (q 0)])).length) Slot.unset).toArray = ls at hl ⊢
  have hl : lv_has ls 5 [(0, .ref (q 0))] := hl
  refine lv_aload_n hx hb dX9_dearest_0 rfl (lv_at hl 0 rfl) ?_
  refine va_get (D := D) (ci := 9) (v := .ref (q 3)) (C := RX9) (T := TX9) (N := 11) hx hb hT in_X9 hown hK hP 0 rfl rfl 2 (by decide) (hT _ t453) (fun _ h9 => h9) rfl dX9_dearest_1 ?_
  refine va_get (D := D) (ci := 8) (v := .ref (q 12)) (C := RX8) (T := TX8) (N := 6) hx hb hT in_X8 hown hK hP 1 rfl rfl 0 (by decide) (hT _ t312) (fun _ h9 => h9) rfl dX9_dearest_4 ?_
  refine ro_V (As := []) (rest := []) S (c_X1_isTold l D k q wf ) lkX9_211 ok_X1_isTold ⟨rfl, rfl, Nat.le_of_ble_eq_true rfl, Nat.le_of_ble_eq_true rfl⟩ (fw_V (ci := 1) (q0 := 2) hF rfl rfl) rfl hl.1 rfl (Nat.le_of_ble_eq_true rfl) ⟨Nat.zero_le _, Nat.zero_le _⟩ dX9_dearest_7 (fun r_1 er_1 => ?_)
  subst er_1
  refine lv_if_ne (tgt := 16) hx hb dX9_dearest_10 (by decide) (fun c_2 => ?_) (fun c_2 => ?_)
  · first | exact absurd c_2 (by decide) | exact absurd (by decide) c_2
  refine lv_bipush (v := (-2)) hx hb dX9_dearest_13 (by decide) ?_
  exact W.iret (v := (-2)) hx hb hr (fun t ht hW => ⟨(-2), rfl, rfl, ht⟩) (fun _ h9 => by cases h9) dX9_dearest_15
set_option maxHeartbeats 4000000 in
set_option maxRecDepth 100000 in
theorem c_X9_agree (l : Launch) (D : va_G) (k : Nat → ClassId) (q : Nat → Nat) (wf : Nat → Int32) (p0 : Int32) (p1 : Int32)  : Met l yX9_agree (.code yX9_agree cX9_agree 3 (some .int) :: TB) (rmk 2) (va_Pc [.ref (q 0), .int p0, .int p1] (fun U => FWH D k q wf U U.heap)) (vp_Si (fun r => r = (-2))) 0 0 (fun _ => False) := by
  refine Met.ofW (cc := cX9_agree) (maxL := 3) (ret := (some .int)) (by decide) rfl ?_
  intro p e s m args below meth c s₁ B hml hv
  obtain ⟨rfl, hF⟩ := hv
  have hx := B.exec
  have hb := B.bytes
  have hr := B.returns
  have hT : ∀ w ∈ TB, w.before ([.ref (q 0), .int p0, .int p1] : List Value).toArray s = true := fun w h => atoms_spec (ws := .code yX9_agree cX9_agree 3 (some .int) :: TB) B.pre w (List.mem_cons_of_mem _ h)
  have hown : s.vm.findClass RX9 = some m.cls := findClass_of_methodNamed B.named
  have S : CallFix p m c cX9_agree 3 s _ TB RX9 := ⟨hx, hb, hml, hown, hT⟩
  have hP : va_P D vwCl [(q 0, .inr (9, [.ref (q 1), .ref (q 2), .ref (q 3), .ref (q 4), .ref (q 5), .ref (q 6), .ref (q 7), .ref (q 8), .ref (q 9), .ref (q 10), .ref (q 11)])), (q 3, .inr (8, [.ref (q 12), .ref (q 13), .int 0, .ref (q 14), .ref (q 15), .ref (q 16)])), (q 12, .inr (1, [.int 0, .int 0, .int 0, .int 0, .int 0, .int 0, .int 0, .ref (q 17), .ref (q 18), .ref (q 19), .ref (q 20), .ref (q 21), .ref (q 22), .ref (q 23)])), (q 6, .inr (4, [.ref (q 24), .ref (q 25), .ref (q 26)])), (q 24, .inl (k 0, 4, .inl wf)), (q 5, .inl (k 3, 3, .inl (fun _ => 0))), (q 1, .inr (6, [.ref (q 27), .int 0])), (q 2, .inr (2, [.ref (q 1), .ref (q 28), .int 0, .int (-1), .int 0, .int 0, .int 0, .int 0]))] s.heap := hF.1
  have hK := hF.2.1
  have hl := lv_entry ([.ref (q 0), .int p0, .int p1]) (n := 3) (Nat.le_of_ble_eq_true rfl)
  rw [lg_entry_eq]
  generalize (lg_sl ([.ref (q 0), .int p0, .int p1]) ++ List.replicate (3 - (lg_sl ([.ref (q 0), .int p0, .int p1])).length) Slot.unset).toArray = ls at hl ⊢
  have hl : lv_has ls 3 [(0, .ref (q 0)), (1, .int p0), (2, .int p1)] := hl
  refine lv_aload_n hx hb dX9_agree_0 rfl (lv_at hl 0 rfl) ?_
  refine va_get (D := D) (ci := 9) (v := .ref (q 3)) (C := RX9) (T := TX9) (N := 11) hx hb hT in_X9 hown hK hP 0 rfl rfl 2 (by decide) (hT _ t453) (fun _ h9 => h9) rfl dX9_agree_1 ?_
  refine va_get (D := D) (ci := 8) (v := .ref (q 12)) (C := RX8) (T := TX8) (N := 6) hx hb hT in_X8 hown hK hP 1 rfl rfl 0 (by decide) (hT _ t312) (fun _ h9 => h9) rfl dX9_agree_4 ?_
  refine lv_iload_n hx hb dX9_agree_7 rfl (lv_at hl 1 rfl) ?_
  refine ro_V (As := [.int p0]) (rest := []) S (c_X1_isWheel l D k q wf p0) lkX9_127 ok_X1_isWheel ⟨rfl, rfl, Nat.le_of_ble_eq_true rfl, Nat.le_of_ble_eq_true rfl⟩ (fw_V (ci := 1) (q0 := 2) hF rfl rfl) rfl hl.1 rfl (Nat.le_of_ble_eq_true rfl) ⟨Nat.zero_le _, Nat.zero_le _⟩ dX9_agree_8 (fun r_1 er_1 => ?_)
  subst er_1
  refine lv_if_eq (tgt := 28) hx hb dX9_agree_11 (by decide) (fun c_2 => ?_) (fun c_2 => ?_)
  rotate_left
  · first | exact absurd c_2 (by decide) | exact absurd (by decide) c_2
  refine lv_bipush (v := (-2)) hx hb dX9_agree_28 (by decide) ?_
  exact W.iret (v := (-2)) hx hb hr (fun t ht hW => ⟨(-2), rfl, rfl, ht⟩) (fun _ h9 => by cases h9) dX9_agree_30
set_option maxHeartbeats 4000000 in
set_option maxRecDepth 100000 in
theorem c_X9_mate (l : Launch) (D : va_G) (k : Nat → ClassId) (q : Nat → Nat) (wf : Nat → Int32) (p0 : Int32)  : Met l yX9_mate (.code yX9_mate cX9_mate 6 (some .int) :: TB) (rmk 2) (va_Pc [.ref (q 0), .int p0] (fun U => FWH D k q wf U U.heap)) (vp_Si (fun r => r = (-2))) 0 0 (fun _ => False) := by
  refine Met.ofW (cc := cX9_mate) (maxL := 6) (ret := (some .int)) (by decide) rfl ?_
  intro p e s m args below meth c s₁ B hml hv
  obtain ⟨rfl, hF⟩ := hv
  have hx := B.exec
  have hb := B.bytes
  have hr := B.returns
  have hT : ∀ w ∈ TB, w.before ([.ref (q 0), .int p0] : List Value).toArray s = true := fun w h => atoms_spec (ws := .code yX9_mate cX9_mate 6 (some .int) :: TB) B.pre w (List.mem_cons_of_mem _ h)
  have hown : s.vm.findClass RX9 = some m.cls := findClass_of_methodNamed B.named
  have S : CallFix p m c cX9_mate 6 s _ TB RX9 := ⟨hx, hb, hml, hown, hT⟩
  have hP : va_P D vwCl [(q 0, .inr (9, [.ref (q 1), .ref (q 2), .ref (q 3), .ref (q 4), .ref (q 5), .ref (q 6), .ref (q 7), .ref (q 8), .ref (q 9), .ref (q 10), .ref (q 11)])), (q 3, .inr (8, [.ref (q 12), .ref (q 13), .int 0, .ref (q 14), .ref (q 15), .ref (q 16)])), (q 12, .inr (1, [.int 0, .int 0, .int 0, .int 0, .int 0, .int 0, .int 0, .ref (q 17), .ref (q 18), .ref (q 19), .ref (q 20), .ref (q 21), .ref (q 22), .ref (q 23)])), (q 6, .inr (4, [.ref (q 24), .ref (q 25), .ref (q 26)])), (q 24, .inl (k 0, 4, .inl wf)), (q 5, .inl (k 3, 3, .inl (fun _ => 0))), (q 1, .inr (6, [.ref (q 27), .int 0])), (q 2, .inr (2, [.ref (q 1), .ref (q 28), .int 0, .int (-1), .int 0, .int 0, .int 0, .int 0]))] s.heap := hF.1
  have hK := hF.2.1
  have hl := lv_entry ([.ref (q 0), .int p0]) (n := 6) (Nat.le_of_ble_eq_true rfl)
  rw [lg_entry_eq]
  generalize (lg_sl ([.ref (q 0), .int p0]) ++ List.replicate (6 - (lg_sl ([.ref (q 0), .int p0])).length) Slot.unset).toArray = ls at hl ⊢
  have hl : lv_has ls 6 [(0, .ref (q 0)), (1, .int p0)] := hl
  refine lv_aload_n hx hb dX9_mate_0 rfl (lv_at hl 0 rfl) ?_
  refine va_get (D := D) (ci := 9) (v := .ref (q 3)) (C := RX9) (T := TX9) (N := 11) hx hb hT in_X9 hown hK hP 0 rfl rfl 2 (by decide) (hT _ t453) (fun _ h9 => h9) rfl dX9_mate_1 ?_
  refine va_get (D := D) (ci := 8) (v := .ref (q 12)) (C := RX8) (T := TX8) (N := 6) hx hb hT in_X8 hown hK hP 1 rfl rfl 0 (by decide) (hT _ t312) (fun _ h9 => h9) rfl dX9_mate_4 ?_
  refine lv_iload_n hx hb dX9_mate_7 rfl (lv_at hl 1 rfl) ?_
  refine ro_V (As := [.int p0]) (rest := []) S (c_X1_isWheel l D k q wf p0) lkX9_127 ok_X1_isWheel ⟨rfl, rfl, Nat.le_of_ble_eq_true rfl, Nat.le_of_ble_eq_true rfl⟩ (fw_V (ci := 1) (q0 := 2) hF rfl rfl) rfl hl.1 rfl (Nat.le_of_ble_eq_true rfl) ⟨Nat.zero_le _, Nat.zero_le _⟩ dX9_mate_8 (fun r_1 er_1 => ?_)
  subst er_1
  refine lv_if_ne (tgt := 17) hx hb dX9_mate_11 (by decide) (fun c_2 => ?_) (fun c_2 => ?_)
  · first | exact absurd c_2 (by decide) | exact absurd (by decide) c_2
  refine lv_bipush (v := (-2)) hx hb dX9_mate_14 (by decide) ?_
  exact W.iret (v := (-2)) hx hb hr (fun t ht hW => ⟨(-2), rfl, rfl, ht⟩) (fun _ h9 => by cases h9) dX9_mate_16
set_option maxHeartbeats 4000000 in
set_option maxRecDepth 100000 in
theorem c_X9_teach (l : Launch) (D : va_G) (k : Nat → ClassId) (q : Nat → Nat) (wf : Nat → Int32) (p0 : Int32) (p1 : Int32)  : Met l yX9_teach (.code yX9_teach cX9_teach 4 (some .int) :: TB) (rmk 2) (va_Pc [.ref (q 0), .int p0, .int p1] (fun U => FWH D k q wf U U.heap)) (vp_Si (fun r => r = (-2))) 0 0 (fun _ => False) := by
  refine Met.ofW (cc := cX9_teach) (maxL := 4) (ret := (some .int)) (by decide) rfl ?_
  intro p e s m args below meth c s₁ B hml hv
  obtain ⟨rfl, hF⟩ := hv
  have hx := B.exec
  have hb := B.bytes
  have hr := B.returns
  have hT : ∀ w ∈ TB, w.before ([.ref (q 0), .int p0, .int p1] : List Value).toArray s = true := fun w h => atoms_spec (ws := .code yX9_teach cX9_teach 4 (some .int) :: TB) B.pre w (List.mem_cons_of_mem _ h)
  have hown : s.vm.findClass RX9 = some m.cls := findClass_of_methodNamed B.named
  have S : CallFix p m c cX9_teach 4 s _ TB RX9 := ⟨hx, hb, hml, hown, hT⟩
  have hP : va_P D vwCl [(q 0, .inr (9, [.ref (q 1), .ref (q 2), .ref (q 3), .ref (q 4), .ref (q 5), .ref (q 6), .ref (q 7), .ref (q 8), .ref (q 9), .ref (q 10), .ref (q 11)])), (q 3, .inr (8, [.ref (q 12), .ref (q 13), .int 0, .ref (q 14), .ref (q 15), .ref (q 16)])), (q 12, .inr (1, [.int 0, .int 0, .int 0, .int 0, .int 0, .int 0, .int 0, .ref (q 17), .ref (q 18), .ref (q 19), .ref (q 20), .ref (q 21), .ref (q 22), .ref (q 23)])), (q 6, .inr (4, [.ref (q 24), .ref (q 25), .ref (q 26)])), (q 24, .inl (k 0, 4, .inl wf)), (q 5, .inl (k 3, 3, .inl (fun _ => 0))), (q 1, .inr (6, [.ref (q 27), .int 0])), (q 2, .inr (2, [.ref (q 1), .ref (q 28), .int 0, .int (-1), .int 0, .int 0, .int 0, .int 0]))] s.heap := hF.1
  have hK := hF.2.1
  have hl := lv_entry ([.ref (q 0), .int p0, .int p1]) (n := 4) (Nat.le_of_ble_eq_true rfl)
  rw [lg_entry_eq]
  generalize (lg_sl ([.ref (q 0), .int p0, .int p1]) ++ List.replicate (4 - (lg_sl ([.ref (q 0), .int p0, .int p1])).length) Slot.unset).toArray = ls at hl ⊢
  have hl : lv_has ls 4 [(0, .ref (q 0)), (1, .int p0), (2, .int p1)] := hl
  refine lv_aload_n hx hb dX9_teach_0 rfl (lv_at hl 0 rfl) ?_
  refine va_get (D := D) (ci := 9) (v := .ref (q 3)) (C := RX9) (T := TX9) (N := 11) hx hb hT in_X9 hown hK hP 0 rfl rfl 2 (by decide) (hT _ t453) (fun _ h9 => h9) rfl dX9_teach_1 ?_
  refine va_get (D := D) (ci := 8) (v := .ref (q 12)) (C := RX8) (T := TX8) (N := 6) hx hb hT in_X8 hown hK hP 1 rfl rfl 0 (by decide) (hT _ t312) (fun _ h9 => h9) rfl dX9_teach_4 ?_
  refine lv_iload_n hx hb dX9_teach_7 rfl (lv_at hl 1 rfl) ?_
  refine ro_V (As := [.int p0]) (rest := []) S (c_X1_isWheel l D k q wf p0) lkX9_127 ok_X1_isWheel ⟨rfl, rfl, Nat.le_of_ble_eq_true rfl, Nat.le_of_ble_eq_true rfl⟩ (fw_V (ci := 1) (q0 := 2) hF rfl rfl) rfl hl.1 rfl (Nat.le_of_ble_eq_true rfl) ⟨Nat.zero_le _, Nat.zero_le _⟩ dX9_teach_8 (fun r_1 er_1 => ?_)
  subst er_1
  refine lv_if_eq (tgt := 28) hx hb dX9_teach_11 (by decide) (fun c_2 => ?_) (fun c_2 => ?_)
  rotate_left
  · first | exact absurd c_2 (by decide) | exact absurd (by decide) c_2
  refine lv_bipush (v := (-2)) hx hb dX9_teach_28 (by decide) ?_
  exact W.iret (v := (-2)) hx hb hr (fun t ht hW => ⟨(-2), rfl, rfl, ht⟩) (fun _ h9 => by cases h9) dX9_teach_30
set_option maxHeartbeats 4000000 in
set_option maxRecDepth 100000 in
theorem c_X9_lasts (l : Launch) (D : va_G) (k : Nat → ClassId) (q : Nat → Nat) (wf : Nat → Int32) (p0 : Int32) (p1 : Int32)  : Met l yX9_lasts (.code yX9_lasts cX9_lasts 3 (some .int) :: TB) (rmk 2) (va_Pc [.ref (q 0), .int p0, .int p1] (fun U => FWH D k q wf U U.heap)) (vp_Si (fun r => r = (-2))) 0 0 (fun _ => False) := by
  refine Met.ofW (cc := cX9_lasts) (maxL := 3) (ret := (some .int)) (by decide) rfl ?_
  intro p e s m args below meth c s₁ B hml hv
  obtain ⟨rfl, hF⟩ := hv
  have hx := B.exec
  have hb := B.bytes
  have hr := B.returns
  have hT : ∀ w ∈ TB, w.before ([.ref (q 0), .int p0, .int p1] : List Value).toArray s = true := fun w h => atoms_spec (ws := .code yX9_lasts cX9_lasts 3 (some .int) :: TB) B.pre w (List.mem_cons_of_mem _ h)
  have hown : s.vm.findClass RX9 = some m.cls := findClass_of_methodNamed B.named
  have S : CallFix p m c cX9_lasts 3 s _ TB RX9 := ⟨hx, hb, hml, hown, hT⟩
  have hP : va_P D vwCl [(q 0, .inr (9, [.ref (q 1), .ref (q 2), .ref (q 3), .ref (q 4), .ref (q 5), .ref (q 6), .ref (q 7), .ref (q 8), .ref (q 9), .ref (q 10), .ref (q 11)])), (q 3, .inr (8, [.ref (q 12), .ref (q 13), .int 0, .ref (q 14), .ref (q 15), .ref (q 16)])), (q 12, .inr (1, [.int 0, .int 0, .int 0, .int 0, .int 0, .int 0, .int 0, .ref (q 17), .ref (q 18), .ref (q 19), .ref (q 20), .ref (q 21), .ref (q 22), .ref (q 23)])), (q 6, .inr (4, [.ref (q 24), .ref (q 25), .ref (q 26)])), (q 24, .inl (k 0, 4, .inl wf)), (q 5, .inl (k 3, 3, .inl (fun _ => 0))), (q 1, .inr (6, [.ref (q 27), .int 0])), (q 2, .inr (2, [.ref (q 1), .ref (q 28), .int 0, .int (-1), .int 0, .int 0, .int 0, .int 0]))] s.heap := hF.1
  have hK := hF.2.1
  have hl := lv_entry ([.ref (q 0), .int p0, .int p1]) (n := 3) (Nat.le_of_ble_eq_true rfl)
  rw [lg_entry_eq]
  generalize (lg_sl ([.ref (q 0), .int p0, .int p1]) ++ List.replicate (3 - (lg_sl ([.ref (q 0), .int p0, .int p1])).length) Slot.unset).toArray = ls at hl ⊢
  have hl : lv_has ls 3 [(0, .ref (q 0)), (1, .int p0), (2, .int p1)] := hl
  refine lv_aload_n hx hb dX9_lasts_0 rfl (lv_at hl 0 rfl) ?_
  refine va_get (D := D) (ci := 9) (v := .ref (q 3)) (C := RX9) (T := TX9) (N := 11) hx hb hT in_X9 hown hK hP 0 rfl rfl 2 (by decide) (hT _ t453) (fun _ h9 => h9) rfl dX9_lasts_1 ?_
  refine va_get (D := D) (ci := 8) (v := .ref (q 12)) (C := RX8) (T := TX8) (N := 6) hx hb hT in_X8 hown hK hP 1 rfl rfl 0 (by decide) (hT _ t312) (fun _ h9 => h9) rfl dX9_lasts_4 ?_
  refine lv_iload_n hx hb dX9_lasts_7 rfl (lv_at hl 1 rfl) ?_
  refine ro_V (As := [.int p0]) (rest := []) S (c_X1_isWheel l D k q wf p0) lkX9_127 ok_X1_isWheel ⟨rfl, rfl, Nat.le_of_ble_eq_true rfl, Nat.le_of_ble_eq_true rfl⟩ (fw_V (ci := 1) (q0 := 2) hF rfl rfl) rfl hl.1 rfl (Nat.le_of_ble_eq_true rfl) ⟨Nat.zero_le _, Nat.zero_le _⟩ dX9_lasts_8 (fun r_1 er_1 => ?_)
  subst er_1
  refine lv_if_eq (tgt := 25) hx hb dX9_lasts_11 (by decide) (fun c_2 => ?_) (fun c_2 => ?_)
  rotate_left
  · first | exact absurd c_2 (by decide) | exact absurd (by decide) c_2
  refine lv_bipush (v := (-2)) hx hb dX9_lasts_25 (by decide) ?_
  exact W.iret (v := (-2)) hx hb hr (fun t ht hW => ⟨(-2), rfl, rfl, ht⟩) (fun _ h9 => by cases h9) dX9_lasts_27
set_option maxHeartbeats 4000000 in
set_option maxRecDepth 100000 in
theorem c_X9_share (l : Launch) (D : va_G) (k : Nat → ClassId) (q : Nat → Nat) (wf : Nat → Int32) (p0 : Int32) (p1 : Int32) (p2 : Int32)  : Met l yX9_share (.code yX9_share cX9_share 9 (some .int) :: TB) (rmk 2) (va_Pc [.ref (q 0), .int p0, .int p1, .int p2] (fun U => FWH D k q wf U U.heap)) (vp_Si (fun r => r = (-2))) 0 0 (fun _ => False) := by
  refine Met.ofW (cc := cX9_share) (maxL := 9) (ret := (some .int)) (by decide) rfl ?_
  intro p e s m args below meth c s₁ B hml hv
  obtain ⟨rfl, hF⟩ := hv
  have hx := B.exec
  have hb := B.bytes
  have hr := B.returns
  have hT : ∀ w ∈ TB, w.before ([.ref (q 0), .int p0, .int p1, .int p2] : List Value).toArray s = true := fun w h => atoms_spec (ws := .code yX9_share cX9_share 9 (some .int) :: TB) B.pre w (List.mem_cons_of_mem _ h)
  have hown : s.vm.findClass RX9 = some m.cls := findClass_of_methodNamed B.named
  have S : CallFix p m c cX9_share 9 s _ TB RX9 := ⟨hx, hb, hml, hown, hT⟩
  have hP : va_P D vwCl [(q 0, .inr (9, [.ref (q 1), .ref (q 2), .ref (q 3), .ref (q 4), .ref (q 5), .ref (q 6), .ref (q 7), .ref (q 8), .ref (q 9), .ref (q 10), .ref (q 11)])), (q 3, .inr (8, [.ref (q 12), .ref (q 13), .int 0, .ref (q 14), .ref (q 15), .ref (q 16)])), (q 12, .inr (1, [.int 0, .int 0, .int 0, .int 0, .int 0, .int 0, .int 0, .ref (q 17), .ref (q 18), .ref (q 19), .ref (q 20), .ref (q 21), .ref (q 22), .ref (q 23)])), (q 6, .inr (4, [.ref (q 24), .ref (q 25), .ref (q 26)])), (q 24, .inl (k 0, 4, .inl wf)), (q 5, .inl (k 3, 3, .inl (fun _ => 0))), (q 1, .inr (6, [.ref (q 27), .int 0])), (q 2, .inr (2, [.ref (q 1), .ref (q 28), .int 0, .int (-1), .int 0, .int 0, .int 0, .int 0]))] s.heap := hF.1
  have hK := hF.2.1
  have hl := lv_entry ([.ref (q 0), .int p0, .int p1, .int p2]) (n := 9) (Nat.le_of_ble_eq_true rfl)
  rw [lg_entry_eq]
  generalize (lg_sl ([.ref (q 0), .int p0, .int p1, .int p2]) ++ List.replicate (9 - (lg_sl ([.ref (q 0), .int p0, .int p1, .int p2])).length) Slot.unset).toArray = ls at hl ⊢
  have hl : lv_has ls 9 [(0, .ref (q 0)), (1, .int p0), (2, .int p1), (3, .int p2)] := hl
  refine lv_aload_n hx hb dX9_share_0 rfl (lv_at hl 0 rfl) ?_
  refine va_get (D := D) (ci := 9) (v := .ref (q 3)) (C := RX9) (T := TX9) (N := 11) hx hb hT in_X9 hown hK hP 0 rfl rfl 2 (by decide) (hT _ t453) (fun _ h9 => h9) rfl dX9_share_1 ?_
  refine va_get (D := D) (ci := 8) (v := .ref (q 12)) (C := RX8) (T := TX8) (N := 6) hx hb hT in_X8 hown hK hP 1 rfl rfl 0 (by decide) (hT _ t312) (fun _ h9 => h9) rfl dX9_share_4 ?_
  refine lv_iload_n hx hb dX9_share_7 rfl (lv_at hl 1 rfl) ?_
  refine ro_V (As := [.int p0]) (rest := []) S (c_X1_isCart l D k q wf p0) lkX9_147 ok_X1_isCart ⟨rfl, rfl, Nat.le_of_ble_eq_true rfl, Nat.le_of_ble_eq_true rfl⟩ (fw_V (ci := 1) (q0 := 2) hF rfl rfl) rfl hl.1 rfl (Nat.le_of_ble_eq_true rfl) ⟨Nat.zero_le _, Nat.zero_le _⟩ dX9_share_8 (fun r_1 er_1 => ?_)
  subst er_1
  refine lv_if_eq (tgt := 55) hx hb dX9_share_11 (by decide) (fun c_2 => ?_) (fun c_2 => ?_)
  rotate_left
  · first | exact absurd c_2 (by decide) | exact absurd (by decide) c_2
  refine lv_bipush (v := (-2)) hx hb dX9_share_55 (by decide) ?_
  exact W.iret (v := (-2)) hx hb hr (fun t ht hW => ⟨(-2), rfl, rfl, ht⟩) (fun _ h9 => by cases h9) dX9_share_57
set_option maxHeartbeats 4000000 in
set_option maxRecDepth 100000 in
theorem c_X9_worth (l : Launch) (D : va_G) (k : Nat → ClassId) (q : Nat → Nat) (wf : Nat → Int32) (p0 : Int32)  : Met l yX9_worth (.code yX9_worth cX9_worth 2 (some .int) :: TB) (rmk 2) (va_Pc [.ref (q 0), .int p0] (fun U => FWH D k q wf U U.heap)) (vp_Si (fun r => r = (-2))) 0 0 (fun _ => False) := by
  refine Met.ofW (cc := cX9_worth) (maxL := 2) (ret := (some .int)) (by decide) rfl ?_
  intro p e s m args below meth c s₁ B hml hv
  obtain ⟨rfl, hF⟩ := hv
  have hx := B.exec
  have hb := B.bytes
  have hr := B.returns
  have hT : ∀ w ∈ TB, w.before ([.ref (q 0), .int p0] : List Value).toArray s = true := fun w h => atoms_spec (ws := .code yX9_worth cX9_worth 2 (some .int) :: TB) B.pre w (List.mem_cons_of_mem _ h)
  have hown : s.vm.findClass RX9 = some m.cls := findClass_of_methodNamed B.named
  have S : CallFix p m c cX9_worth 2 s _ TB RX9 := ⟨hx, hb, hml, hown, hT⟩
  have hP : va_P D vwCl [(q 0, .inr (9, [.ref (q 1), .ref (q 2), .ref (q 3), .ref (q 4), .ref (q 5), .ref (q 6), .ref (q 7), .ref (q 8), .ref (q 9), .ref (q 10), .ref (q 11)])), (q 3, .inr (8, [.ref (q 12), .ref (q 13), .int 0, .ref (q 14), .ref (q 15), .ref (q 16)])), (q 12, .inr (1, [.int 0, .int 0, .int 0, .int 0, .int 0, .int 0, .int 0, .ref (q 17), .ref (q 18), .ref (q 19), .ref (q 20), .ref (q 21), .ref (q 22), .ref (q 23)])), (q 6, .inr (4, [.ref (q 24), .ref (q 25), .ref (q 26)])), (q 24, .inl (k 0, 4, .inl wf)), (q 5, .inl (k 3, 3, .inl (fun _ => 0))), (q 1, .inr (6, [.ref (q 27), .int 0])), (q 2, .inr (2, [.ref (q 1), .ref (q 28), .int 0, .int (-1), .int 0, .int 0, .int 0, .int 0]))] s.heap := hF.1
  have hK := hF.2.1
  have hl := lv_entry ([.ref (q 0), .int p0]) (n := 2) (Nat.le_of_ble_eq_true rfl)
  rw [lg_entry_eq]
  generalize (lg_sl ([.ref (q 0), .int p0]) ++ List.replicate (2 - (lg_sl ([.ref (q 0), .int p0])).length) Slot.unset).toArray = ls at hl ⊢
  have hl : lv_has ls 2 [(0, .ref (q 0)), (1, .int p0)] := hl
  refine lv_aload_n hx hb dX9_worth_0 rfl (lv_at hl 0 rfl) ?_
  refine va_get (D := D) (ci := 9) (v := .ref (q 3)) (C := RX9) (T := TX9) (N := 11) hx hb hT in_X9 hown hK hP 0 rfl rfl 2 (by decide) (hT _ t453) (fun _ h9 => h9) rfl dX9_worth_1 ?_
  refine va_get (D := D) (ci := 8) (v := .ref (q 12)) (C := RX8) (T := TX8) (N := 6) hx hb hT in_X8 hown hK hP 1 rfl rfl 0 (by decide) (hT _ t312) (fun _ h9 => h9) rfl dX9_worth_4 ?_
  refine lv_iload_n hx hb dX9_worth_7 rfl (lv_at hl 1 rfl) ?_
  refine ro_V (As := [.int p0]) (rest := []) S (c_X1_isWheel l D k q wf p0) lkX9_127 ok_X1_isWheel ⟨rfl, rfl, Nat.le_of_ble_eq_true rfl, Nat.le_of_ble_eq_true rfl⟩ (fw_V (ci := 1) (q0 := 2) hF rfl rfl) rfl hl.1 rfl (Nat.le_of_ble_eq_true rfl) ⟨Nat.zero_le _, Nat.zero_le _⟩ dX9_worth_8 (fun r_1 er_1 => ?_)
  subst er_1
  refine lv_if_eq (tgt := 35) hx hb dX9_worth_11 (by decide) (fun c_2 => ?_) (fun c_2 => ?_)
  rotate_left
  · first | exact absurd c_2 (by decide) | exact absurd (by decide) c_2
  refine lv_bipush (v := (-2)) hx hb dX9_worth_35 (by decide) ?_
  exact W.iret (v := (-2)) hx hb hr (fun t ht hW => ⟨(-2), rfl, rfl, ht⟩) (fun _ h9 => by cases h9) dX9_worth_37
set_option maxHeartbeats 4000000 in
set_option maxRecDepth 100000 in
theorem c_X9_picks (l : Launch) (D : va_G) (k : Nat → ClassId) (q : Nat → Nat) (wf : Nat → Int32)   : Met l yX9_picks (.code yX9_picks cX9_picks 1 (some .int) :: TB) (rmk 2) (va_Pc [.ref (q 0)] (fun U => FWH D k q wf U U.heap)) (vp_Si (fun r => r = (-2))) 0 0 (fun _ => False) := by
  refine Met.ofW (cc := cX9_picks) (maxL := 1) (ret := (some .int)) (by decide) rfl ?_
  intro p e s m args below meth c s₁ B hml hv
  obtain ⟨rfl, hF⟩ := hv
  have hx := B.exec
  have hb := B.bytes
  have hr := B.returns
  have hT : ∀ w ∈ TB, w.before ([.ref (q 0)] : List Value).toArray s = true := fun w h => atoms_spec (ws := .code yX9_picks cX9_picks 1 (some .int) :: TB) B.pre w (List.mem_cons_of_mem _ h)
  have hown : s.vm.findClass RX9 = some m.cls := findClass_of_methodNamed B.named
  have S : CallFix p m c cX9_picks 1 s _ TB RX9 := ⟨hx, hb, hml, hown, hT⟩
  have hP : va_P D vwCl [(q 0, .inr (9, [.ref (q 1), .ref (q 2), .ref (q 3), .ref (q 4), .ref (q 5), .ref (q 6), .ref (q 7), .ref (q 8), .ref (q 9), .ref (q 10), .ref (q 11)])), (q 3, .inr (8, [.ref (q 12), .ref (q 13), .int 0, .ref (q 14), .ref (q 15), .ref (q 16)])), (q 12, .inr (1, [.int 0, .int 0, .int 0, .int 0, .int 0, .int 0, .int 0, .ref (q 17), .ref (q 18), .ref (q 19), .ref (q 20), .ref (q 21), .ref (q 22), .ref (q 23)])), (q 6, .inr (4, [.ref (q 24), .ref (q 25), .ref (q 26)])), (q 24, .inl (k 0, 4, .inl wf)), (q 5, .inl (k 3, 3, .inl (fun _ => 0))), (q 1, .inr (6, [.ref (q 27), .int 0])), (q 2, .inr (2, [.ref (q 1), .ref (q 28), .int 0, .int (-1), .int 0, .int 0, .int 0, .int 0]))] s.heap := hF.1
  have hK := hF.2.1
  have hl := lv_entry ([.ref (q 0)]) (n := 1) (Nat.le_of_ble_eq_true rfl)
  rw [lg_entry_eq]
  generalize (lg_sl ([.ref (q 0)]) ++ List.replicate (1 - (lg_sl ([.ref (q 0)])).length) Slot.unset).toArray = ls at hl ⊢
  have hl : lv_has ls 1 [(0, .ref (q 0))] := hl
  refine lv_aload_n hx hb dX9_picks_0 rfl (lv_at hl 0 rfl) ?_
  refine va_get (D := D) (ci := 9) (v := .ref (q 3)) (C := RX9) (T := TX9) (N := 11) hx hb hT in_X9 hown hK hP 0 rfl rfl 2 (by decide) (hT _ t453) (fun _ h9 => h9) rfl dX9_picks_1 ?_
  refine va_get (D := D) (ci := 8) (v := .ref (q 12)) (C := RX8) (T := TX8) (N := 6) hx hb hT in_X8 hown hK hP 1 rfl rfl 0 (by decide) (hT _ t312) (fun _ h9 => h9) rfl dX9_picks_4 ?_
  refine ro_V (As := []) (rest := []) S (c_X1_isTold l D k q wf ) lkX9_211 ok_X1_isTold ⟨rfl, rfl, Nat.le_of_ble_eq_true rfl, Nat.le_of_ble_eq_true rfl⟩ (fw_V (ci := 1) (q0 := 2) hF rfl rfl) rfl hl.1 rfl (Nat.le_of_ble_eq_true rfl) ⟨Nat.zero_le _, Nat.zero_le _⟩ dX9_picks_7 (fun r_1 er_1 => ?_)
  subst er_1
  refine lv_if_ne (tgt := 16) hx hb dX9_picks_10 (by decide) (fun c_2 => ?_) (fun c_2 => ?_)
  · first | exact absurd c_2 (by decide) | exact absurd (by decide) c_2
  refine lv_bipush (v := (-2)) hx hb dX9_picks_13 (by decide) ?_
  exact W.iret (v := (-2)) hx hb hr (fun t ht hW => ⟨(-2), rfl, rfl, ht⟩) (fun _ h9 => by cases h9) dX9_picks_15
set_option maxHeartbeats 4000000 in
set_option maxRecDepth 100000 in
theorem c_X9_tell (l : Launch) (D : va_G) (k : Nat → ClassId) (q : Nat → Nat) (wf : Nat → Int32) (p0 : Int32) (p1 : Int32) (p2 : Int32)  : Met l yX9_tell (.code yX9_tell cX9_tell 5 (some .int) :: TB) (rmk 2) (va_Pc [.ref (q 0), .int p0, .int p1, .int p2] (fun U => FWH D k q wf U U.heap)) (vp_Si (fun r => r = (-2))) 0 0 (fun _ => False) := by
  refine Met.ofW (cc := cX9_tell) (maxL := 5) (ret := (some .int)) (by decide) rfl ?_
  intro p e s m args below meth c s₁ B hml hv
  obtain ⟨rfl, hF⟩ := hv
  have hx := B.exec
  have hb := B.bytes
  have hr := B.returns
  have hT : ∀ w ∈ TB, w.before ([.ref (q 0), .int p0, .int p1, .int p2] : List Value).toArray s = true := fun w h => atoms_spec (ws := .code yX9_tell cX9_tell 5 (some .int) :: TB) B.pre w (List.mem_cons_of_mem _ h)
  have hown : s.vm.findClass RX9 = some m.cls := findClass_of_methodNamed B.named
  have S : CallFix p m c cX9_tell 5 s _ TB RX9 := ⟨hx, hb, hml, hown, hT⟩
  have hP : va_P D vwCl [(q 0, .inr (9, [.ref (q 1), .ref (q 2), .ref (q 3), .ref (q 4), .ref (q 5), .ref (q 6), .ref (q 7), .ref (q 8), .ref (q 9), .ref (q 10), .ref (q 11)])), (q 3, .inr (8, [.ref (q 12), .ref (q 13), .int 0, .ref (q 14), .ref (q 15), .ref (q 16)])), (q 12, .inr (1, [.int 0, .int 0, .int 0, .int 0, .int 0, .int 0, .int 0, .ref (q 17), .ref (q 18), .ref (q 19), .ref (q 20), .ref (q 21), .ref (q 22), .ref (q 23)])), (q 6, .inr (4, [.ref (q 24), .ref (q 25), .ref (q 26)])), (q 24, .inl (k 0, 4, .inl wf)), (q 5, .inl (k 3, 3, .inl (fun _ => 0))), (q 1, .inr (6, [.ref (q 27), .int 0])), (q 2, .inr (2, [.ref (q 1), .ref (q 28), .int 0, .int (-1), .int 0, .int 0, .int 0, .int 0]))] s.heap := hF.1
  have hK := hF.2.1
  have hl := lv_entry ([.ref (q 0), .int p0, .int p1, .int p2]) (n := 5) (Nat.le_of_ble_eq_true rfl)
  rw [lg_entry_eq]
  generalize (lg_sl ([.ref (q 0), .int p0, .int p1, .int p2]) ++ List.replicate (5 - (lg_sl ([.ref (q 0), .int p0, .int p1, .int p2])).length) Slot.unset).toArray = ls at hl ⊢
  have hl : lv_has ls 5 [(0, .ref (q 0)), (1, .int p0), (2, .int p1), (3, .int p2)] := hl
  refine lv_aload_n hx hb dX9_tell_0 rfl (lv_at hl 0 rfl) ?_
  refine va_get (D := D) (ci := 9) (v := .ref (q 3)) (C := RX9) (T := TX9) (N := 11) hx hb hT in_X9 hown hK hP 0 rfl rfl 2 (by decide) (hT _ t453) (fun _ h9 => h9) rfl dX9_tell_1 ?_
  refine va_get (D := D) (ci := 8) (v := .ref (q 12)) (C := RX8) (T := TX8) (N := 6) hx hb hT in_X8 hown hK hP 1 rfl rfl 0 (by decide) (hT _ t312) (fun _ h9 => h9) rfl dX9_tell_4 ?_
  refine lv_iload_n hx hb dX9_tell_7 rfl (lv_at hl 1 rfl) ?_
  refine ro_V (As := [.int p0]) (rest := []) S (c_X1_isWheel l D k q wf p0) lkX9_127 ok_X1_isWheel ⟨rfl, rfl, Nat.le_of_ble_eq_true rfl, Nat.le_of_ble_eq_true rfl⟩ (fw_V (ci := 1) (q0 := 2) hF rfl rfl) rfl hl.1 rfl (Nat.le_of_ble_eq_true rfl) ⟨Nat.zero_le _, Nat.zero_le _⟩ dX9_tell_8 (fun r_1 er_1 => ?_)
  subst er_1
  refine lv_if_eq (tgt := 38) hx hb dX9_tell_11 (by decide) (fun c_2 => ?_) (fun c_2 => ?_)
  rotate_left
  · first | exact absurd c_2 (by decide) | exact absurd (by decide) c_2
  refine lv_bipush (v := (-2)) hx hb dX9_tell_38 (by decide) ?_
  exact W.iret (v := (-2)) hx hb hr (fun t ht hW => ⟨(-2), rfl, rfl, ht⟩) (fun _ h9 => by cases h9) dX9_tell_40
set_option maxHeartbeats 4000000 in
set_option maxRecDepth 100000 in
theorem c_X9_hand (l : Launch) (D : va_G) (k : Nat → ClassId) (q : Nat → Nat) (wf : Nat → Int32) (p0 : Int32)  : Met l yX9_hand (.code yX9_hand cX9_hand 3 (some .int) :: TB) (rmk 2) (va_Pc [.ref (q 0), .int p0] (fun U => FWH D k q wf U U.heap)) (vp_Si (fun r => r = (-2))) 0 0 (fun _ => False) := by
  refine Met.ofW (cc := cX9_hand) (maxL := 3) (ret := (some .int)) (by decide) rfl ?_
  intro p e s m args below meth c s₁ B hml hv
  obtain ⟨rfl, hF⟩ := hv
  have hx := B.exec
  have hb := B.bytes
  have hr := B.returns
  have hT : ∀ w ∈ TB, w.before ([.ref (q 0), .int p0] : List Value).toArray s = true := fun w h => atoms_spec (ws := .code yX9_hand cX9_hand 3 (some .int) :: TB) B.pre w (List.mem_cons_of_mem _ h)
  have hown : s.vm.findClass RX9 = some m.cls := findClass_of_methodNamed B.named
  have S : CallFix p m c cX9_hand 3 s _ TB RX9 := ⟨hx, hb, hml, hown, hT⟩
  have hP : va_P D vwCl [(q 0, .inr (9, [.ref (q 1), .ref (q 2), .ref (q 3), .ref (q 4), .ref (q 5), .ref (q 6), .ref (q 7), .ref (q 8), .ref (q 9), .ref (q 10), .ref (q 11)])), (q 3, .inr (8, [.ref (q 12), .ref (q 13), .int 0, .ref (q 14), .ref (q 15), .ref (q 16)])), (q 12, .inr (1, [.int 0, .int 0, .int 0, .int 0, .int 0, .int 0, .int 0, .ref (q 17), .ref (q 18), .ref (q 19), .ref (q 20), .ref (q 21), .ref (q 22), .ref (q 23)])), (q 6, .inr (4, [.ref (q 24), .ref (q 25), .ref (q 26)])), (q 24, .inl (k 0, 4, .inl wf)), (q 5, .inl (k 3, 3, .inl (fun _ => 0))), (q 1, .inr (6, [.ref (q 27), .int 0])), (q 2, .inr (2, [.ref (q 1), .ref (q 28), .int 0, .int (-1), .int 0, .int 0, .int 0, .int 0]))] s.heap := hF.1
  have hK := hF.2.1
  have hl := lv_entry ([.ref (q 0), .int p0]) (n := 3) (Nat.le_of_ble_eq_true rfl)
  rw [lg_entry_eq]
  generalize (lg_sl ([.ref (q 0), .int p0]) ++ List.replicate (3 - (lg_sl ([.ref (q 0), .int p0])).length) Slot.unset).toArray = ls at hl ⊢
  have hl : lv_has ls 3 [(0, .ref (q 0)), (1, .int p0)] := hl
  refine lv_iload_n hx hb dX9_hand_0 rfl (lv_at hl 1 rfl) ?_
  refine lv_if_lt (tgt := 23) hx hb dX9_hand_1 (by decide) (fun c_1 => ?_) (fun c_1 => ?_)
  · skip
    refine lv_bipush (v := (-2)) hx hb dX9_hand_23 (by decide) ?_
    exact W.iret (v := (-2)) hx hb hr (fun t ht hW => ⟨(-2), rfl, rfl, ht⟩) (fun _ h9 => by cases h9) dX9_hand_25
  · skip
    refine lv_iload_n hx hb dX9_hand_4 rfl (lv_at hl 1 rfl) ?_
    refine lv_bipush (v := 40) hx hb dX9_hand_5 (by decide) ?_
    refine lv_icmp_gt (tgt := 23) hx hb dX9_hand_7 (by decide) (fun c_2 => ?_) (fun c_2 => ?_)
    · skip
      refine lv_bipush (v := (-2)) hx hb dX9_hand_23 (by decide) ?_
      exact W.iret (v := (-2)) hx hb hr (fun t ht hW => ⟨(-2), rfl, rfl, ht⟩) (fun _ h9 => by cases h9) dX9_hand_25
    · skip
      refine lv_aload_n hx hb dX9_hand_10 rfl (lv_at hl 0 rfl) ?_
      refine va_get (D := D) (ci := 9) (v := .ref (q 3)) (C := RX9) (T := TX9) (N := 11) hx hb hT in_X9 hown hK hP 0 rfl rfl 2 (by decide) (hT _ t453) (fun _ h9 => h9) rfl dX9_hand_11 ?_
      refine va_get (D := D) (ci := 8) (v := .ref (q 12)) (C := RX8) (T := TX8) (N := 6) hx hb hT in_X8 hown hK hP 1 rfl rfl 0 (by decide) (hT _ t312) (fun _ h9 => h9) rfl dX9_hand_14 ?_
      refine ro_V (As := []) (rest := []) S (c_X1_isTold l D k q wf ) lkX9_211 ok_X1_isTold ⟨rfl, rfl, Nat.le_of_ble_eq_true rfl, Nat.le_of_ble_eq_true rfl⟩ (fw_V (ci := 1) (q0 := 2) hF rfl rfl) rfl hl.1 rfl (Nat.le_of_ble_eq_true rfl) ⟨Nat.zero_le _, Nat.zero_le _⟩ dX9_hand_17 (fun r_3 er_3 => ?_)
      subst er_3
      refine lv_if_ne (tgt := 26) hx hb dX9_hand_20 (by decide) (fun c_4 => ?_) (fun c_4 => ?_)
      · first | exact absurd c_4 (by decide) | exact absurd (by decide) c_4
      refine lv_bipush (v := (-2)) hx hb dX9_hand_23 (by decide) ?_
      exact W.iret (v := (-2)) hx hb hr (fun t ht hW => ⟨(-2), rfl, rfl, ht⟩) (fun _ h9 => by cases h9) dX9_hand_25
set_option maxHeartbeats 4000000 in
set_option maxRecDepth 100000 in
theorem c_X9_takes (l : Launch) (D : va_G) (k : Nat → ClassId) (q : Nat → Nat) (wf : Nat → Int32) (p0 : Int32) (p1 : Int32)  : Met l yX9_takes (.code yX9_takes cX9_takes 3 (some .int) :: TB) (rmk 4) (va_Pc [.ref (q 0), .int p0, .int p1] (fun U => FWH D k q wf U U.heap)) (vp_Si (fun r => r = (-2))) 0 0 (fun _ => False) := by
  refine Met.ofW (cc := cX9_takes) (maxL := 3) (ret := (some .int)) (by decide) rfl ?_
  intro p e s m args below meth c s₁ B hml hv
  obtain ⟨rfl, hF⟩ := hv
  have hx := B.exec
  have hb := B.bytes
  have hr := B.returns
  have hT : ∀ w ∈ TB, w.before ([.ref (q 0), .int p0, .int p1] : List Value).toArray s = true := fun w h => atoms_spec (ws := .code yX9_takes cX9_takes 3 (some .int) :: TB) B.pre w (List.mem_cons_of_mem _ h)
  have hown : s.vm.findClass RX9 = some m.cls := findClass_of_methodNamed B.named
  have S : CallFix p m c cX9_takes 3 s _ TB RX9 := ⟨hx, hb, hml, hown, hT⟩
  have hP : va_P D vwCl [(q 0, .inr (9, [.ref (q 1), .ref (q 2), .ref (q 3), .ref (q 4), .ref (q 5), .ref (q 6), .ref (q 7), .ref (q 8), .ref (q 9), .ref (q 10), .ref (q 11)])), (q 3, .inr (8, [.ref (q 12), .ref (q 13), .int 0, .ref (q 14), .ref (q 15), .ref (q 16)])), (q 12, .inr (1, [.int 0, .int 0, .int 0, .int 0, .int 0, .int 0, .int 0, .ref (q 17), .ref (q 18), .ref (q 19), .ref (q 20), .ref (q 21), .ref (q 22), .ref (q 23)])), (q 6, .inr (4, [.ref (q 24), .ref (q 25), .ref (q 26)])), (q 24, .inl (k 0, 4, .inl wf)), (q 5, .inl (k 3, 3, .inl (fun _ => 0))), (q 1, .inr (6, [.ref (q 27), .int 0])), (q 2, .inr (2, [.ref (q 1), .ref (q 28), .int 0, .int (-1), .int 0, .int 0, .int 0, .int 0]))] s.heap := hF.1
  have hK := hF.2.1
  have hl := lv_entry ([.ref (q 0), .int p0, .int p1]) (n := 3) (Nat.le_of_ble_eq_true rfl)
  rw [lg_entry_eq]
  generalize (lg_sl ([.ref (q 0), .int p0, .int p1]) ++ List.replicate (3 - (lg_sl ([.ref (q 0), .int p0, .int p1])).length) Slot.unset).toArray = ls at hl ⊢
  have hl : lv_has ls 3 [(0, .ref (q 0)), (1, .int p0), (2, .int p1)] := hl
  refine lv_aload_n hx hb dX9_takes_0 rfl (lv_at hl 0 rfl) ?_
  refine lv_iload_n hx hb dX9_takes_1 rfl (lv_at hl 1 rfl) ?_
  refine lv_iload_n hx hb dX9_takes_2 rfl (lv_at hl 2 rfl) ?_
  refine ro_V (As := [.int p0, .int p1]) (rest := []) S (c_X9_canWant l D k q wf p0 p1) lkX9_180 ok_X9_canWant ⟨rfl, rfl, Nat.le_of_ble_eq_true rfl, Nat.le_of_ble_eq_true rfl⟩ (fw_V (ci := 9) (q0 := 0) hF rfl rfl) rfl hl.1 rfl (Nat.le_of_ble_eq_true rfl) ⟨Nat.zero_le _, Nat.zero_le _⟩ dX9_takes_3 (fun r_1 er_1 => ?_)
  subst er_1
  refine lv_if_ne (tgt := 12) hx hb dX9_takes_6 (by decide) (fun c_2 => ?_) (fun c_2 => ?_)
  · first | exact absurd c_2 (by decide) | exact absurd (by decide) c_2
  refine lv_bipush (v := (-2)) hx hb dX9_takes_9 (by decide) ?_
  exact W.iret (v := (-2)) hx hb hr (fun t ht hW => ⟨(-2), rfl, rfl, ht⟩) (fun _ h9 => by cases h9) dX9_takes_11
set_option maxHeartbeats 4000000 in
set_option maxRecDepth 100000 in
theorem c_X9_argue (l : Launch) (D : va_G) (k : Nat → ClassId) (q : Nat → Nat) (wf : Nat → Int32) (p0 : Int32) (p1 : Int32)  : Met l yX9_argue (.code yX9_argue cX9_argue 6 (some .int) :: TB) (rmk 3) (va_Pc [.ref (q 0), .int p0, .int p1] (fun U => FWH D k q wf U U.heap)) (vp_Si (fun r => r = (-2))) 0 0 (fun _ => False) := by
  refine Met.ofW (cc := cX9_argue) (maxL := 6) (ret := (some .int)) (by decide) rfl ?_
  intro p e s m args below meth c s₁ B hml hv
  obtain ⟨rfl, hF⟩ := hv
  have hx := B.exec
  have hb := B.bytes
  have hr := B.returns
  have hT : ∀ w ∈ TB, w.before ([.ref (q 0), .int p0, .int p1] : List Value).toArray s = true := fun w h => atoms_spec (ws := .code yX9_argue cX9_argue 6 (some .int) :: TB) B.pre w (List.mem_cons_of_mem _ h)
  have hown : s.vm.findClass RX9 = some m.cls := findClass_of_methodNamed B.named
  have S : CallFix p m c cX9_argue 6 s _ TB RX9 := ⟨hx, hb, hml, hown, hT⟩
  have hP : va_P D vwCl [(q 0, .inr (9, [.ref (q 1), .ref (q 2), .ref (q 3), .ref (q 4), .ref (q 5), .ref (q 6), .ref (q 7), .ref (q 8), .ref (q 9), .ref (q 10), .ref (q 11)])), (q 3, .inr (8, [.ref (q 12), .ref (q 13), .int 0, .ref (q 14), .ref (q 15), .ref (q 16)])), (q 12, .inr (1, [.int 0, .int 0, .int 0, .int 0, .int 0, .int 0, .int 0, .ref (q 17), .ref (q 18), .ref (q 19), .ref (q 20), .ref (q 21), .ref (q 22), .ref (q 23)])), (q 6, .inr (4, [.ref (q 24), .ref (q 25), .ref (q 26)])), (q 24, .inl (k 0, 4, .inl wf)), (q 5, .inl (k 3, 3, .inl (fun _ => 0))), (q 1, .inr (6, [.ref (q 27), .int 0])), (q 2, .inr (2, [.ref (q 1), .ref (q 28), .int 0, .int (-1), .int 0, .int 0, .int 0, .int 0]))] s.heap := hF.1
  have hK := hF.2.1
  have hl := lv_entry ([.ref (q 0), .int p0, .int p1]) (n := 6) (Nat.le_of_ble_eq_true rfl)
  rw [lg_entry_eq]
  generalize (lg_sl ([.ref (q 0), .int p0, .int p1]) ++ List.replicate (6 - (lg_sl ([.ref (q 0), .int p0, .int p1])).length) Slot.unset).toArray = ls at hl ⊢
  have hl : lv_has ls 6 [(0, .ref (q 0)), (1, .int p0), (2, .int p1)] := hl
  refine lv_aload_n hx hb dX9_argue_0 rfl (lv_at hl 0 rfl) ?_
  refine lv_iload_n hx hb dX9_argue_1 rfl (lv_at hl 1 rfl) ?_
  refine lv_iload_n hx hb dX9_argue_2 rfl (lv_at hl 2 rfl) ?_
  refine ro_V (As := [.int p0, .int p1]) (rest := []) S (c_X9_isByCart l D k q wf p0 p1) lkX9_191 ok_X9_isByCart ⟨rfl, rfl, Nat.le_of_ble_eq_true rfl, Nat.le_of_ble_eq_true rfl⟩ (fw_V (ci := 9) (q0 := 0) hF rfl rfl) rfl hl.1 rfl (Nat.le_of_ble_eq_true rfl) ⟨Nat.zero_le _, Nat.zero_le _⟩ dX9_argue_3 (fun r_1 er_1 => ?_)
  subst er_1
  refine lv_if_ne (tgt := 12) hx hb dX9_argue_6 (by decide) (fun c_2 => ?_) (fun c_2 => ?_)
  · first | exact absurd c_2 (by decide) | exact absurd (by decide) c_2
  refine lv_bipush (v := (-2)) hx hb dX9_argue_9 (by decide) ?_
  exact W.iret (v := (-2)) hx hb hr (fun t ht hW => ⟨(-2), rfl, rfl, ht⟩) (fun _ h9 => by cases h9) dX9_argue_11
set_option maxHeartbeats 4000000 in
set_option maxRecDepth 100000 in
theorem c_X9_drive (l : Launch) (D : va_G) (k : Nat → ClassId) (q : Nat → Nat) (wf : Nat → Int32) (p0 : Int32) (p1 : Int32)  : Met l yX9_drive (.code yX9_drive cX9_drive 3 (some .int) :: TB) (rmk 4) (va_Pc [.ref (q 0), .int p0, .int p1] (fun U => FWH D k q wf U U.heap)) (vp_Si (fun r => r = (-2))) 0 0 (fun _ => False) := by
  refine Met.ofW (cc := cX9_drive) (maxL := 3) (ret := (some .int)) (by decide) rfl ?_
  intro p e s m args below meth c s₁ B hml hv
  obtain ⟨rfl, hF⟩ := hv
  have hx := B.exec
  have hb := B.bytes
  have hr := B.returns
  have hT : ∀ w ∈ TB, w.before ([.ref (q 0), .int p0, .int p1] : List Value).toArray s = true := fun w h => atoms_spec (ws := .code yX9_drive cX9_drive 3 (some .int) :: TB) B.pre w (List.mem_cons_of_mem _ h)
  have hown : s.vm.findClass RX9 = some m.cls := findClass_of_methodNamed B.named
  have S : CallFix p m c cX9_drive 3 s _ TB RX9 := ⟨hx, hb, hml, hown, hT⟩
  have hP : va_P D vwCl [(q 0, .inr (9, [.ref (q 1), .ref (q 2), .ref (q 3), .ref (q 4), .ref (q 5), .ref (q 6), .ref (q 7), .ref (q 8), .ref (q 9), .ref (q 10), .ref (q 11)])), (q 3, .inr (8, [.ref (q 12), .ref (q 13), .int 0, .ref (q 14), .ref (q 15), .ref (q 16)])), (q 12, .inr (1, [.int 0, .int 0, .int 0, .int 0, .int 0, .int 0, .int 0, .ref (q 17), .ref (q 18), .ref (q 19), .ref (q 20), .ref (q 21), .ref (q 22), .ref (q 23)])), (q 6, .inr (4, [.ref (q 24), .ref (q 25), .ref (q 26)])), (q 24, .inl (k 0, 4, .inl wf)), (q 5, .inl (k 3, 3, .inl (fun _ => 0))), (q 1, .inr (6, [.ref (q 27), .int 0])), (q 2, .inr (2, [.ref (q 1), .ref (q 28), .int 0, .int (-1), .int 0, .int 0, .int 0, .int 0]))] s.heap := hF.1
  have hK := hF.2.1
  have hl := lv_entry ([.ref (q 0), .int p0, .int p1]) (n := 3) (Nat.le_of_ble_eq_true rfl)
  rw [lg_entry_eq]
  generalize (lg_sl ([.ref (q 0), .int p0, .int p1]) ++ List.replicate (3 - (lg_sl ([.ref (q 0), .int p0, .int p1])).length) Slot.unset).toArray = ls at hl ⊢
  have hl : lv_has ls 3 [(0, .ref (q 0)), (1, .int p0), (2, .int p1)] := hl
  refine lv_aload_n hx hb dX9_drive_0 rfl (lv_at hl 0 rfl) ?_
  refine lv_iload_n hx hb dX9_drive_1 rfl (lv_at hl 1 rfl) ?_
  refine lv_iload_n hx hb dX9_drive_2 rfl (lv_at hl 2 rfl) ?_
  refine ro_V (As := [.int p0, .int p1]) (rest := []) S (c_X9_canWant l D k q wf p0 p1) lkX9_180 ok_X9_canWant ⟨rfl, rfl, Nat.le_of_ble_eq_true rfl, Nat.le_of_ble_eq_true rfl⟩ (fw_V (ci := 9) (q0 := 0) hF rfl rfl) rfl hl.1 rfl (Nat.le_of_ble_eq_true rfl) ⟨Nat.zero_le _, Nat.zero_le _⟩ dX9_drive_3 (fun r_1 er_1 => ?_)
  subst er_1
  refine lv_if_ne (tgt := 12) hx hb dX9_drive_6 (by decide) (fun c_2 => ?_) (fun c_2 => ?_)
  · first | exact absurd c_2 (by decide) | exact absurd (by decide) c_2
  refine lv_bipush (v := (-2)) hx hb dX9_drive_9 (by decide) ?_
  exact W.iret (v := (-2)) hx hb hr (fun t ht hW => ⟨(-2), rfl, rfl, ht⟩) (fun _ h9 => by cases h9) dX9_drive_11
set_option maxHeartbeats 4000000 in
set_option maxRecDepth 100000 in
theorem c_X9_goes (l : Launch) (D : va_G) (k : Nat → ClassId) (q : Nat → Nat) (wf : Nat → Int32) (p0 : Int32) (p1 : Int32)  : Met l yX9_goes (.code yX9_goes cX9_goes 4 (some .int) :: TB) (rmk 3) (va_Pc [.ref (q 0), .int p0, .int p1] (fun U => FWH D k q wf U U.heap)) (vp_Si (fun r => r = (-2))) 0 0 (fun _ => False) := by
  refine Met.ofW (cc := cX9_goes) (maxL := 4) (ret := (some .int)) (by decide) rfl ?_
  intro p e s m args below meth c s₁ B hml hv
  obtain ⟨rfl, hF⟩ := hv
  have hx := B.exec
  have hb := B.bytes
  have hr := B.returns
  have hT : ∀ w ∈ TB, w.before ([.ref (q 0), .int p0, .int p1] : List Value).toArray s = true := fun w h => atoms_spec (ws := .code yX9_goes cX9_goes 4 (some .int) :: TB) B.pre w (List.mem_cons_of_mem _ h)
  have hown : s.vm.findClass RX9 = some m.cls := findClass_of_methodNamed B.named
  have S : CallFix p m c cX9_goes 4 s _ TB RX9 := ⟨hx, hb, hml, hown, hT⟩
  have hP : va_P D vwCl [(q 0, .inr (9, [.ref (q 1), .ref (q 2), .ref (q 3), .ref (q 4), .ref (q 5), .ref (q 6), .ref (q 7), .ref (q 8), .ref (q 9), .ref (q 10), .ref (q 11)])), (q 3, .inr (8, [.ref (q 12), .ref (q 13), .int 0, .ref (q 14), .ref (q 15), .ref (q 16)])), (q 12, .inr (1, [.int 0, .int 0, .int 0, .int 0, .int 0, .int 0, .int 0, .ref (q 17), .ref (q 18), .ref (q 19), .ref (q 20), .ref (q 21), .ref (q 22), .ref (q 23)])), (q 6, .inr (4, [.ref (q 24), .ref (q 25), .ref (q 26)])), (q 24, .inl (k 0, 4, .inl wf)), (q 5, .inl (k 3, 3, .inl (fun _ => 0))), (q 1, .inr (6, [.ref (q 27), .int 0])), (q 2, .inr (2, [.ref (q 1), .ref (q 28), .int 0, .int (-1), .int 0, .int 0, .int 0, .int 0]))] s.heap := hF.1
  have hK := hF.2.1
  have hl := lv_entry ([.ref (q 0), .int p0, .int p1]) (n := 4) (Nat.le_of_ble_eq_true rfl)
  rw [lg_entry_eq]
  generalize (lg_sl ([.ref (q 0), .int p0, .int p1]) ++ List.replicate (4 - (lg_sl ([.ref (q 0), .int p0, .int p1])).length) Slot.unset).toArray = ls at hl ⊢
  have hl : lv_has ls 4 [(0, .ref (q 0)), (1, .int p0), (2, .int p1)] := hl
  refine lv_aload_n hx hb dX9_goes_0 rfl (lv_at hl 0 rfl) ?_
  refine lv_iload_n hx hb dX9_goes_1 rfl (lv_at hl 1 rfl) ?_
  refine lv_iload_n hx hb dX9_goes_2 rfl (lv_at hl 2 rfl) ?_
  refine ro_V (As := [.int p0, .int p1]) (rest := []) S (c_X9_follow l D k q wf p0 p1) lkX9_220 ok_X9_follow ⟨rfl, rfl, Nat.le_of_ble_eq_true rfl, Nat.le_of_ble_eq_true rfl⟩ (fw_V (ci := 9) (q0 := 0) hF rfl rfl) rfl hl.1 rfl (Nat.le_of_ble_eq_true rfl) ⟨Nat.zero_le _, Nat.zero_le _⟩ dX9_goes_3 (fun r_1 er_1 => ?_)
  subst er_1
  refine lv_istore_n (lv' := [(3, .int (-2)), (0, .ref (q 0)), (1, .int p0), (2, .int p1)]) hx hb dX9_goes_6 rfl hl (by decide) rfl (fun ls hl => ?_)
  refine lv_iload_n hx hb dX9_goes_7 rfl (lv_at hl 0 rfl) ?_
  refine lv_if_eq (tgt := 15) hx hb dX9_goes_8 (by decide) (fun c_2 => ?_) (fun c_2 => ?_)
  · first | exact absurd c_2 (by decide) | exact absurd (by decide) c_2
  refine lv_iload_n hx hb dX9_goes_11 rfl (lv_at hl 0 rfl) ?_
  refine lv_goto (tgt := 22) hx hb dX9_goes_12 (by decide) ?_
  exact W.iret (v := (-2)) hx hb hr (fun t ht hW => ⟨(-2), rfl, rfl, ht⟩) (fun _ h9 => by cases h9) dX9_goes_22
set_option maxHeartbeats 4000000 in
set_option maxRecDepth 100000 in
theorem c_X9_ends (l : Launch) (D : va_G) (k : Nat → ClassId) (q : Nat → Nat) (wf : Nat → Int32) (p0 : Int32) (p1 : Int32)  : Met l yX9_ends (.code yX9_ends cX9_ends 4 (some .int) :: TB) (rmk 3) (va_Pc [.ref (q 0), .int p0, .int p1] (fun U => FWH D k q wf U U.heap)) (vp_Si (fun r => r = (-2))) 0 0 (fun _ => False) := by
  refine Met.ofW (cc := cX9_ends) (maxL := 4) (ret := (some .int)) (by decide) rfl ?_
  intro p e s m args below meth c s₁ B hml hv
  obtain ⟨rfl, hF⟩ := hv
  have hx := B.exec
  have hb := B.bytes
  have hr := B.returns
  have hT : ∀ w ∈ TB, w.before ([.ref (q 0), .int p0, .int p1] : List Value).toArray s = true := fun w h => atoms_spec (ws := .code yX9_ends cX9_ends 4 (some .int) :: TB) B.pre w (List.mem_cons_of_mem _ h)
  have hown : s.vm.findClass RX9 = some m.cls := findClass_of_methodNamed B.named
  have S : CallFix p m c cX9_ends 4 s _ TB RX9 := ⟨hx, hb, hml, hown, hT⟩
  have hP : va_P D vwCl [(q 0, .inr (9, [.ref (q 1), .ref (q 2), .ref (q 3), .ref (q 4), .ref (q 5), .ref (q 6), .ref (q 7), .ref (q 8), .ref (q 9), .ref (q 10), .ref (q 11)])), (q 3, .inr (8, [.ref (q 12), .ref (q 13), .int 0, .ref (q 14), .ref (q 15), .ref (q 16)])), (q 12, .inr (1, [.int 0, .int 0, .int 0, .int 0, .int 0, .int 0, .int 0, .ref (q 17), .ref (q 18), .ref (q 19), .ref (q 20), .ref (q 21), .ref (q 22), .ref (q 23)])), (q 6, .inr (4, [.ref (q 24), .ref (q 25), .ref (q 26)])), (q 24, .inl (k 0, 4, .inl wf)), (q 5, .inl (k 3, 3, .inl (fun _ => 0))), (q 1, .inr (6, [.ref (q 27), .int 0])), (q 2, .inr (2, [.ref (q 1), .ref (q 28), .int 0, .int (-1), .int 0, .int 0, .int 0, .int 0]))] s.heap := hF.1
  have hK := hF.2.1
  have hl := lv_entry ([.ref (q 0), .int p0, .int p1]) (n := 4) (Nat.le_of_ble_eq_true rfl)
  rw [lg_entry_eq]
  generalize (lg_sl ([.ref (q 0), .int p0, .int p1]) ++ List.replicate (4 - (lg_sl ([.ref (q 0), .int p0, .int p1])).length) Slot.unset).toArray = ls at hl ⊢
  have hl : lv_has ls 4 [(0, .ref (q 0)), (1, .int p0), (2, .int p1)] := hl
  refine lv_aload_n hx hb dX9_ends_0 rfl (lv_at hl 0 rfl) ?_
  refine lv_iload_n hx hb dX9_ends_1 rfl (lv_at hl 1 rfl) ?_
  refine lv_iload_n hx hb dX9_ends_2 rfl (lv_at hl 2 rfl) ?_
  refine ro_V (As := [.int p0, .int p1]) (rest := []) S (c_X9_follow l D k q wf p0 p1) lkX9_220 ok_X9_follow ⟨rfl, rfl, Nat.le_of_ble_eq_true rfl, Nat.le_of_ble_eq_true rfl⟩ (fw_V (ci := 9) (q0 := 0) hF rfl rfl) rfl hl.1 rfl (Nat.le_of_ble_eq_true rfl) ⟨Nat.zero_le _, Nat.zero_le _⟩ dX9_ends_3 (fun r_1 er_1 => ?_)
  subst er_1
  refine lv_istore_n (lv' := [(3, .int (-2)), (0, .ref (q 0)), (1, .int p0), (2, .int p1)]) hx hb dX9_ends_6 rfl hl (by decide) rfl (fun ls hl => ?_)
  refine lv_iload_n hx hb dX9_ends_7 rfl (lv_at hl 0 rfl) ?_
  refine lv_if_eq (tgt := 15) hx hb dX9_ends_8 (by decide) (fun c_2 => ?_) (fun c_2 => ?_)
  · first | exact absurd c_2 (by decide) | exact absurd (by decide) c_2
  refine lv_iload_n hx hb dX9_ends_11 rfl (lv_at hl 0 rfl) ?_
  refine lv_goto (tgt := 22) hx hb dX9_ends_12 (by decide) ?_
  exact W.iret (v := (-2)) hx hb hr (fun t ht hW => ⟨(-2), rfl, rfl, ht⟩) (fun _ h9 => by cases h9) dX9_ends_22
set_option maxHeartbeats 4000000 in
set_option maxRecDepth 100000 in
theorem c_X9_ran (l : Launch) (D : va_G) (k : Nat → ClassId) (q : Nat → Nat) (wf : Nat → Int32) (p0 : Int32) (p1 : Int32)  : Met l yX9_ran (.code yX9_ran cX9_ran 4 (some .int) :: TB) (rmk 3) (va_Pc [.ref (q 0), .int p0, .int p1] (fun U => FWH D k q wf U U.heap)) (vp_Si (fun r => r = (-2))) 0 0 (fun _ => False) := by
  refine Met.ofW (cc := cX9_ran) (maxL := 4) (ret := (some .int)) (by decide) rfl ?_
  intro p e s m args below meth c s₁ B hml hv
  obtain ⟨rfl, hF⟩ := hv
  have hx := B.exec
  have hb := B.bytes
  have hr := B.returns
  have hT : ∀ w ∈ TB, w.before ([.ref (q 0), .int p0, .int p1] : List Value).toArray s = true := fun w h => atoms_spec (ws := .code yX9_ran cX9_ran 4 (some .int) :: TB) B.pre w (List.mem_cons_of_mem _ h)
  have hown : s.vm.findClass RX9 = some m.cls := findClass_of_methodNamed B.named
  have S : CallFix p m c cX9_ran 4 s _ TB RX9 := ⟨hx, hb, hml, hown, hT⟩
  have hP : va_P D vwCl [(q 0, .inr (9, [.ref (q 1), .ref (q 2), .ref (q 3), .ref (q 4), .ref (q 5), .ref (q 6), .ref (q 7), .ref (q 8), .ref (q 9), .ref (q 10), .ref (q 11)])), (q 3, .inr (8, [.ref (q 12), .ref (q 13), .int 0, .ref (q 14), .ref (q 15), .ref (q 16)])), (q 12, .inr (1, [.int 0, .int 0, .int 0, .int 0, .int 0, .int 0, .int 0, .ref (q 17), .ref (q 18), .ref (q 19), .ref (q 20), .ref (q 21), .ref (q 22), .ref (q 23)])), (q 6, .inr (4, [.ref (q 24), .ref (q 25), .ref (q 26)])), (q 24, .inl (k 0, 4, .inl wf)), (q 5, .inl (k 3, 3, .inl (fun _ => 0))), (q 1, .inr (6, [.ref (q 27), .int 0])), (q 2, .inr (2, [.ref (q 1), .ref (q 28), .int 0, .int (-1), .int 0, .int 0, .int 0, .int 0]))] s.heap := hF.1
  have hK := hF.2.1
  have hl := lv_entry ([.ref (q 0), .int p0, .int p1]) (n := 4) (Nat.le_of_ble_eq_true rfl)
  rw [lg_entry_eq]
  generalize (lg_sl ([.ref (q 0), .int p0, .int p1]) ++ List.replicate (4 - (lg_sl ([.ref (q 0), .int p0, .int p1])).length) Slot.unset).toArray = ls at hl ⊢
  have hl : lv_has ls 4 [(0, .ref (q 0)), (1, .int p0), (2, .int p1)] := hl
  refine lv_aload_n hx hb dX9_ran_0 rfl (lv_at hl 0 rfl) ?_
  refine lv_iload_n hx hb dX9_ran_1 rfl (lv_at hl 1 rfl) ?_
  refine lv_iload_n hx hb dX9_ran_2 rfl (lv_at hl 2 rfl) ?_
  refine ro_V (As := [.int p0, .int p1]) (rest := []) S (c_X9_follow l D k q wf p0 p1) lkX9_220 ok_X9_follow ⟨rfl, rfl, Nat.le_of_ble_eq_true rfl, Nat.le_of_ble_eq_true rfl⟩ (fw_V (ci := 9) (q0 := 0) hF rfl rfl) rfl hl.1 rfl (Nat.le_of_ble_eq_true rfl) ⟨Nat.zero_le _, Nat.zero_le _⟩ dX9_ran_3 (fun r_1 er_1 => ?_)
  subst er_1
  refine lv_istore_n (lv' := [(3, .int (-2)), (0, .ref (q 0)), (1, .int p0), (2, .int p1)]) hx hb dX9_ran_6 rfl hl (by decide) rfl (fun ls hl => ?_)
  refine lv_iload_n hx hb dX9_ran_7 rfl (lv_at hl 0 rfl) ?_
  refine lv_if_eq (tgt := 15) hx hb dX9_ran_8 (by decide) (fun c_2 => ?_) (fun c_2 => ?_)
  · first | exact absurd c_2 (by decide) | exact absurd (by decide) c_2
  refine lv_iload_n hx hb dX9_ran_11 rfl (lv_at hl 0 rfl) ?_
  refine lv_goto (tgt := 22) hx hb dX9_ran_12 (by decide) ?_
  exact W.iret (v := (-2)) hx hb hr (fun t ht hW => ⟨(-2), rfl, rfl, ht⟩) (fun _ h9 => by cases h9) dX9_ran_22
set_option maxHeartbeats 4000000 in
set_option maxRecDepth 100000 in
theorem c_X9_astray (l : Launch) (D : va_G) (k : Nat → ClassId) (q : Nat → Nat) (wf : Nat → Int32) (p0 : Int32) (p1 : Int32)  : Met l yX9_astray (.code yX9_astray cX9_astray 4 (some .int) :: TB) (rmk 3) (va_Pc [.ref (q 0), .int p0, .int p1] (fun U => FWH D k q wf U U.heap)) (vp_Si (fun r => r = (-2))) 0 0 (fun _ => False) := by
  refine Met.ofW (cc := cX9_astray) (maxL := 4) (ret := (some .int)) (by decide) rfl ?_
  intro p e s m args below meth c s₁ B hml hv
  obtain ⟨rfl, hF⟩ := hv
  have hx := B.exec
  have hb := B.bytes
  have hr := B.returns
  have hT : ∀ w ∈ TB, w.before ([.ref (q 0), .int p0, .int p1] : List Value).toArray s = true := fun w h => atoms_spec (ws := .code yX9_astray cX9_astray 4 (some .int) :: TB) B.pre w (List.mem_cons_of_mem _ h)
  have hown : s.vm.findClass RX9 = some m.cls := findClass_of_methodNamed B.named
  have S : CallFix p m c cX9_astray 4 s _ TB RX9 := ⟨hx, hb, hml, hown, hT⟩
  have hP : va_P D vwCl [(q 0, .inr (9, [.ref (q 1), .ref (q 2), .ref (q 3), .ref (q 4), .ref (q 5), .ref (q 6), .ref (q 7), .ref (q 8), .ref (q 9), .ref (q 10), .ref (q 11)])), (q 3, .inr (8, [.ref (q 12), .ref (q 13), .int 0, .ref (q 14), .ref (q 15), .ref (q 16)])), (q 12, .inr (1, [.int 0, .int 0, .int 0, .int 0, .int 0, .int 0, .int 0, .ref (q 17), .ref (q 18), .ref (q 19), .ref (q 20), .ref (q 21), .ref (q 22), .ref (q 23)])), (q 6, .inr (4, [.ref (q 24), .ref (q 25), .ref (q 26)])), (q 24, .inl (k 0, 4, .inl wf)), (q 5, .inl (k 3, 3, .inl (fun _ => 0))), (q 1, .inr (6, [.ref (q 27), .int 0])), (q 2, .inr (2, [.ref (q 1), .ref (q 28), .int 0, .int (-1), .int 0, .int 0, .int 0, .int 0]))] s.heap := hF.1
  have hK := hF.2.1
  have hl := lv_entry ([.ref (q 0), .int p0, .int p1]) (n := 4) (Nat.le_of_ble_eq_true rfl)
  rw [lg_entry_eq]
  generalize (lg_sl ([.ref (q 0), .int p0, .int p1]) ++ List.replicate (4 - (lg_sl ([.ref (q 0), .int p0, .int p1])).length) Slot.unset).toArray = ls at hl ⊢
  have hl : lv_has ls 4 [(0, .ref (q 0)), (1, .int p0), (2, .int p1)] := hl
  refine lv_aload_n hx hb dX9_astray_0 rfl (lv_at hl 0 rfl) ?_
  refine lv_iload_n hx hb dX9_astray_1 rfl (lv_at hl 1 rfl) ?_
  refine lv_iload_n hx hb dX9_astray_2 rfl (lv_at hl 2 rfl) ?_
  refine ro_V (As := [.int p0, .int p1]) (rest := []) S (c_X9_follow l D k q wf p0 p1) lkX9_220 ok_X9_follow ⟨rfl, rfl, Nat.le_of_ble_eq_true rfl, Nat.le_of_ble_eq_true rfl⟩ (fw_V (ci := 9) (q0 := 0) hF rfl rfl) rfl hl.1 rfl (Nat.le_of_ble_eq_true rfl) ⟨Nat.zero_le _, Nat.zero_le _⟩ dX9_astray_3 (fun r_1 er_1 => ?_)
  subst er_1
  refine lv_istore_n (lv' := [(3, .int (-2)), (0, .ref (q 0)), (1, .int p0), (2, .int p1)]) hx hb dX9_astray_6 rfl hl (by decide) rfl (fun ls hl => ?_)
  refine lv_iload_n hx hb dX9_astray_7 rfl (lv_at hl 0 rfl) ?_
  refine lv_if_eq (tgt := 15) hx hb dX9_astray_8 (by decide) (fun c_2 => ?_) (fun c_2 => ?_)
  · first | exact absurd c_2 (by decide) | exact absurd (by decide) c_2
  refine lv_iload_n hx hb dX9_astray_11 rfl (lv_at hl 0 rfl) ?_
  refine lv_goto (tgt := 22) hx hb dX9_astray_12 (by decide) ?_
  exact W.iret (v := (-2)) hx hb hr (fun t ht hW => ⟨(-2), rfl, rfl, ht⟩) (fun _ h9 => by cases h9) dX9_astray_22
set_option maxHeartbeats 4000000 in
set_option maxRecDepth 100000 in
theorem c_X9_worn (l : Launch) (D : va_G) (k : Nat → ClassId) (q : Nat → Nat) (wf : Nat → Int32) (p0 : Int32) (p1 : Int32)  : Met l yX9_worn (.code yX9_worn cX9_worn 4 (some .int) :: TB) (rmk 3) (va_Pc [.ref (q 0), .int p0, .int p1] (fun U => FWH D k q wf U U.heap)) (vp_Si (fun r => r = (-2))) 0 0 (fun _ => False) := by
  refine Met.ofW (cc := cX9_worn) (maxL := 4) (ret := (some .int)) (by decide) rfl ?_
  intro p e s m args below meth c s₁ B hml hv
  obtain ⟨rfl, hF⟩ := hv
  have hx := B.exec
  have hb := B.bytes
  have hr := B.returns
  have hT : ∀ w ∈ TB, w.before ([.ref (q 0), .int p0, .int p1] : List Value).toArray s = true := fun w h => atoms_spec (ws := .code yX9_worn cX9_worn 4 (some .int) :: TB) B.pre w (List.mem_cons_of_mem _ h)
  have hown : s.vm.findClass RX9 = some m.cls := findClass_of_methodNamed B.named
  have S : CallFix p m c cX9_worn 4 s _ TB RX9 := ⟨hx, hb, hml, hown, hT⟩
  have hP : va_P D vwCl [(q 0, .inr (9, [.ref (q 1), .ref (q 2), .ref (q 3), .ref (q 4), .ref (q 5), .ref (q 6), .ref (q 7), .ref (q 8), .ref (q 9), .ref (q 10), .ref (q 11)])), (q 3, .inr (8, [.ref (q 12), .ref (q 13), .int 0, .ref (q 14), .ref (q 15), .ref (q 16)])), (q 12, .inr (1, [.int 0, .int 0, .int 0, .int 0, .int 0, .int 0, .int 0, .ref (q 17), .ref (q 18), .ref (q 19), .ref (q 20), .ref (q 21), .ref (q 22), .ref (q 23)])), (q 6, .inr (4, [.ref (q 24), .ref (q 25), .ref (q 26)])), (q 24, .inl (k 0, 4, .inl wf)), (q 5, .inl (k 3, 3, .inl (fun _ => 0))), (q 1, .inr (6, [.ref (q 27), .int 0])), (q 2, .inr (2, [.ref (q 1), .ref (q 28), .int 0, .int (-1), .int 0, .int 0, .int 0, .int 0]))] s.heap := hF.1
  have hK := hF.2.1
  have hl := lv_entry ([.ref (q 0), .int p0, .int p1]) (n := 4) (Nat.le_of_ble_eq_true rfl)
  rw [lg_entry_eq]
  generalize (lg_sl ([.ref (q 0), .int p0, .int p1]) ++ List.replicate (4 - (lg_sl ([.ref (q 0), .int p0, .int p1])).length) Slot.unset).toArray = ls at hl ⊢
  have hl : lv_has ls 4 [(0, .ref (q 0)), (1, .int p0), (2, .int p1)] := hl
  refine lv_aload_n hx hb dX9_worn_0 rfl (lv_at hl 0 rfl) ?_
  refine lv_iload_n hx hb dX9_worn_1 rfl (lv_at hl 1 rfl) ?_
  refine lv_iload_n hx hb dX9_worn_2 rfl (lv_at hl 2 rfl) ?_
  refine ro_V (As := [.int p0, .int p1]) (rest := []) S (c_X9_follow l D k q wf p0 p1) lkX9_220 ok_X9_follow ⟨rfl, rfl, Nat.le_of_ble_eq_true rfl, Nat.le_of_ble_eq_true rfl⟩ (fw_V (ci := 9) (q0 := 0) hF rfl rfl) rfl hl.1 rfl (Nat.le_of_ble_eq_true rfl) ⟨Nat.zero_le _, Nat.zero_le _⟩ dX9_worn_3 (fun r_1 er_1 => ?_)
  subst er_1
  refine lv_istore_n (lv' := [(3, .int (-2)), (0, .ref (q 0)), (1, .int p0), (2, .int p1)]) hx hb dX9_worn_6 rfl hl (by decide) rfl (fun ls hl => ?_)
  refine lv_iload_n hx hb dX9_worn_7 rfl (lv_at hl 0 rfl) ?_
  refine lv_if_eq (tgt := 15) hx hb dX9_worn_8 (by decide) (fun c_2 => ?_) (fun c_2 => ?_)
  · first | exact absurd c_2 (by decide) | exact absurd (by decide) c_2
  refine lv_iload_n hx hb dX9_worn_11 rfl (lv_at hl 0 rfl) ?_
  refine lv_goto (tgt := 22) hx hb dX9_worn_12 (by decide) ?_
  exact W.iret (v := (-2)) hx hb hr (fun t ht hW => ⟨(-2), rfl, rfl, ht⟩) (fun _ h9 => by cases h9) dX9_worn_22
set_option maxHeartbeats 4000000 in
set_option maxRecDepth 100000 in
theorem c_X9_fits (l : Launch) (D : va_G) (k : Nat → ClassId) (q : Nat → Nat) (wf : Nat → Int32) (p0 : Int32)  : Met l yX9_fits (.code yX9_fits cX9_fits 2 (some .int) :: TB) (rmk 3) (va_Pc [.ref (q 0), .int p0] (fun U => FWH D k q wf U U.heap)) (vp_Si (fun r => r = (-2))) 0 0 (fun _ => False) := by
  refine Met.ofW (cc := cX9_fits) (maxL := 2) (ret := (some .int)) (by decide) rfl ?_
  intro p e s m args below meth c s₁ B hml hv
  obtain ⟨rfl, hF⟩ := hv
  have hx := B.exec
  have hb := B.bytes
  have hr := B.returns
  have hT : ∀ w ∈ TB, w.before ([.ref (q 0), .int p0] : List Value).toArray s = true := fun w h => atoms_spec (ws := .code yX9_fits cX9_fits 2 (some .int) :: TB) B.pre w (List.mem_cons_of_mem _ h)
  have hown : s.vm.findClass RX9 = some m.cls := findClass_of_methodNamed B.named
  have S : CallFix p m c cX9_fits 2 s _ TB RX9 := ⟨hx, hb, hml, hown, hT⟩
  have hP : va_P D vwCl [(q 0, .inr (9, [.ref (q 1), .ref (q 2), .ref (q 3), .ref (q 4), .ref (q 5), .ref (q 6), .ref (q 7), .ref (q 8), .ref (q 9), .ref (q 10), .ref (q 11)])), (q 3, .inr (8, [.ref (q 12), .ref (q 13), .int 0, .ref (q 14), .ref (q 15), .ref (q 16)])), (q 12, .inr (1, [.int 0, .int 0, .int 0, .int 0, .int 0, .int 0, .int 0, .ref (q 17), .ref (q 18), .ref (q 19), .ref (q 20), .ref (q 21), .ref (q 22), .ref (q 23)])), (q 6, .inr (4, [.ref (q 24), .ref (q 25), .ref (q 26)])), (q 24, .inl (k 0, 4, .inl wf)), (q 5, .inl (k 3, 3, .inl (fun _ => 0))), (q 1, .inr (6, [.ref (q 27), .int 0])), (q 2, .inr (2, [.ref (q 1), .ref (q 28), .int 0, .int (-1), .int 0, .int 0, .int 0, .int 0]))] s.heap := hF.1
  have hK := hF.2.1
  have hl := lv_entry ([.ref (q 0), .int p0]) (n := 2) (Nat.le_of_ble_eq_true rfl)
  rw [lg_entry_eq]
  generalize (lg_sl ([.ref (q 0), .int p0]) ++ List.replicate (2 - (lg_sl ([.ref (q 0), .int p0])).length) Slot.unset).toArray = ls at hl ⊢
  have hl : lv_has ls 2 [(0, .ref (q 0)), (1, .int p0)] := hl
  refine lv_aload_n hx hb dX9_fits_0 rfl (lv_at hl 0 rfl) ?_
  refine lv_iload_n hx hb dX9_fits_1 rfl (lv_at hl 1 rfl) ?_
  refine ro_V (As := [.int p0]) (rest := []) S (c_X9_fitting l D k q wf p0) lkX9_332 ok_X9_fitting ⟨rfl, rfl, Nat.le_of_ble_eq_true rfl, Nat.le_of_ble_eq_true rfl⟩ (fw_V (ci := 9) (q0 := 0) hF rfl rfl) rfl hl.1 rfl (Nat.le_of_ble_eq_true rfl) ⟨Nat.zero_le _, Nat.zero_le _⟩ dX9_fits_2 (fun r_1 er_1 => ?_)
  subst er_1
  exact W.iret (v := (-2)) hx hb hr (fun t ht hW => ⟨(-2), rfl, rfl, ht⟩) (fun _ h9 => by cases h9) dX9_fits_5
set_option maxHeartbeats 4000000 in
set_option maxRecDepth 100000 in
theorem c_X9_ask (l : Launch) (D : va_G) (k : Nat → ClassId) (q : Nat → Nat) (wf : Nat → Int32) (p0 : Int32)  : Met l yX9_ask (.code yX9_ask cX9_ask 3 (some .int) :: TB) (rmk 3) (va_Pc [.ref (q 0), .int p0] (fun U => FWH D k q wf U U.heap)) (vp_Si (fun r => r = (-2))) 0 0 (fun _ => False) := by
  refine Met.ofW (cc := cX9_ask) (maxL := 3) (ret := (some .int)) (by decide) rfl ?_
  intro p e s m args below meth c s₁ B hml hv
  obtain ⟨rfl, hF⟩ := hv
  have hx := B.exec
  have hb := B.bytes
  have hr := B.returns
  have hT : ∀ w ∈ TB, w.before ([.ref (q 0), .int p0] : List Value).toArray s = true := fun w h => atoms_spec (ws := .code yX9_ask cX9_ask 3 (some .int) :: TB) B.pre w (List.mem_cons_of_mem _ h)
  have hown : s.vm.findClass RX9 = some m.cls := findClass_of_methodNamed B.named
  have S : CallFix p m c cX9_ask 3 s _ TB RX9 := ⟨hx, hb, hml, hown, hT⟩
  have hP : va_P D vwCl [(q 0, .inr (9, [.ref (q 1), .ref (q 2), .ref (q 3), .ref (q 4), .ref (q 5), .ref (q 6), .ref (q 7), .ref (q 8), .ref (q 9), .ref (q 10), .ref (q 11)])), (q 3, .inr (8, [.ref (q 12), .ref (q 13), .int 0, .ref (q 14), .ref (q 15), .ref (q 16)])), (q 12, .inr (1, [.int 0, .int 0, .int 0, .int 0, .int 0, .int 0, .int 0, .ref (q 17), .ref (q 18), .ref (q 19), .ref (q 20), .ref (q 21), .ref (q 22), .ref (q 23)])), (q 6, .inr (4, [.ref (q 24), .ref (q 25), .ref (q 26)])), (q 24, .inl (k 0, 4, .inl wf)), (q 5, .inl (k 3, 3, .inl (fun _ => 0))), (q 1, .inr (6, [.ref (q 27), .int 0])), (q 2, .inr (2, [.ref (q 1), .ref (q 28), .int 0, .int (-1), .int 0, .int 0, .int 0, .int 0]))] s.heap := hF.1
  have hK := hF.2.1
  have hl := lv_entry ([.ref (q 0), .int p0]) (n := 3) (Nat.le_of_ble_eq_true rfl)
  rw [lg_entry_eq]
  generalize (lg_sl ([.ref (q 0), .int p0]) ++ List.replicate (3 - (lg_sl ([.ref (q 0), .int p0])).length) Slot.unset).toArray = ls at hl ⊢
  have hl : lv_has ls 3 [(0, .ref (q 0)), (1, .int p0)] := hl
  refine lv_aload_n hx hb dX9_ask_0 rfl (lv_at hl 0 rfl) ?_
  refine lv_iload_n hx hb dX9_ask_1 rfl (lv_at hl 1 rfl) ?_
  refine ro_V (As := [.int p0]) (rest := []) S (c_X9_fitting l D k q wf p0) lkX9_332 ok_X9_fitting ⟨rfl, rfl, Nat.le_of_ble_eq_true rfl, Nat.le_of_ble_eq_true rfl⟩ (fw_V (ci := 9) (q0 := 0) hF rfl rfl) rfl hl.1 rfl (Nat.le_of_ble_eq_true rfl) ⟨Nat.zero_le _, Nat.zero_le _⟩ dX9_ask_2 (fun r_1 er_1 => ?_)
  subst er_1
  refine lv_istore_n (lv' := [(2, .int (-2)), (0, .ref (q 0)), (1, .int p0)]) hx hb dX9_ask_5 rfl hl (by decide) rfl (fun ls hl => ?_)
  refine lv_iload_n hx hb dX9_ask_6 rfl (lv_at hl 0 rfl) ?_
  refine lv_if_ge (tgt := 14) hx hb dX9_ask_7 (by decide) (fun c_2 => ?_) (fun c_2 => ?_)
  · first | exact absurd c_2 (by decide) | exact absurd (by decide) c_2
  refine lv_iload_n hx hb dX9_ask_10 rfl (lv_at hl 0 rfl) ?_
  refine lv_goto (tgt := 19) hx hb dX9_ask_11 (by decide) ?_
  exact W.iret (v := (-2)) hx hb hr (fun t ht hW => ⟨(-2), rfl, rfl, ht⟩) (fun _ h9 => by cases h9) dX9_ask_19
set_option maxHeartbeats 4000000 in
set_option maxRecDepth 100000 in
theorem c_X9_leaves (l : Launch) (D : va_G) (k : Nat → ClassId) (q : Nat → Nat) (wf : Nat → Int32) (p0 : Int32)  : Met l yX9_leaves (.code yX9_leaves cX9_leaves 4 (some .int) :: TB) (rmk 3) (va_Pc [.ref (q 0), .int p0] (fun U => FWH D k q wf U U.heap)) (vp_Si (fun r => r = (-2))) 0 0 (fun _ => False) := by
  refine Met.ofW (cc := cX9_leaves) (maxL := 4) (ret := (some .int)) (by decide) rfl ?_
  intro p e s m args below meth c s₁ B hml hv
  obtain ⟨rfl, hF⟩ := hv
  have hx := B.exec
  have hb := B.bytes
  have hr := B.returns
  have hT : ∀ w ∈ TB, w.before ([.ref (q 0), .int p0] : List Value).toArray s = true := fun w h => atoms_spec (ws := .code yX9_leaves cX9_leaves 4 (some .int) :: TB) B.pre w (List.mem_cons_of_mem _ h)
  have hown : s.vm.findClass RX9 = some m.cls := findClass_of_methodNamed B.named
  have S : CallFix p m c cX9_leaves 4 s _ TB RX9 := ⟨hx, hb, hml, hown, hT⟩
  have hP : va_P D vwCl [(q 0, .inr (9, [.ref (q 1), .ref (q 2), .ref (q 3), .ref (q 4), .ref (q 5), .ref (q 6), .ref (q 7), .ref (q 8), .ref (q 9), .ref (q 10), .ref (q 11)])), (q 3, .inr (8, [.ref (q 12), .ref (q 13), .int 0, .ref (q 14), .ref (q 15), .ref (q 16)])), (q 12, .inr (1, [.int 0, .int 0, .int 0, .int 0, .int 0, .int 0, .int 0, .ref (q 17), .ref (q 18), .ref (q 19), .ref (q 20), .ref (q 21), .ref (q 22), .ref (q 23)])), (q 6, .inr (4, [.ref (q 24), .ref (q 25), .ref (q 26)])), (q 24, .inl (k 0, 4, .inl wf)), (q 5, .inl (k 3, 3, .inl (fun _ => 0))), (q 1, .inr (6, [.ref (q 27), .int 0])), (q 2, .inr (2, [.ref (q 1), .ref (q 28), .int 0, .int (-1), .int 0, .int 0, .int 0, .int 0]))] s.heap := hF.1
  have hK := hF.2.1
  have hl := lv_entry ([.ref (q 0), .int p0]) (n := 4) (Nat.le_of_ble_eq_true rfl)
  rw [lg_entry_eq]
  generalize (lg_sl ([.ref (q 0), .int p0]) ++ List.replicate (4 - (lg_sl ([.ref (q 0), .int p0])).length) Slot.unset).toArray = ls at hl ⊢
  have hl : lv_has ls 4 [(0, .ref (q 0)), (1, .int p0)] := hl
  refine lv_aload_n hx hb dX9_leaves_0 rfl (lv_at hl 0 rfl) ?_
  refine lv_iload_n hx hb dX9_leaves_1 rfl (lv_at hl 1 rfl) ?_
  refine ro_V (As := [.int p0]) (rest := []) S (c_X9_fitting l D k q wf p0) lkX9_332 ok_X9_fitting ⟨rfl, rfl, Nat.le_of_ble_eq_true rfl, Nat.le_of_ble_eq_true rfl⟩ (fw_V (ci := 9) (q0 := 0) hF rfl rfl) rfl hl.1 rfl (Nat.le_of_ble_eq_true rfl) ⟨Nat.zero_le _, Nat.zero_le _⟩ dX9_leaves_2 (fun r_1 er_1 => ?_)
  subst er_1
  refine lv_istore_n (lv' := [(2, .int (-2)), (0, .ref (q 0)), (1, .int p0)]) hx hb dX9_leaves_5 rfl hl (by decide) rfl (fun ls hl => ?_)
  refine lv_iload_n hx hb dX9_leaves_6 rfl (lv_at hl 0 rfl) ?_
  refine lv_if_ge (tgt := 12) hx hb dX9_leaves_7 (by decide) (fun c_2 => ?_) (fun c_2 => ?_)
  · first | exact absurd c_2 (by decide) | exact absurd (by decide) c_2
  refine lv_iload_n hx hb dX9_leaves_10 rfl (lv_at hl 0 rfl) ?_
  exact W.iret (v := (-2)) hx hb hr (fun t ht hW => ⟨(-2), rfl, rfl, ht⟩) (fun _ h9 => by cases h9) dX9_leaves_11
set_option maxHeartbeats 4000000 in
set_option maxRecDepth 100000 in
theorem c_X9_blind (l : Launch) (D : va_G) (k : Nat → ClassId) (q : Nat → Nat) (wf : Nat → Int32) (p0 : Int32) (p1 : Int32)  : Met l yX9_blind (.code yX9_blind cX9_blind 4 (some .int) :: TB) (rmk 3) (va_Pc [.ref (q 0), .int p0, .int p1] (fun U => FWH D k q wf U U.heap)) (vp_Si (fun r => r = (-2))) 0 0 (fun _ => False) := by
  refine Met.ofW (cc := cX9_blind) (maxL := 4) (ret := (some .int)) (by decide) rfl ?_
  intro p e s m args below meth c s₁ B hml hv
  obtain ⟨rfl, hF⟩ := hv
  have hx := B.exec
  have hb := B.bytes
  have hr := B.returns
  have hT : ∀ w ∈ TB, w.before ([.ref (q 0), .int p0, .int p1] : List Value).toArray s = true := fun w h => atoms_spec (ws := .code yX9_blind cX9_blind 4 (some .int) :: TB) B.pre w (List.mem_cons_of_mem _ h)
  have hown : s.vm.findClass RX9 = some m.cls := findClass_of_methodNamed B.named
  have S : CallFix p m c cX9_blind 4 s _ TB RX9 := ⟨hx, hb, hml, hown, hT⟩
  have hP : va_P D vwCl [(q 0, .inr (9, [.ref (q 1), .ref (q 2), .ref (q 3), .ref (q 4), .ref (q 5), .ref (q 6), .ref (q 7), .ref (q 8), .ref (q 9), .ref (q 10), .ref (q 11)])), (q 3, .inr (8, [.ref (q 12), .ref (q 13), .int 0, .ref (q 14), .ref (q 15), .ref (q 16)])), (q 12, .inr (1, [.int 0, .int 0, .int 0, .int 0, .int 0, .int 0, .int 0, .ref (q 17), .ref (q 18), .ref (q 19), .ref (q 20), .ref (q 21), .ref (q 22), .ref (q 23)])), (q 6, .inr (4, [.ref (q 24), .ref (q 25), .ref (q 26)])), (q 24, .inl (k 0, 4, .inl wf)), (q 5, .inl (k 3, 3, .inl (fun _ => 0))), (q 1, .inr (6, [.ref (q 27), .int 0])), (q 2, .inr (2, [.ref (q 1), .ref (q 28), .int 0, .int (-1), .int 0, .int 0, .int 0, .int 0]))] s.heap := hF.1
  have hK := hF.2.1
  have hl := lv_entry ([.ref (q 0), .int p0, .int p1]) (n := 4) (Nat.le_of_ble_eq_true rfl)
  rw [lg_entry_eq]
  generalize (lg_sl ([.ref (q 0), .int p0, .int p1]) ++ List.replicate (4 - (lg_sl ([.ref (q 0), .int p0, .int p1])).length) Slot.unset).toArray = ls at hl ⊢
  have hl : lv_has ls 4 [(0, .ref (q 0)), (1, .int p0), (2, .int p1)] := hl
  refine lv_aload_n hx hb dX9_blind_0 rfl (lv_at hl 0 rfl) ?_
  refine lv_iload_n hx hb dX9_blind_1 rfl (lv_at hl 1 rfl) ?_
  refine lv_iload_n hx hb dX9_blind_2 rfl (lv_at hl 2 rfl) ?_
  refine ro_V (As := [.int p0, .int p1]) (rest := []) S (c_X9_isByCart l D k q wf p0 p1) lkX9_191 ok_X9_isByCart ⟨rfl, rfl, Nat.le_of_ble_eq_true rfl, Nat.le_of_ble_eq_true rfl⟩ (fw_V (ci := 9) (q0 := 0) hF rfl rfl) rfl hl.1 rfl (Nat.le_of_ble_eq_true rfl) ⟨Nat.zero_le _, Nat.zero_le _⟩ dX9_blind_3 (fun r_1 er_1 => ?_)
  subst er_1
  refine lv_if_ne (tgt := 12) hx hb dX9_blind_6 (by decide) (fun c_2 => ?_) (fun c_2 => ?_)
  · first | exact absurd c_2 (by decide) | exact absurd (by decide) c_2
  refine lv_bipush (v := (-2)) hx hb dX9_blind_9 (by decide) ?_
  exact W.iret (v := (-2)) hx hb hr (fun t ht hW => ⟨(-2), rfl, rfl, ht⟩) (fun _ h9 => by cases h9) dX9_blind_11
set_option maxHeartbeats 4000000 in
set_option maxRecDepth 100000 in
theorem c_X9_blinds (l : Launch) (D : va_G) (k : Nat → ClassId) (q : Nat → Nat) (wf : Nat → Int32) (p0 : Int32) (p1 : Int32)  : Met l yX9_blinds (.code yX9_blinds cX9_blinds 3 (some .int) :: TB) (rmk 3) (va_Pc [.ref (q 0), .int p0, .int p1] (fun U => FWH D k q wf U U.heap)) (vp_Si (fun r => r = (-2))) 0 0 (fun _ => False) := by
  refine Met.ofW (cc := cX9_blinds) (maxL := 3) (ret := (some .int)) (by decide) rfl ?_
  intro p e s m args below meth c s₁ B hml hv
  obtain ⟨rfl, hF⟩ := hv
  have hx := B.exec
  have hb := B.bytes
  have hr := B.returns
  have hT : ∀ w ∈ TB, w.before ([.ref (q 0), .int p0, .int p1] : List Value).toArray s = true := fun w h => atoms_spec (ws := .code yX9_blinds cX9_blinds 3 (some .int) :: TB) B.pre w (List.mem_cons_of_mem _ h)
  have hown : s.vm.findClass RX9 = some m.cls := findClass_of_methodNamed B.named
  have S : CallFix p m c cX9_blinds 3 s _ TB RX9 := ⟨hx, hb, hml, hown, hT⟩
  have hP : va_P D vwCl [(q 0, .inr (9, [.ref (q 1), .ref (q 2), .ref (q 3), .ref (q 4), .ref (q 5), .ref (q 6), .ref (q 7), .ref (q 8), .ref (q 9), .ref (q 10), .ref (q 11)])), (q 3, .inr (8, [.ref (q 12), .ref (q 13), .int 0, .ref (q 14), .ref (q 15), .ref (q 16)])), (q 12, .inr (1, [.int 0, .int 0, .int 0, .int 0, .int 0, .int 0, .int 0, .ref (q 17), .ref (q 18), .ref (q 19), .ref (q 20), .ref (q 21), .ref (q 22), .ref (q 23)])), (q 6, .inr (4, [.ref (q 24), .ref (q 25), .ref (q 26)])), (q 24, .inl (k 0, 4, .inl wf)), (q 5, .inl (k 3, 3, .inl (fun _ => 0))), (q 1, .inr (6, [.ref (q 27), .int 0])), (q 2, .inr (2, [.ref (q 1), .ref (q 28), .int 0, .int (-1), .int 0, .int 0, .int 0, .int 0]))] s.heap := hF.1
  have hK := hF.2.1
  have hl := lv_entry ([.ref (q 0), .int p0, .int p1]) (n := 3) (Nat.le_of_ble_eq_true rfl)
  rw [lg_entry_eq]
  generalize (lg_sl ([.ref (q 0), .int p0, .int p1]) ++ List.replicate (3 - (lg_sl ([.ref (q 0), .int p0, .int p1])).length) Slot.unset).toArray = ls at hl ⊢
  have hl : lv_has ls 3 [(0, .ref (q 0)), (1, .int p0), (2, .int p1)] := hl
  refine lv_aload_n hx hb dX9_blinds_0 rfl (lv_at hl 0 rfl) ?_
  refine lv_iload_n hx hb dX9_blinds_1 rfl (lv_at hl 1 rfl) ?_
  refine lv_iload_n hx hb dX9_blinds_2 rfl (lv_at hl 2 rfl) ?_
  refine ro_V (As := [.int p0, .int p1]) (rest := []) S (c_X9_isByCart l D k q wf p0 p1) lkX9_191 ok_X9_isByCart ⟨rfl, rfl, Nat.le_of_ble_eq_true rfl, Nat.le_of_ble_eq_true rfl⟩ (fw_V (ci := 9) (q0 := 0) hF rfl rfl) rfl hl.1 rfl (Nat.le_of_ble_eq_true rfl) ⟨Nat.zero_le _, Nat.zero_le _⟩ dX9_blinds_3 (fun r_1 er_1 => ?_)
  subst er_1
  refine lv_if_eq (tgt := 18) hx hb dX9_blinds_6 (by decide) (fun c_2 => ?_) (fun c_2 => ?_)
  rotate_left
  · first | exact absurd c_2 (by decide) | exact absurd (by decide) c_2
  refine lv_bipush (v := (-2)) hx hb dX9_blinds_18 (by decide) ?_
  exact W.iret (v := (-2)) hx hb hr (fun t ht hW => ⟨(-2), rfl, rfl, ht⟩) (fun _ h9 => by cases h9) dX9_blinds_20
set_option maxHeartbeats 4000000 in
set_option maxRecDepth 100000 in
theorem c_X9_drawn (l : Launch) (D : va_G) (k : Nat → ClassId) (q : Nat → Nat) (wf : Nat → Int32) (p0 : Int32) (p1 : Int32) (p2 : Int32) (p3 : Int32)  : Met l yX9_drawn (.code yX9_drawn cX9_drawn 5 (some .int) :: TB) (rmk 3) (va_Pc [.ref (q 0), .int p0, .int p1, .int p2, .int p3] (fun U => FWH D k q wf U U.heap)) (vp_Si (fun r => r = (-2))) 0 0 (fun _ => False) := by
  refine Met.ofW (cc := cX9_drawn) (maxL := 5) (ret := (some .int)) (by decide) rfl ?_
  intro p e s m args below meth c s₁ B hml hv
  obtain ⟨rfl, hF⟩ := hv
  have hx := B.exec
  have hb := B.bytes
  have hr := B.returns
  have hT : ∀ w ∈ TB, w.before ([.ref (q 0), .int p0, .int p1, .int p2, .int p3] : List Value).toArray s = true := fun w h => atoms_spec (ws := .code yX9_drawn cX9_drawn 5 (some .int) :: TB) B.pre w (List.mem_cons_of_mem _ h)
  have hown : s.vm.findClass RX9 = some m.cls := findClass_of_methodNamed B.named
  have S : CallFix p m c cX9_drawn 5 s _ TB RX9 := ⟨hx, hb, hml, hown, hT⟩
  have hP : va_P D vwCl [(q 0, .inr (9, [.ref (q 1), .ref (q 2), .ref (q 3), .ref (q 4), .ref (q 5), .ref (q 6), .ref (q 7), .ref (q 8), .ref (q 9), .ref (q 10), .ref (q 11)])), (q 3, .inr (8, [.ref (q 12), .ref (q 13), .int 0, .ref (q 14), .ref (q 15), .ref (q 16)])), (q 12, .inr (1, [.int 0, .int 0, .int 0, .int 0, .int 0, .int 0, .int 0, .ref (q 17), .ref (q 18), .ref (q 19), .ref (q 20), .ref (q 21), .ref (q 22), .ref (q 23)])), (q 6, .inr (4, [.ref (q 24), .ref (q 25), .ref (q 26)])), (q 24, .inl (k 0, 4, .inl wf)), (q 5, .inl (k 3, 3, .inl (fun _ => 0))), (q 1, .inr (6, [.ref (q 27), .int 0])), (q 2, .inr (2, [.ref (q 1), .ref (q 28), .int 0, .int (-1), .int 0, .int 0, .int 0, .int 0]))] s.heap := hF.1
  have hK := hF.2.1
  have hl := lv_entry ([.ref (q 0), .int p0, .int p1, .int p2, .int p3]) (n := 5) (Nat.le_of_ble_eq_true rfl)
  rw [lg_entry_eq]
  generalize (lg_sl ([.ref (q 0), .int p0, .int p1, .int p2, .int p3]) ++ List.replicate (5 - (lg_sl ([.ref (q 0), .int p0, .int p1, .int p2, .int p3])).length) Slot.unset).toArray = ls at hl ⊢
  have hl : lv_has ls 5 [(0, .ref (q 0)), (1, .int p0), (2, .int p1), (3, .int p2), (4, .int p3)] := hl
  refine lv_aload_n hx hb dX9_drawn_0 rfl (lv_at hl 0 rfl) ?_
  refine lv_iload_n hx hb dX9_drawn_1 rfl (lv_at hl 1 rfl) ?_
  refine lv_iload_n hx hb dX9_drawn_2 rfl (lv_at hl 2 rfl) ?_
  refine lv_iload_n hx hb dX9_drawn_3 rfl (lv_at hl 3 rfl) ?_
  refine ro_V (As := [.int p0, .int p1, .int p2]) (rest := []) S (c_X9_canDraw l D k q wf p0 p1 p2) lkX9_376 ok_X9_canDraw ⟨rfl, rfl, Nat.le_of_ble_eq_true rfl, Nat.le_of_ble_eq_true rfl⟩ (fw_V (ci := 9) (q0 := 0) hF rfl rfl) rfl hl.1 rfl (Nat.le_of_ble_eq_true rfl) ⟨Nat.zero_le _, Nat.zero_le _⟩ dX9_drawn_4 (fun r_1 er_1 => ?_)
  subst er_1
  refine lv_if_ne (tgt := 13) hx hb dX9_drawn_7 (by decide) (fun c_2 => ?_) (fun c_2 => ?_)
  · first | exact absurd c_2 (by decide) | exact absurd (by decide) c_2
  refine lv_bipush (v := (-2)) hx hb dX9_drawn_10 (by decide) ?_
  exact W.iret (v := (-2)) hx hb hr (fun t ht hW => ⟨(-2), rfl, rfl, ht⟩) (fun _ h9 => by cases h9) dX9_drawn_12
set_option maxHeartbeats 4000000 in
set_option maxRecDepth 100000 in
theorem c_X9_luck (l : Launch) (D : va_G) (k : Nat → ClassId) (q : Nat → Nat) (wf : Nat → Int32) (p0 : Int32) (p1 : Int32) (p2 : Int32) (p3 : Int32) (p4 : Int32)  : Met l yX9_luck (.code yX9_luck cX9_luck 8 (some .int) :: TB) (rmk 3) (va_Pc [.ref (q 0), .int p0, .int p1, .int p2, .int p3, .int p4] (fun U => FWH D k q wf U U.heap)) (vp_Si (fun r => r = (-2))) 0 0 (fun _ => False) := by
  refine Met.ofW (cc := cX9_luck) (maxL := 8) (ret := (some .int)) (by decide) rfl ?_
  intro p e s m args below meth c s₁ B hml hv
  obtain ⟨rfl, hF⟩ := hv
  have hx := B.exec
  have hb := B.bytes
  have hr := B.returns
  have hT : ∀ w ∈ TB, w.before ([.ref (q 0), .int p0, .int p1, .int p2, .int p3, .int p4] : List Value).toArray s = true := fun w h => atoms_spec (ws := .code yX9_luck cX9_luck 8 (some .int) :: TB) B.pre w (List.mem_cons_of_mem _ h)
  have hown : s.vm.findClass RX9 = some m.cls := findClass_of_methodNamed B.named
  have S : CallFix p m c cX9_luck 8 s _ TB RX9 := ⟨hx, hb, hml, hown, hT⟩
  have hP : va_P D vwCl [(q 0, .inr (9, [.ref (q 1), .ref (q 2), .ref (q 3), .ref (q 4), .ref (q 5), .ref (q 6), .ref (q 7), .ref (q 8), .ref (q 9), .ref (q 10), .ref (q 11)])), (q 3, .inr (8, [.ref (q 12), .ref (q 13), .int 0, .ref (q 14), .ref (q 15), .ref (q 16)])), (q 12, .inr (1, [.int 0, .int 0, .int 0, .int 0, .int 0, .int 0, .int 0, .ref (q 17), .ref (q 18), .ref (q 19), .ref (q 20), .ref (q 21), .ref (q 22), .ref (q 23)])), (q 6, .inr (4, [.ref (q 24), .ref (q 25), .ref (q 26)])), (q 24, .inl (k 0, 4, .inl wf)), (q 5, .inl (k 3, 3, .inl (fun _ => 0))), (q 1, .inr (6, [.ref (q 27), .int 0])), (q 2, .inr (2, [.ref (q 1), .ref (q 28), .int 0, .int (-1), .int 0, .int 0, .int 0, .int 0]))] s.heap := hF.1
  have hK := hF.2.1
  have hl := lv_entry ([.ref (q 0), .int p0, .int p1, .int p2, .int p3, .int p4]) (n := 8) (Nat.le_of_ble_eq_true rfl)
  rw [lg_entry_eq]
  generalize (lg_sl ([.ref (q 0), .int p0, .int p1, .int p2, .int p3, .int p4]) ++ List.replicate (8 - (lg_sl ([.ref (q 0), .int p0, .int p1, .int p2, .int p3, .int p4])).length) Slot.unset).toArray = ls at hl ⊢
  have hl : lv_has ls 8 [(0, .ref (q 0)), (1, .int p0), (2, .int p1), (3, .int p2), (4, .int p3), (5, .int p4)] := hl
  refine lv_aload_n hx hb dX9_luck_0 rfl (lv_at hl 0 rfl) ?_
  refine lv_iload_n hx hb dX9_luck_1 rfl (lv_at hl 1 rfl) ?_
  refine lv_iload_n hx hb dX9_luck_2 rfl (lv_at hl 3 rfl) ?_
  refine lv_iload hx hb dX9_luck_3 (lv_at hl 4 rfl) ?_
  refine ro_V (As := [.int p0, .int p2, .int p3]) (rest := []) S (c_X9_canDraw l D k q wf p0 p2 p3) lkX9_376 ok_X9_canDraw ⟨rfl, rfl, Nat.le_of_ble_eq_true rfl, Nat.le_of_ble_eq_true rfl⟩ (fw_V (ci := 9) (q0 := 0) hF rfl rfl) rfl hl.1 rfl (Nat.le_of_ble_eq_true rfl) ⟨Nat.zero_le _, Nat.zero_le _⟩ dX9_luck_5 (fun r_1 er_1 => ?_)
  subst er_1
  refine lv_if_eq (tgt := 37) hx hb dX9_luck_8 (by decide) (fun c_2 => ?_) (fun c_2 => ?_)
  rotate_left
  · first | exact absurd c_2 (by decide) | exact absurd (by decide) c_2
  refine lv_bipush (v := (-2)) hx hb dX9_luck_37 (by decide) ?_
  exact W.iret (v := (-2)) hx hb hr (fun t ht hW => ⟨(-2), rfl, rfl, ht⟩) (fun _ h9 => by cases h9) dX9_luck_39
set_option maxHeartbeats 4000000 in
set_option maxRecDepth 100000 in
theorem c_X9_smiths (l : Launch) (D : va_G) (k : Nat → ClassId) (q : Nat → Nat) (wf : Nat → Int32)   : Met l yX9_smiths (.code yX9_smiths cX9_smiths 1 (some .int) :: TB) (rmk 2) (va_Pc [.ref (q 0)] (fun U => FWH D k q wf U U.heap)) (vp_Si (fun r => r = (-2000000))) 0 0 (fun _ => False) := by
  refine Met.ofW (cc := cX9_smiths) (maxL := 1) (ret := (some .int)) (by decide) rfl ?_
  intro p e s m args below meth c s₁ B hml hv
  obtain ⟨rfl, hF⟩ := hv
  have hx := B.exec
  have hb := B.bytes
  have hr := B.returns
  have hT : ∀ w ∈ TB, w.before ([.ref (q 0)] : List Value).toArray s = true := fun w h => atoms_spec (ws := .code yX9_smiths cX9_smiths 1 (some .int) :: TB) B.pre w (List.mem_cons_of_mem _ h)
  have hown : s.vm.findClass RX9 = some m.cls := findClass_of_methodNamed B.named
  have S : CallFix p m c cX9_smiths 1 s _ TB RX9 := ⟨hx, hb, hml, hown, hT⟩
  have hP : va_P D vwCl [(q 0, .inr (9, [.ref (q 1), .ref (q 2), .ref (q 3), .ref (q 4), .ref (q 5), .ref (q 6), .ref (q 7), .ref (q 8), .ref (q 9), .ref (q 10), .ref (q 11)])), (q 3, .inr (8, [.ref (q 12), .ref (q 13), .int 0, .ref (q 14), .ref (q 15), .ref (q 16)])), (q 12, .inr (1, [.int 0, .int 0, .int 0, .int 0, .int 0, .int 0, .int 0, .ref (q 17), .ref (q 18), .ref (q 19), .ref (q 20), .ref (q 21), .ref (q 22), .ref (q 23)])), (q 6, .inr (4, [.ref (q 24), .ref (q 25), .ref (q 26)])), (q 24, .inl (k 0, 4, .inl wf)), (q 5, .inl (k 3, 3, .inl (fun _ => 0))), (q 1, .inr (6, [.ref (q 27), .int 0])), (q 2, .inr (2, [.ref (q 1), .ref (q 28), .int 0, .int (-1), .int 0, .int 0, .int 0, .int 0]))] s.heap := hF.1
  have hK := hF.2.1
  have hl := lv_entry ([.ref (q 0)]) (n := 1) (Nat.le_of_ble_eq_true rfl)
  rw [lg_entry_eq]
  generalize (lg_sl ([.ref (q 0)]) ++ List.replicate (1 - (lg_sl ([.ref (q 0)])).length) Slot.unset).toArray = ls at hl ⊢
  have hl : lv_has ls 1 [(0, .ref (q 0))] := hl
  refine lv_aload_n hx hb dX9_smiths_0 rfl (lv_at hl 0 rfl) ?_
  refine va_get (D := D) (ci := 9) (v := .ref (q 3)) (C := RX9) (T := TX9) (N := 11) hx hb hT in_X9 hown hK hP 0 rfl rfl 2 (by decide) (hT _ t453) (fun _ h9 => h9) rfl dX9_smiths_1 ?_
  refine va_get (D := D) (ci := 8) (v := .ref (q 12)) (C := RX8) (T := TX8) (N := 6) hx hb hT in_X8 hown hK hP 1 rfl rfl 0 (by decide) (hT _ t312) (fun _ h9 => h9) rfl dX9_smiths_4 ?_
  refine ro_V (As := []) (rest := []) S (c_X1_isTold l D k q wf ) lkX9_211 ok_X1_isTold ⟨rfl, rfl, Nat.le_of_ble_eq_true rfl, Nat.le_of_ble_eq_true rfl⟩ (fw_V (ci := 1) (q0 := 2) hF rfl rfl) rfl hl.1 rfl (Nat.le_of_ble_eq_true rfl) ⟨Nat.zero_le _, Nat.zero_le _⟩ dX9_smiths_7 (fun r_1 er_1 => ?_)
  subst er_1
  refine lv_if_ne (tgt := 17) hx hb dX9_smiths_10 (by decide) (fun c_2 => ?_) (fun c_2 => ?_)
  · first | exact absurd c_2 (by decide) | exact absurd (by decide) c_2
  refine lv_ldcw (v := (-2000000)) hx hb hown (hT _ t1141) dX9_smiths_13 ?_
  exact W.iret (v := (-2000000)) hx hb hr (fun t ht hW => ⟨(-2000000), rfl, rfl, ht⟩) (fun _ h9 => by cases h9) dX9_smiths_16
set_option maxHeartbeats 4000000 in
set_option maxRecDepth 100000 in
theorem c_X9_fault (l : Launch) (D : va_G) (k : Nat → ClassId) (q : Nat → Nat) (wf : Nat → Int32) (p0 : Int32)  : Met l yX9_fault (.code yX9_fault cX9_fault 2 (some .int) :: TB) (rmk 1) (va_Pc [.ref (q 0), .int p0] (fun U => FWH D k q wf U U.heap)) (vp_Si (fun r => r = a_fault p0)) 0 0 (fun _ => False) := by
  refine Met.ofW (cc := cX9_fault) (maxL := 2) (ret := (some .int)) (by decide) rfl ?_
  intro p e s m args below meth c s₁ B hml hv
  obtain ⟨rfl, hF⟩ := hv
  have hx := B.exec
  have hb := B.bytes
  have hr := B.returns
  have hT : ∀ w ∈ TB, w.before ([.ref (q 0), .int p0] : List Value).toArray s = true := fun w h => atoms_spec (ws := .code yX9_fault cX9_fault 2 (some .int) :: TB) B.pre w (List.mem_cons_of_mem _ h)
  have hown : s.vm.findClass RX9 = some m.cls := findClass_of_methodNamed B.named
  have S : CallFix p m c cX9_fault 2 s _ TB RX9 := ⟨hx, hb, hml, hown, hT⟩
  have hP : va_P D vwCl [(q 0, .inr (9, [.ref (q 1), .ref (q 2), .ref (q 3), .ref (q 4), .ref (q 5), .ref (q 6), .ref (q 7), .ref (q 8), .ref (q 9), .ref (q 10), .ref (q 11)])), (q 3, .inr (8, [.ref (q 12), .ref (q 13), .int 0, .ref (q 14), .ref (q 15), .ref (q 16)])), (q 12, .inr (1, [.int 0, .int 0, .int 0, .int 0, .int 0, .int 0, .int 0, .ref (q 17), .ref (q 18), .ref (q 19), .ref (q 20), .ref (q 21), .ref (q 22), .ref (q 23)])), (q 6, .inr (4, [.ref (q 24), .ref (q 25), .ref (q 26)])), (q 24, .inl (k 0, 4, .inl wf)), (q 5, .inl (k 3, 3, .inl (fun _ => 0))), (q 1, .inr (6, [.ref (q 27), .int 0])), (q 2, .inr (2, [.ref (q 1), .ref (q 28), .int 0, .int (-1), .int 0, .int 0, .int 0, .int 0]))] s.heap := hF.1
  have hK := hF.2.1
  have hl := lv_entry ([.ref (q 0), .int p0]) (n := 2) (Nat.le_of_ble_eq_true rfl)
  rw [lg_entry_eq]
  generalize (lg_sl ([.ref (q 0), .int p0]) ++ List.replicate (2 - (lg_sl ([.ref (q 0), .int p0])).length) Slot.unset).toArray = ls at hl ⊢
  have hl : lv_has ls 2 [(0, .ref (q 0)), (1, .int p0)] := hl
  refine lv_iload_n hx hb dX9_fault_0 rfl (lv_at hl 1 rfl) ?_
  refine lv_if_ne (tgt := 12) hx hb dX9_fault_1 (by decide) (fun c_1 => ?_) (fun c_1 => ?_)
  · skip
    refine lv_iload_n hx hb dX9_fault_12 rfl (lv_at hl 1 rfl) ?_
    refine lv_iconst (v := 1) hx hb dX9_fault_13 (by decide) ?_
    refine lv_icmp_ne (tgt := 27) hx hb dX9_fault_14 (by decide) (fun c_2 => ?_) (fun c_2 => ?_)
    · skip
      refine lv_iconst (v := (-1)) hx hb dX9_fault_27 (by decide) ?_
      exact W.iret (v := (-1)) hx hb hr (fun t ht hW => ⟨(-1), rfl, (by rw [a_fault, if_neg c_1]), ht⟩) (fun _ h9 => by cases h9) dX9_fault_28
    · skip
      refine lv_aload_n hx hb dX9_fault_17 rfl (lv_at hl 0 rfl) ?_
      refine va_get (D := D) (ci := 9) (v := .ref (q 2)) (C := RX9) (T := TX9) (N := 11) hx hb hT in_X9 hown hK hP 0 rfl rfl 1 (by decide) (hT _ t452) (fun _ h9 => h9) rfl dX9_fault_18 ?_
      refine va_get (D := D) (ci := 2) (v := .int (-1)) (C := RX2) (T := TX2) (N := 8) hx hb hT in_X2 hown hK hP 7 rfl rfl 3 (by decide) (hT _ t279) (fun _ h9 => h9) rfl dX9_fault_21 ?_
      refine lv_goto (tgt := 28) hx hb dX9_fault_24 (by decide) ?_
      exact W.iret (v := (-1)) hx hb hr (fun t ht hW => ⟨(-1), rfl, (by rw [a_fault, if_neg c_1]), ht⟩) (fun _ h9 => by cases h9) dX9_fault_28
  · skip
    refine lv_aload_n hx hb dX9_fault_4 rfl (lv_at hl 0 rfl) ?_
    refine va_get (D := D) (ci := 9) (v := .ref (q 2)) (C := RX9) (T := TX9) (N := 11) hx hb hT in_X9 hown hK hP 0 rfl rfl 1 (by decide) (hT _ t452) (fun _ h9 => h9) rfl dX9_fault_5 ?_
    refine va_get (D := D) (ci := 2) (v := .int 0) (C := RX2) (T := TX2) (N := 8) hx hb hT in_X2 hown hK hP 7 rfl rfl 2 (by decide) (hT _ t277) (fun _ h9 => h9) rfl dX9_fault_8 ?_
    exact W.iret (v := 0) hx hb hr (fun t ht hW => ⟨0, rfl, (by rw [a_fault, if_pos c_1]), ht⟩) (fun _ h9 => by cases h9) dX9_fault_11
set_option maxHeartbeats 4000000 in
set_option maxRecDepth 100000 in
theorem c_X9_count (l : Launch) (D : va_G) (k : Nat → ClassId) (q : Nat → Nat) (wf : Nat → Int32) (p0 : Int32)  : Met l yX9_count (.code yX9_count cX9_count 2 (some .int) :: TB) (rmk 3) (va_Pc [.ref (q 0), .int p0] (fun U => FWH D k q wf U U.heap)) (vp_Si (fun r => r = a_count p0)) 0 0 (fun _ => False) := by
  refine Met.ofW (cc := cX9_count) (maxL := 2) (ret := (some .int)) (by decide) rfl ?_
  intro p e s m args below meth c s₁ B hml hv
  obtain ⟨rfl, hF⟩ := hv
  have hx := B.exec
  have hb := B.bytes
  have hr := B.returns
  have hT : ∀ w ∈ TB, w.before ([.ref (q 0), .int p0] : List Value).toArray s = true := fun w h => atoms_spec (ws := .code yX9_count cX9_count 2 (some .int) :: TB) B.pre w (List.mem_cons_of_mem _ h)
  have hown : s.vm.findClass RX9 = some m.cls := findClass_of_methodNamed B.named
  have S : CallFix p m c cX9_count 2 s _ TB RX9 := ⟨hx, hb, hml, hown, hT⟩
  have hP : va_P D vwCl [(q 0, .inr (9, [.ref (q 1), .ref (q 2), .ref (q 3), .ref (q 4), .ref (q 5), .ref (q 6), .ref (q 7), .ref (q 8), .ref (q 9), .ref (q 10), .ref (q 11)])), (q 3, .inr (8, [.ref (q 12), .ref (q 13), .int 0, .ref (q 14), .ref (q 15), .ref (q 16)])), (q 12, .inr (1, [.int 0, .int 0, .int 0, .int 0, .int 0, .int 0, .int 0, .ref (q 17), .ref (q 18), .ref (q 19), .ref (q 20), .ref (q 21), .ref (q 22), .ref (q 23)])), (q 6, .inr (4, [.ref (q 24), .ref (q 25), .ref (q 26)])), (q 24, .inl (k 0, 4, .inl wf)), (q 5, .inl (k 3, 3, .inl (fun _ => 0))), (q 1, .inr (6, [.ref (q 27), .int 0])), (q 2, .inr (2, [.ref (q 1), .ref (q 28), .int 0, .int (-1), .int 0, .int 0, .int 0, .int 0]))] s.heap := hF.1
  have hK := hF.2.1
  have hl := lv_entry ([.ref (q 0), .int p0]) (n := 2) (Nat.le_of_ble_eq_true rfl)
  rw [lg_entry_eq]
  generalize (lg_sl ([.ref (q 0), .int p0]) ++ List.replicate (2 - (lg_sl ([.ref (q 0), .int p0])).length) Slot.unset).toArray = ls at hl ⊢
  have hl : lv_has ls 2 [(0, .ref (q 0)), (1, .int p0)] := hl
  refine lv_iload_n hx hb dX9_count_0 rfl (lv_at hl 1 rfl) ?_
  by_cases c_1 : p0.toInt < 0 ∨ 9 < p0.toInt
  · skip
    refine lv_tableOut (tgt := 157) hx hb dX9_count_1 c_1 (by decide) ?_
    refine lv_iconst (v := (-1)) hx hb dX9_count_157 (by decide) ?_
    exact W.iret (v := (-1)) hx hb hr (fun t ht hW => ⟨(-1), rfl, (by rw [a_count, if_pos c_1]), ht⟩) (fun _ h9 => by cases h9) dX9_count_158
  · skip
    have x_2 : p0 = 0 ∨ p0 = 1 ∨ p0 = 2 ∨ p0 = 3 ∨ p0 = 4 ∨ p0 = 5 ∨ p0 = 6 ∨ p0 = 7 ∨ p0 = 8 ∨ p0 = 9 := by
      have q1 : ¬ p0.toInt < 0 := fun z => c_1 (Or.inl z)
      have q2 : ¬ 9 < p0.toInt := fun z => c_1 (Or.inr z)
      have q3 : p0.toInt = 0 ∨ p0.toInt = 1 ∨ p0.toInt = 2 ∨ p0.toInt = 3 ∨ p0.toInt = 4 ∨ p0.toInt = 5 ∨ p0.toInt = 6 ∨ p0.toInt = 7 ∨ p0.toInt = 8 ∨ p0.toInt = 9 := by omega
      rcases q3 with q3 | q3 | q3 | q3 | q3 | q3 | q3 | q3 | q3 | q3
      · exact Or.inl (Int32.toInt_inj.mp (q3.trans (by decide)))
      · exact Or.inr (Or.inl (Int32.toInt_inj.mp (q3.trans (by decide))))
      · exact Or.inr (Or.inr (Or.inl (Int32.toInt_inj.mp (q3.trans (by decide)))))
      · exact Or.inr (Or.inr (Or.inr (Or.inl (Int32.toInt_inj.mp (q3.trans (by decide))))))
      · exact Or.inr (Or.inr (Or.inr (Or.inr (Or.inl (Int32.toInt_inj.mp (q3.trans (by decide)))))))
      · exact Or.inr (Or.inr (Or.inr (Or.inr (Or.inr (Or.inl (Int32.toInt_inj.mp (q3.trans (by decide))))))))
      · exact Or.inr (Or.inr (Or.inr (Or.inr (Or.inr (Or.inr (Or.inl (Int32.toInt_inj.mp (q3.trans (by decide)))))))))
      · exact Or.inr (Or.inr (Or.inr (Or.inr (Or.inr (Or.inr (Or.inr (Or.inl (Int32.toInt_inj.mp (q3.trans (by decide))))))))))
      · exact Or.inr (Or.inr (Or.inr (Or.inr (Or.inr (Or.inr (Or.inr (Or.inr (Or.inl (Int32.toInt_inj.mp (q3.trans (by decide)))))))))))
      · exact Or.inr (Or.inr (Or.inr (Or.inr (Or.inr (Or.inr (Or.inr (Or.inr (Or.inr ((Int32.toInt_inj.mp (q3.trans (by decide))))))))))))
    clear c_1
    rcases x_2 with rfl | rfl | rfl | rfl | rfl | rfl | rfl | rfl | rfl | rfl
    · skip
      refine lv_tableIn (off := 55) (tgt := 56) hx hb dX9_count_1 (by decide) (by decide) (by decide +kernel) (by decide) ?_
      refine lv_aload_n hx hb dX9_count_56 rfl (lv_at hl 0 rfl) ?_
      refine va_get (D := D) (ci := 9) (v := .ref (q 3)) (C := RX9) (T := TX9) (N := 11) hx hb hT in_X9 hown hK hP 0 rfl rfl 2 (by decide) (hT _ t453) (fun _ h9 => h9) rfl dX9_count_57 ?_
      refine va_get (D := D) (ci := 8) (v := .ref (q 12)) (C := RX8) (T := TX8) (N := 6) hx hb hT in_X8 hown hK hP 1 rfl rfl 0 (by decide) (hT _ t312) (fun _ h9 => h9) rfl dX9_count_60 ?_
      refine va_get (D := D) (ci := 1) (v := .int 0) (C := RX1) (T := TX1) (N := 14) hx hb hT in_X1 hown hK hP 2 rfl rfl 1 (by decide) (hT _ t201) (fun _ h9 => h9) rfl dX9_count_63 ?_
      exact W.iret (v := 0) hx hb hr (fun t ht hW => ⟨0, rfl, (by decide), ht⟩) (fun _ h9 => by cases h9) dX9_count_66
    · skip
      refine lv_tableIn (off := 66) (tgt := 67) hx hb dX9_count_1 (by decide) (by decide) (by decide +kernel) (by decide) ?_
      refine lv_aload_n hx hb dX9_count_67 rfl (lv_at hl 0 rfl) ?_
      refine va_get (D := D) (ci := 9) (v := .ref (q 3)) (C := RX9) (T := TX9) (N := 11) hx hb hT in_X9 hown hK hP 0 rfl rfl 2 (by decide) (hT _ t453) (fun _ h9 => h9) rfl dX9_count_68 ?_
      refine va_get (D := D) (ci := 8) (v := .ref (q 12)) (C := RX8) (T := TX8) (N := 6) hx hb hT in_X8 hown hK hP 1 rfl rfl 0 (by decide) (hT _ t312) (fun _ h9 => h9) rfl dX9_count_71 ?_
      refine va_get (D := D) (ci := 1) (v := .int 0) (C := RX1) (T := TX1) (N := 14) hx hb hT in_X1 hown hK hP 2 rfl rfl 3 (by decide) (hT _ t211) (fun _ h9 => h9) rfl dX9_count_74 ?_
      exact W.iret (v := 0) hx hb hr (fun t ht hW => ⟨0, rfl, (by decide), ht⟩) (fun _ h9 => by cases h9) dX9_count_77
    · skip
      refine lv_tableIn (off := 77) (tgt := 78) hx hb dX9_count_1 (by decide) (by decide) (by decide +kernel) (by decide) ?_
      refine lv_aload_n hx hb dX9_count_78 rfl (lv_at hl 0 rfl) ?_
      refine va_get (D := D) (ci := 9) (v := .ref (q 3)) (C := RX9) (T := TX9) (N := 11) hx hb hT in_X9 hown hK hP 0 rfl rfl 2 (by decide) (hT _ t453) (fun _ h9 => h9) rfl dX9_count_79 ?_
      refine va_get (D := D) (ci := 8) (v := .ref (q 12)) (C := RX8) (T := TX8) (N := 6) hx hb hT in_X8 hown hK hP 1 rfl rfl 0 (by decide) (hT _ t312) (fun _ h9 => h9) rfl dX9_count_82 ?_
      refine va_get (D := D) (ci := 1) (v := .int 0) (C := RX1) (T := TX1) (N := 14) hx hb hT in_X1 hown hK hP 2 rfl rfl 4 (by decide) (hT _ t215) (fun _ h9 => h9) rfl dX9_count_85 ?_
      exact W.iret (v := 0) hx hb hr (fun t ht hW => ⟨0, rfl, (by decide), ht⟩) (fun _ h9 => by cases h9) dX9_count_88
    · skip
      refine lv_tableIn (off := 88) (tgt := 89) hx hb dX9_count_1 (by decide) (by decide) (by decide +kernel) (by decide) ?_
      refine lv_aload_n hx hb dX9_count_89 rfl (lv_at hl 0 rfl) ?_
      refine va_get (D := D) (ci := 9) (v := .ref (q 3)) (C := RX9) (T := TX9) (N := 11) hx hb hT in_X9 hown hK hP 0 rfl rfl 2 (by decide) (hT _ t453) (fun _ h9 => h9) rfl dX9_count_90 ?_
      refine va_get (D := D) (ci := 8) (v := .ref (q 12)) (C := RX8) (T := TX8) (N := 6) hx hb hT in_X8 hown hK hP 1 rfl rfl 0 (by decide) (hT _ t312) (fun _ h9 => h9) rfl dX9_count_93 ?_
      refine va_get (D := D) (ci := 1) (v := .int 0) (C := RX1) (T := TX1) (N := 14) hx hb hT in_X1 hown hK hP 2 rfl rfl 5 (by decide) (hT _ t218) (fun _ h9 => h9) rfl dX9_count_96 ?_
      exact W.iret (v := 0) hx hb hr (fun t ht hW => ⟨0, rfl, (by decide), ht⟩) (fun _ h9 => by cases h9) dX9_count_99
    · skip
      refine lv_tableIn (off := 99) (tgt := 100) hx hb dX9_count_1 (by decide) (by decide) (by decide +kernel) (by decide) ?_
      refine lv_aload_n hx hb dX9_count_100 rfl (lv_at hl 0 rfl) ?_
      refine va_get (D := D) (ci := 9) (v := .ref (q 3)) (C := RX9) (T := TX9) (N := 11) hx hb hT in_X9 hown hK hP 0 rfl rfl 2 (by decide) (hT _ t453) (fun _ h9 => h9) rfl dX9_count_101 ?_
      refine va_get (D := D) (ci := 8) (v := .ref (q 12)) (C := RX8) (T := TX8) (N := 6) hx hb hT in_X8 hown hK hP 1 rfl rfl 0 (by decide) (hT _ t312) (fun _ h9 => h9) rfl dX9_count_104 ?_
      refine va_get (D := D) (ci := 1) (v := .int 0) (C := RX1) (T := TX1) (N := 14) hx hb hT in_X1 hown hK hP 2 rfl rfl 6 (by decide) (hT _ t221) (fun _ h9 => h9) rfl dX9_count_107 ?_
      exact W.iret (v := 0) hx hb hr (fun t ht hW => ⟨0, rfl, (by decide), ht⟩) (fun _ h9 => by cases h9) dX9_count_110
    · skip
      refine lv_tableIn (off := 110) (tgt := 111) hx hb dX9_count_1 (by decide) (by decide) (by decide +kernel) (by decide) ?_
      refine lv_aload_n hx hb dX9_count_111 rfl (lv_at hl 0 rfl) ?_
      refine va_get (D := D) (ci := 9) (v := .ref (q 3)) (C := RX9) (T := TX9) (N := 11) hx hb hT in_X9 hown hK hP 0 rfl rfl 2 (by decide) (hT _ t453) (fun _ h9 => h9) rfl dX9_count_112 ?_
      refine va_get (D := D) (ci := 8) (v := .ref (q 12)) (C := RX8) (T := TX8) (N := 6) hx hb hT in_X8 hown hK hP 1 rfl rfl 0 (by decide) (hT _ t312) (fun _ h9 => h9) rfl dX9_count_115 ?_
      refine va_get (D := D) (ci := 1) (v := .int 0) (C := RX1) (T := TX1) (N := 14) hx hb hT in_X1 hown hK hP 2 rfl rfl 2 (by decide) (hT _ t206) (fun _ h9 => h9) rfl dX9_count_118 ?_
      exact W.iret (v := 0) hx hb hr (fun t ht hW => ⟨0, rfl, (by decide), ht⟩) (fun _ h9 => by cases h9) dX9_count_121
    · skip
      refine lv_tableIn (off := 121) (tgt := 122) hx hb dX9_count_1 (by decide) (by decide) (by decide +kernel) (by decide) ?_
      refine lv_aload_n hx hb dX9_count_122 rfl (lv_at hl 0 rfl) ?_
      refine va_get (D := D) (ci := 9) (v := .ref (q 3)) (C := RX9) (T := TX9) (N := 11) hx hb hT in_X9 hown hK hP 0 rfl rfl 2 (by decide) (hT _ t453) (fun _ h9 => h9) rfl dX9_count_123 ?_
      refine va_get (D := D) (ci := 8) (v := .ref (q 12)) (C := RX8) (T := TX8) (N := 6) hx hb hT in_X8 hown hK hP 1 rfl rfl 0 (by decide) (hT _ t312) (fun _ h9 => h9) rfl dX9_count_126 ?_
      refine va_get (D := D) (ci := 1) (v := .int 0) (C := RX1) (T := TX1) (N := 14) hx hb hT in_X1 hown hK hP 2 rfl rfl 0 (by decide) (hT _ t197) (fun _ h9 => h9) rfl dX9_count_129 ?_
      exact W.iret (v := 0) hx hb hr (fun t ht hW => ⟨0, rfl, (by decide), ht⟩) (fun _ h9 => by cases h9) dX9_count_132
    · skip
      refine lv_tableIn (off := 132) (tgt := 133) hx hb dX9_count_1 (by decide) (by decide) (by decide +kernel) (by decide) ?_
      refine lv_aload_n hx hb dX9_count_133 rfl (lv_at hl 0 rfl) ?_
      refine va_get (D := D) (ci := 9) (v := .ref (q 1)) (C := RX9) (T := TX9) (N := 11) hx hb hT in_X9 hown hK hP 0 rfl rfl 0 (by decide) (hT _ t451) (fun _ h9 => h9) rfl dX9_count_134 ?_
      refine va_get (D := D) (ci := 6) (v := .int 0) (C := RX6) (T := TX6) (N := 2) hx hb hT in_X6 hown hK hP 6 rfl rfl 1 (by decide) (hT _ t145) (fun _ h9 => h9) rfl dX9_count_137 ?_
      exact W.iret (v := 0) hx hb hr (fun t ht hW => ⟨0, rfl, (by decide), ht⟩) (fun _ h9 => by cases h9) dX9_count_140
    · skip
      refine lv_tableIn (off := 140) (tgt := 141) hx hb dX9_count_1 (by decide) (by decide) (by decide +kernel) (by decide) ?_
      refine lv_aload_n hx hb dX9_count_141 rfl (lv_at hl 0 rfl) ?_
      refine va_get (D := D) (ci := 9) (v := .ref (q 3)) (C := RX9) (T := TX9) (N := 11) hx hb hT in_X9 hown hK hP 0 rfl rfl 2 (by decide) (hT _ t453) (fun _ h9 => h9) rfl dX9_count_142 ?_
      refine va_get (D := D) (ci := 8) (v := .int 0) (C := RX8) (T := TX8) (N := 6) hx hb hT in_X8 hown hK hP 1 rfl rfl 2 (by decide) (hT _ t316) (fun _ h9 => h9) rfl dX9_count_145 ?_
      exact W.iret (v := 0) hx hb hr (fun t ht hW => ⟨0, rfl, (by decide), ht⟩) (fun _ h9 => by cases h9) dX9_count_148
    · skip
      refine lv_tableIn (off := 148) (tgt := 149) hx hb dX9_count_1 (by decide) (by decide) (by decide +kernel) (by decide) ?_
      refine lv_aload_n hx hb dX9_count_149 rfl (lv_at hl 0 rfl) ?_
      refine va_get (D := D) (ci := 9) (v := .ref (q 6)) (C := RX9) (T := TX9) (N := 11) hx hb hT in_X9 hown hK hP 0 rfl rfl 5 (by decide) (hT _ t456) (fun _ h9 => h9) rfl dX9_count_150 ?_
      refine ro_V (As := []) (rest := []) S (c_X4_rowCount l D k q wf ) lkX9_410 ok_X4_rowCount ⟨rfl, rfl, Nat.le_of_ble_eq_true rfl, Nat.le_of_ble_eq_true rfl⟩ (fw_V (ci := 4) (q0 := 3) hF rfl rfl) rfl hl.1 rfl (Nat.le_of_ble_eq_true rfl) ⟨Nat.zero_le _, Nat.zero_le _⟩ dX9_count_153 (fun r_3 er_3 => ?_)
      subst er_3
      exact W.iret (v := 0) hx hb hr (fun t ht hW => ⟨0, rfl, (by decide), ht⟩) (fun _ h9 => by cases h9) dX9_count_156
set_option maxHeartbeats 4000000 in
set_option maxRecDepth 100000 in
theorem c_X9_back (l : Launch) (D : va_G) (k : Nat → ClassId) (q : Nat → Nat) (wf : Nat → Int32) (p0 : Int32)  : Met l yX9_back (.code yX9_back cX9_back 2 (some .int) :: TB) (rmk 1) (va_Pc [.ref (q 0), .int p0] (fun U => FWH D k q wf U U.heap)) (vp_Si (fun r => r = a_back p0)) 0 0 (fun _ => False) := by
  refine Met.ofW (cc := cX9_back) (maxL := 2) (ret := (some .int)) (by decide) rfl ?_
  intro p e s m args below meth c s₁ B hml hv
  obtain ⟨rfl, hF⟩ := hv
  have hx := B.exec
  have hb := B.bytes
  have hr := B.returns
  have hT : ∀ w ∈ TB, w.before ([.ref (q 0), .int p0] : List Value).toArray s = true := fun w h => atoms_spec (ws := .code yX9_back cX9_back 2 (some .int) :: TB) B.pre w (List.mem_cons_of_mem _ h)
  have hown : s.vm.findClass RX9 = some m.cls := findClass_of_methodNamed B.named
  have S : CallFix p m c cX9_back 2 s _ TB RX9 := ⟨hx, hb, hml, hown, hT⟩
  have hP : va_P D vwCl [(q 0, .inr (9, [.ref (q 1), .ref (q 2), .ref (q 3), .ref (q 4), .ref (q 5), .ref (q 6), .ref (q 7), .ref (q 8), .ref (q 9), .ref (q 10), .ref (q 11)])), (q 3, .inr (8, [.ref (q 12), .ref (q 13), .int 0, .ref (q 14), .ref (q 15), .ref (q 16)])), (q 12, .inr (1, [.int 0, .int 0, .int 0, .int 0, .int 0, .int 0, .int 0, .ref (q 17), .ref (q 18), .ref (q 19), .ref (q 20), .ref (q 21), .ref (q 22), .ref (q 23)])), (q 6, .inr (4, [.ref (q 24), .ref (q 25), .ref (q 26)])), (q 24, .inl (k 0, 4, .inl wf)), (q 5, .inl (k 3, 3, .inl (fun _ => 0))), (q 1, .inr (6, [.ref (q 27), .int 0])), (q 2, .inr (2, [.ref (q 1), .ref (q 28), .int 0, .int (-1), .int 0, .int 0, .int 0, .int 0]))] s.heap := hF.1
  have hK := hF.2.1
  have hl := lv_entry ([.ref (q 0), .int p0]) (n := 2) (Nat.le_of_ble_eq_true rfl)
  rw [lg_entry_eq]
  generalize (lg_sl ([.ref (q 0), .int p0]) ++ List.replicate (2 - (lg_sl ([.ref (q 0), .int p0])).length) Slot.unset).toArray = ls at hl ⊢
  have hl : lv_has ls 2 [(0, .ref (q 0)), (1, .int p0)] := hl
  refine lv_iload_n hx hb dX9_back_0 rfl (lv_at hl 1 rfl) ?_
  refine lv_if_lt (tgt := 9) hx hb dX9_back_1 (by decide) (fun c_1 => ?_) (fun c_1 => ?_)
  · skip
    refine lv_bipush (v := (-2)) hx hb dX9_back_9 (by decide) ?_
    exact W.iret (v := (-2)) hx hb hr (fun t ht hW => ⟨(-2), rfl, (by rw [a_back, if_pos (Or.inl c_1)]), ht⟩) (fun _ h9 => by cases h9) dX9_back_11
  · skip
    refine lv_iload_n hx hb dX9_back_4 rfl (lv_at hl 1 rfl) ?_
    refine lv_iconst (v := 3) hx hb dX9_back_5 (by decide) ?_
    refine lv_icmp_lt (tgt := 12) hx hb dX9_back_6 (by decide) (fun c_2 => ?_) (fun c_2 => ?_)
    · skip
      refine lv_aload_n hx hb dX9_back_12 rfl (lv_at hl 0 rfl) ?_
      refine va_get (D := D) (ci := 9) (v := .ref (q 5)) (C := RX9) (T := TX9) (N := 11) hx hb hT in_X9 hown hK hP 0 rfl rfl 4 (by decide) (hT _ t455) (fun _ h9 => h9) rfl dX9_back_13 ?_
      refine lv_iload_n hx hb dX9_back_16 rfl (lv_at hl 1 rfl) ?_
      refine va_zald hx hb hK hP 5 3 rfl rfl (i32_in 3 rfl c_1 c_2) dX9_back_17 ?_
      refine k_top (y := 0) rfl ?_
      refine lv_if_ne (tgt := 24) hx hb dX9_back_18 (by decide) (fun c_3 => ?_) (fun c_3 => ?_)
      · first | exact absurd c_3 (by decide) | exact absurd (by decide) c_3
      refine lv_bipush (v := (-6)) hx hb dX9_back_21 (by decide) ?_
      exact W.iret (v := (-6)) hx hb hr (fun t ht hW => ⟨(-6), rfl, (by rw [a_back, if_neg (fun z => z.elim c_1 (Int32.not_le.mpr c_2))]), ht⟩) (fun _ h9 => by cases h9) dX9_back_23
    · skip
      refine lv_bipush (v := (-2)) hx hb dX9_back_9 (by decide) ?_
      exact W.iret (v := (-2)) hx hb hr (fun t ht hW => ⟨(-2), rfl, (by rw [a_back, if_pos (Or.inr (Int32.not_lt.mp c_2))]), ht⟩) (fun _ h9 => by cases h9) dX9_back_11
set_option maxHeartbeats 4000000 in
set_option maxRecDepth 100000 in
theorem c_X9_write (l : Launch) (D : va_G) (k : Nat → ClassId) (q : Nat → Nat) (wf : Nat → Int32) (p0 : Int32) (p1 : Int32) (p2 : Int64)  : Met l yX9_write (.code yX9_write cX9_write 5 (some .int) :: TB) (rmk 2) (va_Pc [.ref (q 0), .int p0, .int p1, .long p2] (fun U => FWH D k q wf U U.heap)) (vp_Si (fun r => r = a_slot p0)) 0 0 (fun _ => False) := by
  refine Met.ofW (cc := cX9_write) (maxL := 5) (ret := (some .int)) (by decide) rfl ?_
  intro p e s m args below meth c s₁ B hml hv
  obtain ⟨rfl, hF⟩ := hv
  have hx := B.exec
  have hb := B.bytes
  have hr := B.returns
  have hT : ∀ w ∈ TB, w.before ([.ref (q 0), .int p0, .int p1, .long p2] : List Value).toArray s = true := fun w h => atoms_spec (ws := .code yX9_write cX9_write 5 (some .int) :: TB) B.pre w (List.mem_cons_of_mem _ h)
  have hown : s.vm.findClass RX9 = some m.cls := findClass_of_methodNamed B.named
  have S : CallFix p m c cX9_write 5 s _ TB RX9 := ⟨hx, hb, hml, hown, hT⟩
  have hP : va_P D vwCl [(q 0, .inr (9, [.ref (q 1), .ref (q 2), .ref (q 3), .ref (q 4), .ref (q 5), .ref (q 6), .ref (q 7), .ref (q 8), .ref (q 9), .ref (q 10), .ref (q 11)])), (q 3, .inr (8, [.ref (q 12), .ref (q 13), .int 0, .ref (q 14), .ref (q 15), .ref (q 16)])), (q 12, .inr (1, [.int 0, .int 0, .int 0, .int 0, .int 0, .int 0, .int 0, .ref (q 17), .ref (q 18), .ref (q 19), .ref (q 20), .ref (q 21), .ref (q 22), .ref (q 23)])), (q 6, .inr (4, [.ref (q 24), .ref (q 25), .ref (q 26)])), (q 24, .inl (k 0, 4, .inl wf)), (q 5, .inl (k 3, 3, .inl (fun _ => 0))), (q 1, .inr (6, [.ref (q 27), .int 0])), (q 2, .inr (2, [.ref (q 1), .ref (q 28), .int 0, .int (-1), .int 0, .int 0, .int 0, .int 0]))] s.heap := hF.1
  have hK := hF.2.1
  have hl := lv_entry ([.ref (q 0), .int p0, .int p1, .long p2]) (n := 5) (Nat.le_of_ble_eq_true rfl)
  rw [lg_entry_eq]
  generalize (lg_sl ([.ref (q 0), .int p0, .int p1, .long p2]) ++ List.replicate (5 - (lg_sl ([.ref (q 0), .int p0, .int p1, .long p2])).length) Slot.unset).toArray = ls at hl ⊢
  have hl : lv_has ls 5 [(0, .ref (q 0)), (1, .int p0), (2, .int p1), (3, .long p2)] := hl
  refine lv_aload_n hx hb dX9_write_0 rfl (lv_at hl 0 rfl) ?_
  refine va_get (D := D) (ci := 9) (v := .ref (q 6)) (C := RX9) (T := TX9) (N := 11) hx hb hT in_X9 hown hK hP 0 rfl rfl 5 (by decide) (hT _ t456) (fun _ h9 => h9) rfl dX9_write_1 ?_
  refine lv_iload_n hx hb dX9_write_4 rfl (lv_at hl 1 rfl) ?_
  refine ro_V (As := [.int p0]) (rest := []) S (c_X4_isSlot l D k q wf p0) lkX9_238 ok_X4_isSlot ⟨rfl, rfl, Nat.le_of_ble_eq_true rfl, Nat.le_of_ble_eq_true rfl⟩ (fw_V (ci := 4) (q0 := 3) hF rfl rfl) rfl hl.1 rfl (Nat.le_of_ble_eq_true rfl) ⟨Nat.zero_le _, Nat.zero_le _⟩ dX9_write_5 (fun r_1 er_1 => ?_)
  rcases er_1 with ⟨er_1, gr_1⟩ | ⟨er_1, gr_1⟩
  · subst er_1
    refine lv_if_ne (tgt := 14) hx hb dX9_write_8 (by decide) (fun c_2 => ?_) (fun c_2 => ?_)
    rotate_left
    · first | exact absurd c_2 (by decide) | exact absurd (by decide) c_2
    refine lv_aload_n hx hb dX9_write_14 rfl (lv_at hl 0 rfl) ?_
    refine va_get (D := D) (ci := 9) (v := .ref (q 6)) (C := RX9) (T := TX9) (N := 11) hx hb hT in_X9 hown hK hP 0 rfl rfl 5 (by decide) (hT _ t456) (fun _ h9 => h9) rfl dX9_write_15 ?_
    refine lv_iload_n hx hb dX9_write_18 rfl (lv_at hl 1 rfl) ?_
    refine ro_V (As := [.int p0]) (rest := []) S (c_X4_hasRow l D k q wf p0 (in4_vp gr_1)) lkX9_241 ok_X4_hasRow ⟨rfl, rfl, Nat.le_of_ble_eq_true rfl, Nat.le_of_ble_eq_true rfl⟩ (fw_V (ci := 4) (q0 := 3) hF rfl rfl) rfl hl.1 rfl (Nat.le_of_ble_eq_true rfl) ⟨Nat.zero_le _, Nat.zero_le _⟩ dX9_write_19 (fun r_3 er_3 => ?_)
    subst er_3
    refine lv_if_ne (tgt := 28) hx hb dX9_write_22 (by decide) (fun c_4 => ?_) (fun c_4 => ?_)
    · first | exact absurd c_4 (by decide) | exact absurd (by decide) c_4
    refine lv_bipush (v := (-6)) hx hb dX9_write_25 (by decide) ?_
    exact W.iret (v := (-6)) hx hb hr (fun t ht hW => ⟨(-6), rfl, (by rw [a_slot, if_neg (fun z => z.elim gr_1.1 (Int32.not_le.mpr gr_1.2))]), ht⟩) (fun _ h9 => by cases h9) dX9_write_27
  · subst er_1
    refine lv_if_ne (tgt := 14) hx hb dX9_write_8 (by decide) (fun c_5 => ?_) (fun c_5 => ?_)
    · first | exact absurd c_5 (by decide) | exact absurd (by decide) c_5
    refine lv_bipush (v := (-2)) hx hb dX9_write_11 (by decide) ?_
    exact W.iret (v := (-2)) hx hb hr (fun t ht hW => ⟨(-2), rfl, (by rw [a_slot, if_pos gr_1]), ht⟩) (fun _ h9 => by cases h9) dX9_write_13
set_option maxHeartbeats 4000000 in
set_option maxRecDepth 100000 in
theorem c_X9_paste (l : Launch) (D : va_G) (k : Nat → ClassId) (q : Nat → Nat) (wf : Nat → Int32) (p0 : Int32) (p1 : Int32) (p2 : Int32) (p3 : Int32) (p4 : Int32)  : Met l yX9_paste (.code yX9_paste cX9_paste 6 (some .int) :: TB) (rmk 2) (va_Pc [.ref (q 0), .int p0, .int p1, .int p2, .int p3, .int p4] (fun U => FWH D k q wf U U.heap)) (vp_Si (fun r => r = a_two p0 p2)) 0 0 (fun _ => False) := by
  refine Met.ofW (cc := cX9_paste) (maxL := 6) (ret := (some .int)) (by decide) rfl ?_
  intro p e s m args below meth c s₁ B hml hv
  obtain ⟨rfl, hF⟩ := hv
  have hx := B.exec
  have hb := B.bytes
  have hr := B.returns
  have hT : ∀ w ∈ TB, w.before ([.ref (q 0), .int p0, .int p1, .int p2, .int p3, .int p4] : List Value).toArray s = true := fun w h => atoms_spec (ws := .code yX9_paste cX9_paste 6 (some .int) :: TB) B.pre w (List.mem_cons_of_mem _ h)
  have hown : s.vm.findClass RX9 = some m.cls := findClass_of_methodNamed B.named
  have S : CallFix p m c cX9_paste 6 s _ TB RX9 := ⟨hx, hb, hml, hown, hT⟩
  have hP : va_P D vwCl [(q 0, .inr (9, [.ref (q 1), .ref (q 2), .ref (q 3), .ref (q 4), .ref (q 5), .ref (q 6), .ref (q 7), .ref (q 8), .ref (q 9), .ref (q 10), .ref (q 11)])), (q 3, .inr (8, [.ref (q 12), .ref (q 13), .int 0, .ref (q 14), .ref (q 15), .ref (q 16)])), (q 12, .inr (1, [.int 0, .int 0, .int 0, .int 0, .int 0, .int 0, .int 0, .ref (q 17), .ref (q 18), .ref (q 19), .ref (q 20), .ref (q 21), .ref (q 22), .ref (q 23)])), (q 6, .inr (4, [.ref (q 24), .ref (q 25), .ref (q 26)])), (q 24, .inl (k 0, 4, .inl wf)), (q 5, .inl (k 3, 3, .inl (fun _ => 0))), (q 1, .inr (6, [.ref (q 27), .int 0])), (q 2, .inr (2, [.ref (q 1), .ref (q 28), .int 0, .int (-1), .int 0, .int 0, .int 0, .int 0]))] s.heap := hF.1
  have hK := hF.2.1
  have hl := lv_entry ([.ref (q 0), .int p0, .int p1, .int p2, .int p3, .int p4]) (n := 6) (Nat.le_of_ble_eq_true rfl)
  rw [lg_entry_eq]
  generalize (lg_sl ([.ref (q 0), .int p0, .int p1, .int p2, .int p3, .int p4]) ++ List.replicate (6 - (lg_sl ([.ref (q 0), .int p0, .int p1, .int p2, .int p3, .int p4])).length) Slot.unset).toArray = ls at hl ⊢
  have hl : lv_has ls 6 [(0, .ref (q 0)), (1, .int p0), (2, .int p1), (3, .int p2), (4, .int p3), (5, .int p4)] := hl
  refine lv_aload_n hx hb dX9_paste_0 rfl (lv_at hl 0 rfl) ?_
  refine va_get (D := D) (ci := 9) (v := .ref (q 6)) (C := RX9) (T := TX9) (N := 11) hx hb hT in_X9 hown hK hP 0 rfl rfl 5 (by decide) (hT _ t456) (fun _ h9 => h9) rfl dX9_paste_1 ?_
  refine lv_iload_n hx hb dX9_paste_4 rfl (lv_at hl 1 rfl) ?_
  refine ro_V (As := [.int p0]) (rest := []) S (c_X4_isSlot l D k q wf p0) lkX9_238 ok_X4_isSlot ⟨rfl, rfl, Nat.le_of_ble_eq_true rfl, Nat.le_of_ble_eq_true rfl⟩ (fw_V (ci := 4) (q0 := 3) hF rfl rfl) rfl hl.1 rfl (Nat.le_of_ble_eq_true rfl) ⟨Nat.zero_le _, Nat.zero_le _⟩ dX9_paste_5 (fun r_1 er_1 => ?_)
  rcases er_1 with ⟨er_1, gr_1⟩ | ⟨er_1, gr_1⟩
  · subst er_1
    refine lv_if_eq (tgt := 22) hx hb dX9_paste_8 (by decide) (fun c_2 => ?_) (fun c_2 => ?_)
    · first | exact absurd c_2 (by decide) | exact absurd (by decide) c_2
    refine lv_aload_n hx hb dX9_paste_11 rfl (lv_at hl 0 rfl) ?_
    refine va_get (D := D) (ci := 9) (v := .ref (q 6)) (C := RX9) (T := TX9) (N := 11) hx hb hT in_X9 hown hK hP 0 rfl rfl 5 (by decide) (hT _ t456) (fun _ h9 => h9) rfl dX9_paste_12 ?_
    refine lv_iload_n hx hb dX9_paste_15 rfl (lv_at hl 3 rfl) ?_
    refine ro_V (As := [.int p2]) (rest := []) S (c_X4_isSlot l D k q wf p2) lkX9_238 ok_X4_isSlot ⟨rfl, rfl, Nat.le_of_ble_eq_true rfl, Nat.le_of_ble_eq_true rfl⟩ (fw_V (ci := 4) (q0 := 3) hF rfl rfl) rfl hl.1 rfl (Nat.le_of_ble_eq_true rfl) ⟨Nat.zero_le _, Nat.zero_le _⟩ dX9_paste_16 (fun r_3 er_3 => ?_)
    rcases er_3 with ⟨er_3, gr_3⟩ | ⟨er_3, gr_3⟩
    · subst er_3
      refine lv_if_ne (tgt := 25) hx hb dX9_paste_19 (by decide) (fun c_4 => ?_) (fun c_4 => ?_)
      rotate_left
      · first | exact absurd c_4 (by decide) | exact absurd (by decide) c_4
      refine lv_aload_n hx hb dX9_paste_25 rfl (lv_at hl 0 rfl) ?_
      refine va_get (D := D) (ci := 9) (v := .ref (q 6)) (C := RX9) (T := TX9) (N := 11) hx hb hT in_X9 hown hK hP 0 rfl rfl 5 (by decide) (hT _ t456) (fun _ h9 => h9) rfl dX9_paste_26 ?_
      refine lv_iload_n hx hb dX9_paste_29 rfl (lv_at hl 1 rfl) ?_
      refine ro_V (As := [.int p0]) (rest := []) S (c_X4_hasRow l D k q wf p0 (in4_vp gr_1)) lkX9_241 ok_X4_hasRow ⟨rfl, rfl, Nat.le_of_ble_eq_true rfl, Nat.le_of_ble_eq_true rfl⟩ (fw_V (ci := 4) (q0 := 3) hF rfl rfl) rfl hl.1 rfl (Nat.le_of_ble_eq_true rfl) ⟨Nat.zero_le _, Nat.zero_le _⟩ dX9_paste_30 (fun r_5 er_5 => ?_)
      subst er_5
      refine lv_if_eq (tgt := 47) hx hb dX9_paste_33 (by decide) (fun c_6 => ?_) (fun c_6 => ?_)
      rotate_left
      · first | exact absurd c_6 (by decide) | exact absurd (by decide) c_6
      refine lv_bipush (v := (-6)) hx hb dX9_paste_47 (by decide) ?_
      exact W.iret (v := (-6)) hx hb hr (fun t ht hW => ⟨(-6), rfl, (by rw [a_two, if_neg (fun z => z.elim (fun z => z.elim gr_1.1 (Int32.not_le.mpr gr_1.2)) (fun z => z.elim gr_3.1 (Int32.not_le.mpr gr_3.2)))]), ht⟩) (fun _ h9 => by cases h9) dX9_paste_49
    · subst er_3
      refine lv_if_ne (tgt := 25) hx hb dX9_paste_19 (by decide) (fun c_7 => ?_) (fun c_7 => ?_)
      · first | exact absurd c_7 (by decide) | exact absurd (by decide) c_7
      refine lv_bipush (v := (-2)) hx hb dX9_paste_22 (by decide) ?_
      exact W.iret (v := (-2)) hx hb hr (fun t ht hW => ⟨(-2), rfl, (by rw [a_two, if_pos (Or.inr gr_3)]), ht⟩) (fun _ h9 => by cases h9) dX9_paste_24
  · subst er_1
    refine lv_if_eq (tgt := 22) hx hb dX9_paste_8 (by decide) (fun c_8 => ?_) (fun c_8 => ?_)
    rotate_left
    · first | exact absurd c_8 (by decide) | exact absurd (by decide) c_8
    refine lv_bipush (v := (-2)) hx hb dX9_paste_22 (by decide) ?_
    exact W.iret (v := (-2)) hx hb hr (fun t ht hW => ⟨(-2), rfl, (by rw [a_two, if_pos (Or.inl gr_1)]), ht⟩) (fun _ h9 => by cases h9) dX9_paste_24
