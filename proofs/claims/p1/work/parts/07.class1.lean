set_option maxHeartbeats 4000000 in
set_option maxRecDepth 100000 in
theorem c_X1_isPlace (l : Launch) (D : va_G) (k : Nat → ClassId) (q : Nat → Nat) (wf : Nat → Int32) (p0 : Int32)  : Met l yX1_isPlace (.code yX1_isPlace cX1_isPlace 2 (some .boolean) :: TB) (rmk 1) (va_Pc [.ref (q 12), .int p0] (fun U => FWH D k q wf U U.heap)) (vp_Si (fun r => r = 0)) 0 0 (fun _ => False) := by
  refine Met.ofW (cc := cX1_isPlace) (maxL := 2) (ret := (some .boolean)) (by decide) rfl ?_
  intro p e s m args below meth c s₁ B hml hv
  obtain ⟨rfl, hF⟩ := hv
  have hx := B.exec
  have hb := B.bytes
  have hr := B.returns
  have hT : ∀ w ∈ TB, w.before ([.ref (q 12), .int p0] : List Value).toArray s = true := fun w h => atoms_spec (ws := .code yX1_isPlace cX1_isPlace 2 (some .boolean) :: TB) B.pre w (List.mem_cons_of_mem _ h)
  have hown : s.vm.findClass RX1 = some m.cls := findClass_of_methodNamed B.named
  have S : CallFix p m c cX1_isPlace 2 s _ TB RX1 := ⟨hx, hb, hml, hown, hT⟩
  have hP : va_P D vwCl [(q 0, .inr (9, [.ref (q 1), .ref (q 2), .ref (q 3), .ref (q 4), .ref (q 5), .ref (q 6), .ref (q 7), .ref (q 8), .ref (q 9), .ref (q 10), .ref (q 11)])), (q 3, .inr (8, [.ref (q 12), .ref (q 13), .int 0, .ref (q 14), .ref (q 15), .ref (q 16)])), (q 12, .inr (1, [.int 0, .int 0, .int 0, .int 0, .int 0, .int 0, .int 0, .ref (q 17), .ref (q 18), .ref (q 19), .ref (q 20), .ref (q 21), .ref (q 22), .ref (q 23)])), (q 6, .inr (4, [.ref (q 24), .ref (q 25), .ref (q 26)])), (q 24, .inl (k 0, 4, .inl wf)), (q 5, .inl (k 3, 3, .inl (fun _ => 0))), (q 1, .inr (6, [.ref (q 27), .int 0])), (q 2, .inr (2, [.ref (q 1), .ref (q 28), .int 0, .int (-1), .int 0, .int 0, .int 0, .int 0]))] s.heap := hF.1
  have hK := hF.2.1
  have hl := lv_entry ([.ref (q 12), .int p0]) (n := 2) (Nat.le_of_ble_eq_true rfl)
  rw [lg_entry_eq]
  generalize (lg_sl ([.ref (q 12), .int p0]) ++ List.replicate (2 - (lg_sl ([.ref (q 12), .int p0])).length) Slot.unset).toArray = ls at hl ⊢
  have hl : lv_has ls 2 [(0, .ref (q 12)), (1, .int p0)] := hl
  refine lv_iload_n hx hb dX1_isPlace_0 rfl (lv_at hl 1 rfl) ?_
  refine lv_if_lt (tgt := 16) hx hb dX1_isPlace_1 (by decide) (fun c_1 => ?_) (fun c_1 => ?_)
  · skip
    refine lv_iconst (v := 0) hx hb dX1_isPlace_16 (by decide) ?_
    exact W.zret (v := 0) (ty := .boolean) hx hb hr rfl (fun t ht hW => ⟨0, rfl, rfl, ht⟩) (fun _ h9 => by cases h9) dX1_isPlace_17
  · skip
    refine lv_iload_n hx hb dX1_isPlace_4 rfl (lv_at hl 1 rfl) ?_
    refine lv_aload_n hx hb dX1_isPlace_5 rfl (lv_at hl 0 rfl) ?_
    refine va_get (D := D) (ci := 1) (v := .int 0) (C := RX1) (T := TX1) (N := 14) hx hb hT in_X1 hown hK hP 2 rfl rfl 1 (by decide) (hT _ t198) (fun _ h9 => h9) rfl dX1_isPlace_6 ?_
    refine lv_icmp_ge (tgt := 16) hx hb dX1_isPlace_9 (by decide) (fun c_2 => ?_) (fun c_2 => ?_)
    · skip
      refine lv_iconst (v := 0) hx hb dX1_isPlace_16 (by decide) ?_
      exact W.zret (v := 0) (ty := .boolean) hx hb hr rfl (fun t ht hW => ⟨0, rfl, rfl, ht⟩) (fun _ h9 => by cases h9) dX1_isPlace_17
    · skip
      exact absurd (i32_nn c_1) c_2
set_option maxHeartbeats 4000000 in
set_option maxRecDepth 100000 in
theorem c_X1_isRoad (l : Launch) (D : va_G) (k : Nat → ClassId) (q : Nat → Nat) (wf : Nat → Int32) (p0 : Int32)  : Met l yX1_isRoad (.code yX1_isRoad cX1_isRoad 2 (some .boolean) :: TB) (rmk 1) (va_Pc [.ref (q 12), .int p0] (fun U => FWH D k q wf U U.heap)) (vp_Si (fun r => r = 0)) 0 0 (fun _ => False) := by
  refine Met.ofW (cc := cX1_isRoad) (maxL := 2) (ret := (some .boolean)) (by decide) rfl ?_
  intro p e s m args below meth c s₁ B hml hv
  obtain ⟨rfl, hF⟩ := hv
  have hx := B.exec
  have hb := B.bytes
  have hr := B.returns
  have hT : ∀ w ∈ TB, w.before ([.ref (q 12), .int p0] : List Value).toArray s = true := fun w h => atoms_spec (ws := .code yX1_isRoad cX1_isRoad 2 (some .boolean) :: TB) B.pre w (List.mem_cons_of_mem _ h)
  have hown : s.vm.findClass RX1 = some m.cls := findClass_of_methodNamed B.named
  have S : CallFix p m c cX1_isRoad 2 s _ TB RX1 := ⟨hx, hb, hml, hown, hT⟩
  have hP : va_P D vwCl [(q 0, .inr (9, [.ref (q 1), .ref (q 2), .ref (q 3), .ref (q 4), .ref (q 5), .ref (q 6), .ref (q 7), .ref (q 8), .ref (q 9), .ref (q 10), .ref (q 11)])), (q 3, .inr (8, [.ref (q 12), .ref (q 13), .int 0, .ref (q 14), .ref (q 15), .ref (q 16)])), (q 12, .inr (1, [.int 0, .int 0, .int 0, .int 0, .int 0, .int 0, .int 0, .ref (q 17), .ref (q 18), .ref (q 19), .ref (q 20), .ref (q 21), .ref (q 22), .ref (q 23)])), (q 6, .inr (4, [.ref (q 24), .ref (q 25), .ref (q 26)])), (q 24, .inl (k 0, 4, .inl wf)), (q 5, .inl (k 3, 3, .inl (fun _ => 0))), (q 1, .inr (6, [.ref (q 27), .int 0])), (q 2, .inr (2, [.ref (q 1), .ref (q 28), .int 0, .int (-1), .int 0, .int 0, .int 0, .int 0]))] s.heap := hF.1
  have hK := hF.2.1
  have hl := lv_entry ([.ref (q 12), .int p0]) (n := 2) (Nat.le_of_ble_eq_true rfl)
  rw [lg_entry_eq]
  generalize (lg_sl ([.ref (q 12), .int p0]) ++ List.replicate (2 - (lg_sl ([.ref (q 12), .int p0])).length) Slot.unset).toArray = ls at hl ⊢
  have hl : lv_has ls 2 [(0, .ref (q 12)), (1, .int p0)] := hl
  refine lv_iload_n hx hb dX1_isRoad_0 rfl (lv_at hl 1 rfl) ?_
  refine lv_if_lt (tgt := 16) hx hb dX1_isRoad_1 (by decide) (fun c_1 => ?_) (fun c_1 => ?_)
  · skip
    refine lv_iconst (v := 0) hx hb dX1_isRoad_16 (by decide) ?_
    exact W.zret (v := 0) (ty := .boolean) hx hb hr rfl (fun t ht hW => ⟨0, rfl, rfl, ht⟩) (fun _ h9 => by cases h9) dX1_isRoad_17
  · skip
    refine lv_iload_n hx hb dX1_isRoad_4 rfl (lv_at hl 1 rfl) ?_
    refine lv_aload_n hx hb dX1_isRoad_5 rfl (lv_at hl 0 rfl) ?_
    refine va_get (D := D) (ci := 1) (v := .int 0) (C := RX1) (T := TX1) (N := 14) hx hb hT in_X1 hown hK hP 2 rfl rfl 3 (by decide) (hT _ t207) (fun _ h9 => h9) rfl dX1_isRoad_6 ?_
    refine lv_icmp_ge (tgt := 16) hx hb dX1_isRoad_9 (by decide) (fun c_2 => ?_) (fun c_2 => ?_)
    · skip
      refine lv_iconst (v := 0) hx hb dX1_isRoad_16 (by decide) ?_
      exact W.zret (v := 0) (ty := .boolean) hx hb hr rfl (fun t ht hW => ⟨0, rfl, rfl, ht⟩) (fun _ h9 => by cases h9) dX1_isRoad_17
    · skip
      exact absurd (i32_nn c_1) c_2
set_option maxHeartbeats 4000000 in
set_option maxRecDepth 100000 in
theorem c_X1_isWheel (l : Launch) (D : va_G) (k : Nat → ClassId) (q : Nat → Nat) (wf : Nat → Int32) (p0 : Int32)  : Met l yX1_isWheel (.code yX1_isWheel cX1_isWheel 2 (some .boolean) :: TB) (rmk 1) (va_Pc [.ref (q 12), .int p0] (fun U => FWH D k q wf U U.heap)) (vp_Si (fun r => r = 0)) 0 0 (fun _ => False) := by
  refine Met.ofW (cc := cX1_isWheel) (maxL := 2) (ret := (some .boolean)) (by decide) rfl ?_
  intro p e s m args below meth c s₁ B hml hv
  obtain ⟨rfl, hF⟩ := hv
  have hx := B.exec
  have hb := B.bytes
  have hr := B.returns
  have hT : ∀ w ∈ TB, w.before ([.ref (q 12), .int p0] : List Value).toArray s = true := fun w h => atoms_spec (ws := .code yX1_isWheel cX1_isWheel 2 (some .boolean) :: TB) B.pre w (List.mem_cons_of_mem _ h)
  have hown : s.vm.findClass RX1 = some m.cls := findClass_of_methodNamed B.named
  have S : CallFix p m c cX1_isWheel 2 s _ TB RX1 := ⟨hx, hb, hml, hown, hT⟩
  have hP : va_P D vwCl [(q 0, .inr (9, [.ref (q 1), .ref (q 2), .ref (q 3), .ref (q 4), .ref (q 5), .ref (q 6), .ref (q 7), .ref (q 8), .ref (q 9), .ref (q 10), .ref (q 11)])), (q 3, .inr (8, [.ref (q 12), .ref (q 13), .int 0, .ref (q 14), .ref (q 15), .ref (q 16)])), (q 12, .inr (1, [.int 0, .int 0, .int 0, .int 0, .int 0, .int 0, .int 0, .ref (q 17), .ref (q 18), .ref (q 19), .ref (q 20), .ref (q 21), .ref (q 22), .ref (q 23)])), (q 6, .inr (4, [.ref (q 24), .ref (q 25), .ref (q 26)])), (q 24, .inl (k 0, 4, .inl wf)), (q 5, .inl (k 3, 3, .inl (fun _ => 0))), (q 1, .inr (6, [.ref (q 27), .int 0])), (q 2, .inr (2, [.ref (q 1), .ref (q 28), .int 0, .int (-1), .int 0, .int 0, .int 0, .int 0]))] s.heap := hF.1
  have hK := hF.2.1
  have hl := lv_entry ([.ref (q 12), .int p0]) (n := 2) (Nat.le_of_ble_eq_true rfl)
  rw [lg_entry_eq]
  generalize (lg_sl ([.ref (q 12), .int p0]) ++ List.replicate (2 - (lg_sl ([.ref (q 12), .int p0])).length) Slot.unset).toArray = ls at hl ⊢
  have hl : lv_has ls 2 [(0, .ref (q 12)), (1, .int p0)] := hl
  refine lv_iload_n hx hb dX1_isWheel_0 rfl (lv_at hl 1 rfl) ?_
  refine lv_if_lt (tgt := 16) hx hb dX1_isWheel_1 (by decide) (fun c_1 => ?_) (fun c_1 => ?_)
  · skip
    refine lv_iconst (v := 0) hx hb dX1_isWheel_16 (by decide) ?_
    exact W.zret (v := 0) (ty := .boolean) hx hb hr rfl (fun t ht hW => ⟨0, rfl, rfl, ht⟩) (fun _ h9 => by cases h9) dX1_isWheel_17
  · skip
    refine lv_iload_n hx hb dX1_isWheel_4 rfl (lv_at hl 1 rfl) ?_
    refine lv_aload_n hx hb dX1_isWheel_5 rfl (lv_at hl 0 rfl) ?_
    refine va_get (D := D) (ci := 1) (v := .int 0) (C := RX1) (T := TX1) (N := 14) hx hb hT in_X1 hown hK hP 2 rfl rfl 4 (by decide) (hT _ t213) (fun _ h9 => h9) rfl dX1_isWheel_6 ?_
    refine lv_icmp_ge (tgt := 16) hx hb dX1_isWheel_9 (by decide) (fun c_2 => ?_) (fun c_2 => ?_)
    · skip
      refine lv_iconst (v := 0) hx hb dX1_isWheel_16 (by decide) ?_
      exact W.zret (v := 0) (ty := .boolean) hx hb hr rfl (fun t ht hW => ⟨0, rfl, rfl, ht⟩) (fun _ h9 => by cases h9) dX1_isWheel_17
    · skip
      exact absurd (i32_nn c_1) c_2
set_option maxHeartbeats 4000000 in
set_option maxRecDepth 100000 in
theorem c_X1_isCart (l : Launch) (D : va_G) (k : Nat → ClassId) (q : Nat → Nat) (wf : Nat → Int32) (p0 : Int32)  : Met l yX1_isCart (.code yX1_isCart cX1_isCart 2 (some .boolean) :: TB) (rmk 1) (va_Pc [.ref (q 12), .int p0] (fun U => FWH D k q wf U U.heap)) (vp_Si (fun r => r = 0)) 0 0 (fun _ => False) := by
  refine Met.ofW (cc := cX1_isCart) (maxL := 2) (ret := (some .boolean)) (by decide) rfl ?_
  intro p e s m args below meth c s₁ B hml hv
  obtain ⟨rfl, hF⟩ := hv
  have hx := B.exec
  have hb := B.bytes
  have hr := B.returns
  have hT : ∀ w ∈ TB, w.before ([.ref (q 12), .int p0] : List Value).toArray s = true := fun w h => atoms_spec (ws := .code yX1_isCart cX1_isCart 2 (some .boolean) :: TB) B.pre w (List.mem_cons_of_mem _ h)
  have hown : s.vm.findClass RX1 = some m.cls := findClass_of_methodNamed B.named
  have S : CallFix p m c cX1_isCart 2 s _ TB RX1 := ⟨hx, hb, hml, hown, hT⟩
  have hP : va_P D vwCl [(q 0, .inr (9, [.ref (q 1), .ref (q 2), .ref (q 3), .ref (q 4), .ref (q 5), .ref (q 6), .ref (q 7), .ref (q 8), .ref (q 9), .ref (q 10), .ref (q 11)])), (q 3, .inr (8, [.ref (q 12), .ref (q 13), .int 0, .ref (q 14), .ref (q 15), .ref (q 16)])), (q 12, .inr (1, [.int 0, .int 0, .int 0, .int 0, .int 0, .int 0, .int 0, .ref (q 17), .ref (q 18), .ref (q 19), .ref (q 20), .ref (q 21), .ref (q 22), .ref (q 23)])), (q 6, .inr (4, [.ref (q 24), .ref (q 25), .ref (q 26)])), (q 24, .inl (k 0, 4, .inl wf)), (q 5, .inl (k 3, 3, .inl (fun _ => 0))), (q 1, .inr (6, [.ref (q 27), .int 0])), (q 2, .inr (2, [.ref (q 1), .ref (q 28), .int 0, .int (-1), .int 0, .int 0, .int 0, .int 0]))] s.heap := hF.1
  have hK := hF.2.1
  have hl := lv_entry ([.ref (q 12), .int p0]) (n := 2) (Nat.le_of_ble_eq_true rfl)
  rw [lg_entry_eq]
  generalize (lg_sl ([.ref (q 12), .int p0]) ++ List.replicate (2 - (lg_sl ([.ref (q 12), .int p0])).length) Slot.unset).toArray = ls at hl ⊢
  have hl : lv_has ls 2 [(0, .ref (q 12)), (1, .int p0)] := hl
  refine lv_iload_n hx hb dX1_isCart_0 rfl (lv_at hl 1 rfl) ?_
  refine lv_if_lt (tgt := 16) hx hb dX1_isCart_1 (by decide) (fun c_1 => ?_) (fun c_1 => ?_)
  · skip
    refine lv_iconst (v := 0) hx hb dX1_isCart_16 (by decide) ?_
    exact W.zret (v := 0) (ty := .boolean) hx hb hr rfl (fun t ht hW => ⟨0, rfl, rfl, ht⟩) (fun _ h9 => by cases h9) dX1_isCart_17
  · skip
    refine lv_iload_n hx hb dX1_isCart_4 rfl (lv_at hl 1 rfl) ?_
    refine lv_aload_n hx hb dX1_isCart_5 rfl (lv_at hl 0 rfl) ?_
    refine va_get (D := D) (ci := 1) (v := .int 0) (C := RX1) (T := TX1) (N := 14) hx hb hT in_X1 hown hK hP 2 rfl rfl 5 (by decide) (hT _ t216) (fun _ h9 => h9) rfl dX1_isCart_6 ?_
    refine lv_icmp_ge (tgt := 16) hx hb dX1_isCart_9 (by decide) (fun c_2 => ?_) (fun c_2 => ?_)
    · skip
      refine lv_iconst (v := 0) hx hb dX1_isCart_16 (by decide) ?_
      exact W.zret (v := 0) (ty := .boolean) hx hb hr rfl (fun t ht hW => ⟨0, rfl, rfl, ht⟩) (fun _ h9 => by cases h9) dX1_isCart_17
    · skip
      exact absurd (i32_nn c_1) c_2
set_option maxHeartbeats 4000000 in
set_option maxRecDepth 100000 in
theorem c_X1_isErrand (l : Launch) (D : va_G) (k : Nat → ClassId) (q : Nat → Nat) (wf : Nat → Int32) (p0 : Int32)  : Met l yX1_isErrand (.code yX1_isErrand cX1_isErrand 2 (some .boolean) :: TB) (rmk 1) (va_Pc [.ref (q 12), .int p0] (fun U => FWH D k q wf U U.heap)) (vp_Si (fun r => r = 0)) 0 0 (fun _ => False) := by
  refine Met.ofW (cc := cX1_isErrand) (maxL := 2) (ret := (some .boolean)) (by decide) rfl ?_
  intro p e s m args below meth c s₁ B hml hv
  obtain ⟨rfl, hF⟩ := hv
  have hx := B.exec
  have hb := B.bytes
  have hr := B.returns
  have hT : ∀ w ∈ TB, w.before ([.ref (q 12), .int p0] : List Value).toArray s = true := fun w h => atoms_spec (ws := .code yX1_isErrand cX1_isErrand 2 (some .boolean) :: TB) B.pre w (List.mem_cons_of_mem _ h)
  have hown : s.vm.findClass RX1 = some m.cls := findClass_of_methodNamed B.named
  have S : CallFix p m c cX1_isErrand 2 s _ TB RX1 := ⟨hx, hb, hml, hown, hT⟩
  have hP : va_P D vwCl [(q 0, .inr (9, [.ref (q 1), .ref (q 2), .ref (q 3), .ref (q 4), .ref (q 5), .ref (q 6), .ref (q 7), .ref (q 8), .ref (q 9), .ref (q 10), .ref (q 11)])), (q 3, .inr (8, [.ref (q 12), .ref (q 13), .int 0, .ref (q 14), .ref (q 15), .ref (q 16)])), (q 12, .inr (1, [.int 0, .int 0, .int 0, .int 0, .int 0, .int 0, .int 0, .ref (q 17), .ref (q 18), .ref (q 19), .ref (q 20), .ref (q 21), .ref (q 22), .ref (q 23)])), (q 6, .inr (4, [.ref (q 24), .ref (q 25), .ref (q 26)])), (q 24, .inl (k 0, 4, .inl wf)), (q 5, .inl (k 3, 3, .inl (fun _ => 0))), (q 1, .inr (6, [.ref (q 27), .int 0])), (q 2, .inr (2, [.ref (q 1), .ref (q 28), .int 0, .int (-1), .int 0, .int 0, .int 0, .int 0]))] s.heap := hF.1
  have hK := hF.2.1
  have hl := lv_entry ([.ref (q 12), .int p0]) (n := 2) (Nat.le_of_ble_eq_true rfl)
  rw [lg_entry_eq]
  generalize (lg_sl ([.ref (q 12), .int p0]) ++ List.replicate (2 - (lg_sl ([.ref (q 12), .int p0])).length) Slot.unset).toArray = ls at hl ⊢
  have hl : lv_has ls 2 [(0, .ref (q 12)), (1, .int p0)] := hl
  refine lv_iload_n hx hb dX1_isErrand_0 rfl (lv_at hl 1 rfl) ?_
  refine lv_if_lt (tgt := 16) hx hb dX1_isErrand_1 (by decide) (fun c_1 => ?_) (fun c_1 => ?_)
  · skip
    refine lv_iconst (v := 0) hx hb dX1_isErrand_16 (by decide) ?_
    exact W.zret (v := 0) (ty := .boolean) hx hb hr rfl (fun t ht hW => ⟨0, rfl, rfl, ht⟩) (fun _ h9 => by cases h9) dX1_isErrand_17
  · skip
    refine lv_iload_n hx hb dX1_isErrand_4 rfl (lv_at hl 1 rfl) ?_
    refine lv_aload_n hx hb dX1_isErrand_5 rfl (lv_at hl 0 rfl) ?_
    refine va_get (D := D) (ci := 1) (v := .int 0) (C := RX1) (T := TX1) (N := 14) hx hb hT in_X1 hown hK hP 2 rfl rfl 6 (by decide) (hT _ t219) (fun _ h9 => h9) rfl dX1_isErrand_6 ?_
    refine lv_icmp_ge (tgt := 16) hx hb dX1_isErrand_9 (by decide) (fun c_2 => ?_) (fun c_2 => ?_)
    · skip
      refine lv_iconst (v := 0) hx hb dX1_isErrand_16 (by decide) ?_
      exact W.zret (v := 0) (ty := .boolean) hx hb hr rfl (fun t ht hW => ⟨0, rfl, rfl, ht⟩) (fun _ h9 => by cases h9) dX1_isErrand_17
    · skip
      exact absurd (i32_nn c_1) c_2
set_option maxHeartbeats 4000000 in
set_option maxRecDepth 100000 in
theorem c_X1_isTold (l : Launch) (D : va_G) (k : Nat → ClassId) (q : Nat → Nat) (wf : Nat → Int32)   : Met l yX1_isTold (.code yX1_isTold cX1_isTold 1 (some .boolean) :: TB) (rmk 1) (va_Pc [.ref (q 12)] (fun U => FWH D k q wf U U.heap)) (vp_Si (fun r => r = 0)) 0 0 (fun _ => False) := by
  refine Met.ofW (cc := cX1_isTold) (maxL := 1) (ret := (some .boolean)) (by decide) rfl ?_
  intro p e s m args below meth c s₁ B hml hv
  obtain ⟨rfl, hF⟩ := hv
  have hx := B.exec
  have hb := B.bytes
  have hr := B.returns
  have hT : ∀ w ∈ TB, w.before ([.ref (q 12)] : List Value).toArray s = true := fun w h => atoms_spec (ws := .code yX1_isTold cX1_isTold 1 (some .boolean) :: TB) B.pre w (List.mem_cons_of_mem _ h)
  have hown : s.vm.findClass RX1 = some m.cls := findClass_of_methodNamed B.named
  have S : CallFix p m c cX1_isTold 1 s _ TB RX1 := ⟨hx, hb, hml, hown, hT⟩
  have hP : va_P D vwCl [(q 0, .inr (9, [.ref (q 1), .ref (q 2), .ref (q 3), .ref (q 4), .ref (q 5), .ref (q 6), .ref (q 7), .ref (q 8), .ref (q 9), .ref (q 10), .ref (q 11)])), (q 3, .inr (8, [.ref (q 12), .ref (q 13), .int 0, .ref (q 14), .ref (q 15), .ref (q 16)])), (q 12, .inr (1, [.int 0, .int 0, .int 0, .int 0, .int 0, .int 0, .int 0, .ref (q 17), .ref (q 18), .ref (q 19), .ref (q 20), .ref (q 21), .ref (q 22), .ref (q 23)])), (q 6, .inr (4, [.ref (q 24), .ref (q 25), .ref (q 26)])), (q 24, .inl (k 0, 4, .inl wf)), (q 5, .inl (k 3, 3, .inl (fun _ => 0))), (q 1, .inr (6, [.ref (q 27), .int 0])), (q 2, .inr (2, [.ref (q 1), .ref (q 28), .int 0, .int (-1), .int 0, .int 0, .int 0, .int 0]))] s.heap := hF.1
  have hK := hF.2.1
  have hl := lv_entry ([.ref (q 12)]) (n := 1) (Nat.le_of_ble_eq_true rfl)
  rw [lg_entry_eq]
  generalize (lg_sl ([.ref (q 12)]) ++ List.replicate (1 - (lg_sl ([.ref (q 12)])).length) Slot.unset).toArray = ls at hl ⊢
  have hl : lv_has ls 1 [(0, .ref (q 12))] := hl
  refine lv_aload_n hx hb dX1_isTold_0 rfl (lv_at hl 0 rfl) ?_
  refine va_get (D := D) (ci := 1) (v := .int 0) (C := RX1) (T := TX1) (N := 14) hx hb hT in_X1 hown hK hP 2 rfl rfl 0 (by decide) (hT _ t195) (fun _ h9 => h9) rfl dX1_isTold_1 ?_
  refine lv_if_le (tgt := 11) hx hb dX1_isTold_4 (by decide) (fun c_1 => ?_) (fun c_1 => ?_)
  rotate_left
  · first | exact absurd c_1 (by decide) | exact absurd (by decide) c_1
  refine lv_iconst (v := 0) hx hb dX1_isTold_11 (by decide) ?_
  exact W.zret (v := 0) (ty := .boolean) hx hb hr rfl (fun t ht hW => ⟨0, rfl, rfl, ht⟩) (fun _ h9 => by cases h9) dX1_isTold_12
set_option maxHeartbeats 4000000 in
set_option maxRecDepth 100000 in
theorem c_X4_isSlot (l : Launch) (D : va_G) (k : Nat → ClassId) (q : Nat → Nat) (wf : Nat → Int32) (p0 : Int32)  : Met l yX4_isSlot (.code yX4_isSlot cX4_isSlot 2 (some .boolean) :: TB) (rmk 1) (va_Pc [.ref (q 6), .int p0] (fun U => FWH D k q wf U U.heap)) (vp_Si (fun r => (r = 1 ∧ in4 p0) ∨ (r = 0 ∧ (p0 < 0 ∨ 4 ≤ p0)))) 0 0 (fun _ => False) := by
  refine Met.ofW (cc := cX4_isSlot) (maxL := 2) (ret := (some .boolean)) (by decide) rfl ?_
  intro p e s m args below meth c s₁ B hml hv
  obtain ⟨rfl, hF⟩ := hv
  have hx := B.exec
  have hb := B.bytes
  have hr := B.returns
  have hT : ∀ w ∈ TB, w.before ([.ref (q 6), .int p0] : List Value).toArray s = true := fun w h => atoms_spec (ws := .code yX4_isSlot cX4_isSlot 2 (some .boolean) :: TB) B.pre w (List.mem_cons_of_mem _ h)
  have hown : s.vm.findClass RX4 = some m.cls := findClass_of_methodNamed B.named
  have S : CallFix p m c cX4_isSlot 2 s _ TB RX4 := ⟨hx, hb, hml, hown, hT⟩
  have hP : va_P D vwCl [(q 0, .inr (9, [.ref (q 1), .ref (q 2), .ref (q 3), .ref (q 4), .ref (q 5), .ref (q 6), .ref (q 7), .ref (q 8), .ref (q 9), .ref (q 10), .ref (q 11)])), (q 3, .inr (8, [.ref (q 12), .ref (q 13), .int 0, .ref (q 14), .ref (q 15), .ref (q 16)])), (q 12, .inr (1, [.int 0, .int 0, .int 0, .int 0, .int 0, .int 0, .int 0, .ref (q 17), .ref (q 18), .ref (q 19), .ref (q 20), .ref (q 21), .ref (q 22), .ref (q 23)])), (q 6, .inr (4, [.ref (q 24), .ref (q 25), .ref (q 26)])), (q 24, .inl (k 0, 4, .inl wf)), (q 5, .inl (k 3, 3, .inl (fun _ => 0))), (q 1, .inr (6, [.ref (q 27), .int 0])), (q 2, .inr (2, [.ref (q 1), .ref (q 28), .int 0, .int (-1), .int 0, .int 0, .int 0, .int 0]))] s.heap := hF.1
  have hK := hF.2.1
  have hl := lv_entry ([.ref (q 6), .int p0]) (n := 2) (Nat.le_of_ble_eq_true rfl)
  rw [lg_entry_eq]
  generalize (lg_sl ([.ref (q 6), .int p0]) ++ List.replicate (2 - (lg_sl ([.ref (q 6), .int p0])).length) Slot.unset).toArray = ls at hl ⊢
  have hl : lv_has ls 2 [(0, .ref (q 6)), (1, .int p0)] := hl
  refine lv_iload_n hx hb dX4_isSlot_0 rfl (lv_at hl 1 rfl) ?_
  refine lv_if_lt (tgt := 13) hx hb dX4_isSlot_1 (by decide) (fun c_1 => ?_) (fun c_1 => ?_)
  · skip
    refine lv_iconst (v := 0) hx hb dX4_isSlot_13 (by decide) ?_
    exact W.zret (v := 0) (ty := .boolean) hx hb hr rfl (fun t ht hW => ⟨0, rfl, Or.inr ⟨rfl, Or.inl c_1⟩, ht⟩) (fun _ h9 => by cases h9) dX4_isSlot_14
  · skip
    refine lv_iload_n hx hb dX4_isSlot_4 rfl (lv_at hl 1 rfl) ?_
    refine lv_iconst (v := 4) hx hb dX4_isSlot_5 (by decide) ?_
    refine lv_icmp_ge (tgt := 13) hx hb dX4_isSlot_6 (by decide) (fun c_2 => ?_) (fun c_2 => ?_)
    · skip
      refine lv_iconst (v := 0) hx hb dX4_isSlot_13 (by decide) ?_
      exact W.zret (v := 0) (ty := .boolean) hx hb hr rfl (fun t ht hW => ⟨0, rfl, Or.inr ⟨rfl, Or.inr c_2⟩, ht⟩) (fun _ h9 => by cases h9) dX4_isSlot_14
    · skip
      refine lv_iconst (v := 1) hx hb dX4_isSlot_9 (by decide) ?_
      refine lv_goto (tgt := 14) hx hb dX4_isSlot_10 (by decide) ?_
      exact W.zret (v := 1) (ty := .boolean) hx hb hr rfl (fun t ht hW => ⟨1, rfl, Or.inl ⟨rfl, c_1, (Int32.not_le.mp c_2)⟩, ht⟩) (fun _ h9 => by cases h9) dX4_isSlot_14
set_option maxHeartbeats 4000000 in
set_option maxRecDepth 100000 in
theorem c_X4_hasRow (l : Launch) (D : va_G) (k : Nat → ClassId) (q : Nat → Nat) (wf : Nat → Int32) (p0 : Int32) (hp : vp_in p0 4) : Met l yX4_hasRow (.code yX4_hasRow cX4_hasRow 2 (some .boolean) :: TB) (rmk 1) (va_Pc [.ref (q 6), .int p0] (fun U => FWH D k q wf U U.heap)) (vp_Si (fun r => r = 0)) 0 0 (fun _ => False) := by
  refine Met.ofW (cc := cX4_hasRow) (maxL := 2) (ret := (some .boolean)) (by decide) rfl ?_
  intro p e s m args below meth c s₁ B hml hv
  obtain ⟨rfl, hF⟩ := hv
  have hx := B.exec
  have hb := B.bytes
  have hr := B.returns
  have hT : ∀ w ∈ TB, w.before ([.ref (q 6), .int p0] : List Value).toArray s = true := fun w h => atoms_spec (ws := .code yX4_hasRow cX4_hasRow 2 (some .boolean) :: TB) B.pre w (List.mem_cons_of_mem _ h)
  have hown : s.vm.findClass RX4 = some m.cls := findClass_of_methodNamed B.named
  have S : CallFix p m c cX4_hasRow 2 s _ TB RX4 := ⟨hx, hb, hml, hown, hT⟩
  have hP : va_P D vwCl [(q 0, .inr (9, [.ref (q 1), .ref (q 2), .ref (q 3), .ref (q 4), .ref (q 5), .ref (q 6), .ref (q 7), .ref (q 8), .ref (q 9), .ref (q 10), .ref (q 11)])), (q 3, .inr (8, [.ref (q 12), .ref (q 13), .int 0, .ref (q 14), .ref (q 15), .ref (q 16)])), (q 12, .inr (1, [.int 0, .int 0, .int 0, .int 0, .int 0, .int 0, .int 0, .ref (q 17), .ref (q 18), .ref (q 19), .ref (q 20), .ref (q 21), .ref (q 22), .ref (q 23)])), (q 6, .inr (4, [.ref (q 24), .ref (q 25), .ref (q 26)])), (q 24, .inl (k 0, 4, .inl wf)), (q 5, .inl (k 3, 3, .inl (fun _ => 0))), (q 1, .inr (6, [.ref (q 27), .int 0])), (q 2, .inr (2, [.ref (q 1), .ref (q 28), .int 0, .int (-1), .int 0, .int 0, .int 0, .int 0]))] s.heap := hF.1
  have hK := hF.2.1
  have hl := lv_entry ([.ref (q 6), .int p0]) (n := 2) (Nat.le_of_ble_eq_true rfl)
  rw [lg_entry_eq]
  generalize (lg_sl ([.ref (q 6), .int p0]) ++ List.replicate (2 - (lg_sl ([.ref (q 6), .int p0])).length) Slot.unset).toArray = ls at hl ⊢
  have hl : lv_has ls 2 [(0, .ref (q 6)), (1, .int p0)] := hl
  refine lv_aload_n hx hb dX4_hasRow_0 rfl (lv_at hl 0 rfl) ?_
  refine va_get (D := D) (ci := 4) (v := .ref (q 24)) (C := RX4) (T := TX4) (N := 3) hx hb hT in_X4 hown hK hP 3 rfl rfl 0 (by decide) (hT _ t343) (fun _ h9 => h9) rfl dX4_hasRow_1 ?_
  refine lv_iload_n hx hb dX4_hasRow_4 rfl (lv_at hl 1 rfl) ?_
  refine va_iald hx hb hK hP 4 0 rfl rfl hp dX4_hasRow_5 ?_
  refine k_top (y := (-1)) (hF.2.2 _ (vp_in_lt hp)) ?_
  refine lv_iconst (v := (-1)) hx hb dX4_hasRow_6 (by decide) ?_
  refine lv_icmp_eq (tgt := 14) hx hb dX4_hasRow_7 (by decide) (fun c_1 => ?_) (fun c_1 => ?_)
  rotate_left
  · first | exact absurd c_1 (by decide) | exact absurd (by decide) c_1
  refine lv_iconst (v := 0) hx hb dX4_hasRow_14 (by decide) ?_
  exact W.zret (v := 0) (ty := .boolean) hx hb hr rfl (fun t ht hW => ⟨0, rfl, rfl, ht⟩) (fun _ h9 => by cases h9) dX4_hasRow_15
set_option maxHeartbeats 4000000 in
set_option maxRecDepth 100000 in
theorem c_X4_rowCount (l : Launch) (D : va_G) (k : Nat → ClassId) (q : Nat → Nat) (wf : Nat → Int32)   : Met l yX4_rowCount (.code yX4_rowCount cX4_rowCount 3 (some .int) :: TB) (rmk 2) (va_Pc [.ref (q 6)] (fun U => FWH D k q wf U U.heap)) (vp_Si (fun r => r = 0)) 0 0 (fun _ => False) := by
  refine Met.ofW (cc := cX4_rowCount) (maxL := 3) (ret := (some .int)) (by decide) rfl ?_
  intro p e s m args below meth c s₁ B hml hv
  obtain ⟨rfl, hF⟩ := hv
  have hx := B.exec
  have hb := B.bytes
  have hr := B.returns
  have hT : ∀ w ∈ TB, w.before ([.ref (q 6)] : List Value).toArray s = true := fun w h => atoms_spec (ws := .code yX4_rowCount cX4_rowCount 3 (some .int) :: TB) B.pre w (List.mem_cons_of_mem _ h)
  have hown : s.vm.findClass RX4 = some m.cls := findClass_of_methodNamed B.named
  have S : CallFix p m c cX4_rowCount 3 s _ TB RX4 := ⟨hx, hb, hml, hown, hT⟩
  have hP : va_P D vwCl [(q 0, .inr (9, [.ref (q 1), .ref (q 2), .ref (q 3), .ref (q 4), .ref (q 5), .ref (q 6), .ref (q 7), .ref (q 8), .ref (q 9), .ref (q 10), .ref (q 11)])), (q 3, .inr (8, [.ref (q 12), .ref (q 13), .int 0, .ref (q 14), .ref (q 15), .ref (q 16)])), (q 12, .inr (1, [.int 0, .int 0, .int 0, .int 0, .int 0, .int 0, .int 0, .ref (q 17), .ref (q 18), .ref (q 19), .ref (q 20), .ref (q 21), .ref (q 22), .ref (q 23)])), (q 6, .inr (4, [.ref (q 24), .ref (q 25), .ref (q 26)])), (q 24, .inl (k 0, 4, .inl wf)), (q 5, .inl (k 3, 3, .inl (fun _ => 0))), (q 1, .inr (6, [.ref (q 27), .int 0])), (q 2, .inr (2, [.ref (q 1), .ref (q 28), .int 0, .int (-1), .int 0, .int 0, .int 0, .int 0]))] s.heap := hF.1
  have hK := hF.2.1
  have hl := lv_entry ([.ref (q 6)]) (n := 3) (Nat.le_of_ble_eq_true rfl)
  rw [lg_entry_eq]
  generalize (lg_sl ([.ref (q 6)]) ++ List.replicate (3 - (lg_sl ([.ref (q 6)])).length) Slot.unset).toArray = ls at hl ⊢
  have hl : lv_has ls 3 [(0, .ref (q 6))] := hl
  refine lv_iconst (v := 0) hx hb dX4_rowCount_0 (by decide) ?_
  refine lv_istore_n (lv' := [(1, .int 0), (0, .ref (q 6))]) hx hb dX4_rowCount_1 rfl hl (by decide) rfl (fun ls hl => ?_)
  refine lv_iconst (v := 0) hx hb dX4_rowCount_2 (by decide) ?_
  refine lv_istore_n (lv' := [(2, .int 0), (1, .int 0), (0, .ref (q 6))]) hx hb dX4_rowCount_3 rfl hl (by decide) rfl (fun ls hl => ?_)
  refine lv_iload_n hx hb dX4_rowCount_4 rfl (lv_at hl 0 rfl) ?_
  refine lv_iconst (v := 4) hx hb dX4_rowCount_5 (by decide) ?_
  refine lv_icmp_ge (tgt := 26) hx hb dX4_rowCount_6 (by decide) (fun c_1 => ?_) (fun c_1 => ?_)
  · first | exact absurd c_1 (by decide) | exact absurd (by decide) c_1
  refine lv_aload_n hx hb dX4_rowCount_9 rfl (lv_at hl 2 rfl) ?_
  refine lv_iload_n hx hb dX4_rowCount_10 rfl (lv_at hl 0 rfl) ?_
  refine ro_V (As := [.int 0]) (rest := []) S (c_X4_hasRow l D k q wf 0 (by unfold vp_in; decide)) lkX4_29 ok_X4_hasRow ⟨rfl, rfl, Nat.le_of_ble_eq_true rfl, Nat.le_of_ble_eq_true rfl⟩ (fw_V (ci := 4) (q0 := 3) hF rfl rfl) rfl hl.1 rfl (Nat.le_of_ble_eq_true rfl) ⟨Nat.zero_le _, Nat.zero_le _⟩ dX4_rowCount_11 (fun r_2 er_2 => ?_)
  subst er_2
  refine lv_if_eq (tgt := 20) hx hb dX4_rowCount_14 (by decide) (fun c_3 => ?_) (fun c_3 => ?_)
  rotate_left
  · first | exact absurd c_3 (by decide) | exact absurd (by decide) c_3
  refine lv_iinc (v := 1) (lv' := [(2, .int 1), (1, .int 0), (0, .ref (q 6))]) hx hb dX4_rowCount_20 hl (k := 0) rfl (by decide) (by decide) rfl (fun ls hl => ?_)
  refine lv_goto (tgt := 4) hx hb dX4_rowCount_23 (by decide) ?_
  refine lv_iload_n hx hb dX4_rowCount_4 rfl (lv_at hl 0 rfl) ?_
  refine lv_iconst (v := 4) hx hb dX4_rowCount_5 (by decide) ?_
  refine lv_icmp_ge (tgt := 26) hx hb dX4_rowCount_6 (by decide) (fun c_4 => ?_) (fun c_4 => ?_)
  · first | exact absurd c_4 (by decide) | exact absurd (by decide) c_4
  refine lv_aload_n hx hb dX4_rowCount_9 rfl (lv_at hl 2 rfl) ?_
  refine lv_iload_n hx hb dX4_rowCount_10 rfl (lv_at hl 0 rfl) ?_
  refine ro_V (As := [.int 1]) (rest := []) S (c_X4_hasRow l D k q wf 1 (by unfold vp_in; decide)) lkX4_29 ok_X4_hasRow ⟨rfl, rfl, Nat.le_of_ble_eq_true rfl, Nat.le_of_ble_eq_true rfl⟩ (fw_V (ci := 4) (q0 := 3) hF rfl rfl) rfl hl.1 rfl (Nat.le_of_ble_eq_true rfl) ⟨Nat.zero_le _, Nat.zero_le _⟩ dX4_rowCount_11 (fun r_5 er_5 => ?_)
  subst er_5
  refine lv_if_eq (tgt := 20) hx hb dX4_rowCount_14 (by decide) (fun c_6 => ?_) (fun c_6 => ?_)
  rotate_left
  · first | exact absurd c_6 (by decide) | exact absurd (by decide) c_6
  refine lv_iinc (v := 2) (lv' := [(2, .int 2), (1, .int 0), (0, .ref (q 6))]) hx hb dX4_rowCount_20 hl (k := 0) rfl (by decide) (by decide) rfl (fun ls hl => ?_)
  refine lv_goto (tgt := 4) hx hb dX4_rowCount_23 (by decide) ?_
  refine lv_iload_n hx hb dX4_rowCount_4 rfl (lv_at hl 0 rfl) ?_
  refine lv_iconst (v := 4) hx hb dX4_rowCount_5 (by decide) ?_
  refine lv_icmp_ge (tgt := 26) hx hb dX4_rowCount_6 (by decide) (fun c_7 => ?_) (fun c_7 => ?_)
  · first | exact absurd c_7 (by decide) | exact absurd (by decide) c_7
  refine lv_aload_n hx hb dX4_rowCount_9 rfl (lv_at hl 2 rfl) ?_
  refine lv_iload_n hx hb dX4_rowCount_10 rfl (lv_at hl 0 rfl) ?_
  refine ro_V (As := [.int 2]) (rest := []) S (c_X4_hasRow l D k q wf 2 (by unfold vp_in; decide)) lkX4_29 ok_X4_hasRow ⟨rfl, rfl, Nat.le_of_ble_eq_true rfl, Nat.le_of_ble_eq_true rfl⟩ (fw_V (ci := 4) (q0 := 3) hF rfl rfl) rfl hl.1 rfl (Nat.le_of_ble_eq_true rfl) ⟨Nat.zero_le _, Nat.zero_le _⟩ dX4_rowCount_11 (fun r_8 er_8 => ?_)
  subst er_8
  refine lv_if_eq (tgt := 20) hx hb dX4_rowCount_14 (by decide) (fun c_9 => ?_) (fun c_9 => ?_)
  rotate_left
  · first | exact absurd c_9 (by decide) | exact absurd (by decide) c_9
  refine lv_iinc (v := 3) (lv' := [(2, .int 3), (1, .int 0), (0, .ref (q 6))]) hx hb dX4_rowCount_20 hl (k := 0) rfl (by decide) (by decide) rfl (fun ls hl => ?_)
  refine lv_goto (tgt := 4) hx hb dX4_rowCount_23 (by decide) ?_
  refine lv_iload_n hx hb dX4_rowCount_4 rfl (lv_at hl 0 rfl) ?_
  refine lv_iconst (v := 4) hx hb dX4_rowCount_5 (by decide) ?_
  refine lv_icmp_ge (tgt := 26) hx hb dX4_rowCount_6 (by decide) (fun c_10 => ?_) (fun c_10 => ?_)
  · first | exact absurd c_10 (by decide) | exact absurd (by decide) c_10
  refine lv_aload_n hx hb dX4_rowCount_9 rfl (lv_at hl 2 rfl) ?_
  refine lv_iload_n hx hb dX4_rowCount_10 rfl (lv_at hl 0 rfl) ?_
  refine ro_V (As := [.int 3]) (rest := []) S (c_X4_hasRow l D k q wf 3 (by unfold vp_in; decide)) lkX4_29 ok_X4_hasRow ⟨rfl, rfl, Nat.le_of_ble_eq_true rfl, Nat.le_of_ble_eq_true rfl⟩ (fw_V (ci := 4) (q0 := 3) hF rfl rfl) rfl hl.1 rfl (Nat.le_of_ble_eq_true rfl) ⟨Nat.zero_le _, Nat.zero_le _⟩ dX4_rowCount_11 (fun r_11 er_11 => ?_)
  subst er_11
  refine lv_if_eq (tgt := 20) hx hb dX4_rowCount_14 (by decide) (fun c_12 => ?_) (fun c_12 => ?_)
  rotate_left
  · first | exact absurd c_12 (by decide) | exact absurd (by decide) c_12
  refine lv_iinc (v := 4) (lv' := [(2, .int 4), (1, .int 0), (0, .ref (q 6))]) hx hb dX4_rowCount_20 hl (k := 0) rfl (by decide) (by decide) rfl (fun ls hl => ?_)
  refine lv_goto (tgt := 4) hx hb dX4_rowCount_23 (by decide) ?_
  refine lv_iload_n hx hb dX4_rowCount_4 rfl (lv_at hl 0 rfl) ?_
  refine lv_iconst (v := 4) hx hb dX4_rowCount_5 (by decide) ?_
  refine lv_icmp_ge (tgt := 26) hx hb dX4_rowCount_6 (by decide) (fun c_13 => ?_) (fun c_13 => ?_)
  rotate_left
  · first | exact absurd c_13 (by decide) | exact absurd (by decide) c_13
  refine lv_iload_n hx hb dX4_rowCount_26 rfl (lv_at hl 1 rfl) ?_
  exact W.iret (v := 0) hx hb hr (fun t ht hW => ⟨0, rfl, rfl, ht⟩) (fun _ h9 => by cases h9) dX4_rowCount_27
set_option maxHeartbeats 4000000 in
set_option maxRecDepth 100000 in
theorem c_X9_isByCart (l : Launch) (D : va_G) (k : Nat → ClassId) (q : Nat → Nat) (wf : Nat → Int32) (p0 : Int32) (p1 : Int32)  : Met l yX9_isByCart (.code yX9_isByCart cX9_isByCart 3 (some .boolean) :: TB) (rmk 2) (va_Pc [.ref (q 0), .int p0, .int p1] (fun U => FWH D k q wf U U.heap)) (vp_Si (fun r => r = 0)) 0 0 (fun _ => False) := by
  refine Met.ofW (cc := cX9_isByCart) (maxL := 3) (ret := (some .boolean)) (by decide) rfl ?_
  intro p e s m args below meth c s₁ B hml hv
  obtain ⟨rfl, hF⟩ := hv
  have hx := B.exec
  have hb := B.bytes
  have hr := B.returns
  have hT : ∀ w ∈ TB, w.before ([.ref (q 0), .int p0, .int p1] : List Value).toArray s = true := fun w h => atoms_spec (ws := .code yX9_isByCart cX9_isByCart 3 (some .boolean) :: TB) B.pre w (List.mem_cons_of_mem _ h)
  have hown : s.vm.findClass RX9 = some m.cls := findClass_of_methodNamed B.named
  have S : CallFix p m c cX9_isByCart 3 s _ TB RX9 := ⟨hx, hb, hml, hown, hT⟩
  have hP : va_P D vwCl [(q 0, .inr (9, [.ref (q 1), .ref (q 2), .ref (q 3), .ref (q 4), .ref (q 5), .ref (q 6), .ref (q 7), .ref (q 8), .ref (q 9), .ref (q 10), .ref (q 11)])), (q 3, .inr (8, [.ref (q 12), .ref (q 13), .int 0, .ref (q 14), .ref (q 15), .ref (q 16)])), (q 12, .inr (1, [.int 0, .int 0, .int 0, .int 0, .int 0, .int 0, .int 0, .ref (q 17), .ref (q 18), .ref (q 19), .ref (q 20), .ref (q 21), .ref (q 22), .ref (q 23)])), (q 6, .inr (4, [.ref (q 24), .ref (q 25), .ref (q 26)])), (q 24, .inl (k 0, 4, .inl wf)), (q 5, .inl (k 3, 3, .inl (fun _ => 0))), (q 1, .inr (6, [.ref (q 27), .int 0])), (q 2, .inr (2, [.ref (q 1), .ref (q 28), .int 0, .int (-1), .int 0, .int 0, .int 0, .int 0]))] s.heap := hF.1
  have hK := hF.2.1
  have hl := lv_entry ([.ref (q 0), .int p0, .int p1]) (n := 3) (Nat.le_of_ble_eq_true rfl)
  rw [lg_entry_eq]
  generalize (lg_sl ([.ref (q 0), .int p0, .int p1]) ++ List.replicate (3 - (lg_sl ([.ref (q 0), .int p0, .int p1])).length) Slot.unset).toArray = ls at hl ⊢
  have hl : lv_has ls 3 [(0, .ref (q 0)), (1, .int p0), (2, .int p1)] := hl
  refine lv_aload_n hx hb dX9_isByCart_0 rfl (lv_at hl 0 rfl) ?_
  refine va_get (D := D) (ci := 9) (v := .ref (q 3)) (C := RX9) (T := TX9) (N := 11) hx hb hT in_X9 hown hK hP 0 rfl rfl 2 (by decide) (hT _ t453) (fun _ h9 => h9) rfl dX9_isByCart_1 ?_
  refine va_get (D := D) (ci := 8) (v := .ref (q 12)) (C := RX8) (T := TX8) (N := 6) hx hb hT in_X8 hown hK hP 1 rfl rfl 0 (by decide) (hT _ t312) (fun _ h9 => h9) rfl dX9_isByCart_4 ?_
  refine lv_iload_n hx hb dX9_isByCart_7 rfl (lv_at hl 1 rfl) ?_
  refine ro_V (As := [.int p0]) (rest := []) S (c_X1_isCart l D k q wf p0) lkX9_147 ok_X1_isCart ⟨rfl, rfl, Nat.le_of_ble_eq_true rfl, Nat.le_of_ble_eq_true rfl⟩ (fw_V (ci := 1) (q0 := 2) hF rfl rfl) rfl hl.1 rfl (Nat.le_of_ble_eq_true rfl) ⟨Nat.zero_le _, Nat.zero_le _⟩ dX9_isByCart_8 (fun r_1 er_1 => ?_)
  subst er_1
  refine lv_if_eq (tgt := 44) hx hb dX9_isByCart_11 (by decide) (fun c_2 => ?_) (fun c_2 => ?_)
  rotate_left
  · first | exact absurd c_2 (by decide) | exact absurd (by decide) c_2
  refine lv_iconst (v := 0) hx hb dX9_isByCart_44 (by decide) ?_
  exact W.zret (v := 0) (ty := .boolean) hx hb hr rfl (fun t ht hW => ⟨0, rfl, rfl, ht⟩) (fun _ h9 => by cases h9) dX9_isByCart_45
set_option maxHeartbeats 4000000 in
set_option maxRecDepth 100000 in
theorem c_X9_canWant (l : Launch) (D : va_G) (k : Nat → ClassId) (q : Nat → Nat) (wf : Nat → Int32) (p0 : Int32) (p1 : Int32)  : Met l yX9_canWant (.code yX9_canWant cX9_canWant 3 (some .boolean) :: TB) (rmk 3) (va_Pc [.ref (q 0), .int p0, .int p1] (fun U => FWH D k q wf U U.heap)) (vp_Si (fun r => r = 0)) 0 0 (fun _ => False) := by
  refine Met.ofW (cc := cX9_canWant) (maxL := 3) (ret := (some .boolean)) (by decide) rfl ?_
  intro p e s m args below meth c s₁ B hml hv
  obtain ⟨rfl, hF⟩ := hv
  have hx := B.exec
  have hb := B.bytes
  have hr := B.returns
  have hT : ∀ w ∈ TB, w.before ([.ref (q 0), .int p0, .int p1] : List Value).toArray s = true := fun w h => atoms_spec (ws := .code yX9_canWant cX9_canWant 3 (some .boolean) :: TB) B.pre w (List.mem_cons_of_mem _ h)
  have hown : s.vm.findClass RX9 = some m.cls := findClass_of_methodNamed B.named
  have S : CallFix p m c cX9_canWant 3 s _ TB RX9 := ⟨hx, hb, hml, hown, hT⟩
  have hP : va_P D vwCl [(q 0, .inr (9, [.ref (q 1), .ref (q 2), .ref (q 3), .ref (q 4), .ref (q 5), .ref (q 6), .ref (q 7), .ref (q 8), .ref (q 9), .ref (q 10), .ref (q 11)])), (q 3, .inr (8, [.ref (q 12), .ref (q 13), .int 0, .ref (q 14), .ref (q 15), .ref (q 16)])), (q 12, .inr (1, [.int 0, .int 0, .int 0, .int 0, .int 0, .int 0, .int 0, .ref (q 17), .ref (q 18), .ref (q 19), .ref (q 20), .ref (q 21), .ref (q 22), .ref (q 23)])), (q 6, .inr (4, [.ref (q 24), .ref (q 25), .ref (q 26)])), (q 24, .inl (k 0, 4, .inl wf)), (q 5, .inl (k 3, 3, .inl (fun _ => 0))), (q 1, .inr (6, [.ref (q 27), .int 0])), (q 2, .inr (2, [.ref (q 1), .ref (q 28), .int 0, .int (-1), .int 0, .int 0, .int 0, .int 0]))] s.heap := hF.1
  have hK := hF.2.1
  have hl := lv_entry ([.ref (q 0), .int p0, .int p1]) (n := 3) (Nat.le_of_ble_eq_true rfl)
  rw [lg_entry_eq]
  generalize (lg_sl ([.ref (q 0), .int p0, .int p1]) ++ List.replicate (3 - (lg_sl ([.ref (q 0), .int p0, .int p1])).length) Slot.unset).toArray = ls at hl ⊢
  have hl : lv_has ls 3 [(0, .ref (q 0)), (1, .int p0), (2, .int p1)] := hl
  refine lv_aload_n hx hb dX9_canWant_0 rfl (lv_at hl 0 rfl) ?_
  refine va_get (D := D) (ci := 9) (v := .ref (q 3)) (C := RX9) (T := TX9) (N := 11) hx hb hT in_X9 hown hK hP 0 rfl rfl 2 (by decide) (hT _ t453) (fun _ h9 => h9) rfl dX9_canWant_1 ?_
  refine va_get (D := D) (ci := 8) (v := .ref (q 12)) (C := RX8) (T := TX8) (N := 6) hx hb hT in_X8 hown hK hP 1 rfl rfl 0 (by decide) (hT _ t312) (fun _ h9 => h9) rfl dX9_canWant_4 ?_
  refine lv_iload_n hx hb dX9_canWant_7 rfl (lv_at hl 1 rfl) ?_
  refine ro_V (As := [.int p0]) (rest := []) S (c_X1_isCart l D k q wf p0) lkX9_147 ok_X1_isCart ⟨rfl, rfl, Nat.le_of_ble_eq_true rfl, Nat.le_of_ble_eq_true rfl⟩ (fw_V (ci := 1) (q0 := 2) hF rfl rfl) rfl hl.1 rfl (Nat.le_of_ble_eq_true rfl) ⟨Nat.zero_le _, Nat.zero_le _⟩ dX9_canWant_8 (fun r_1 er_1 => ?_)
  subst er_1
  refine lv_if_eq (tgt := 32) hx hb dX9_canWant_11 (by decide) (fun c_2 => ?_) (fun c_2 => ?_)
  rotate_left
  · first | exact absurd c_2 (by decide) | exact absurd (by decide) c_2
  refine lv_iconst (v := 0) hx hb dX9_canWant_32 (by decide) ?_
  exact W.zret (v := 0) (ty := .boolean) hx hb hr rfl (fun t ht hW => ⟨0, rfl, rfl, ht⟩) (fun _ h9 => by cases h9) dX9_canWant_33
set_option maxHeartbeats 4000000 in
set_option maxRecDepth 100000 in
theorem c_X9_canDraw (l : Launch) (D : va_G) (k : Nat → ClassId) (q : Nat → Nat) (wf : Nat → Int32) (p0 : Int32) (p1 : Int32) (p2 : Int32)  : Met l yX9_canDraw (.code yX9_canDraw cX9_canDraw 4 (some .boolean) :: TB) (rmk 2) (va_Pc [.ref (q 0), .int p0, .int p1, .int p2] (fun U => FWH D k q wf U U.heap)) (vp_Si (fun r => r = 0)) 0 0 (fun _ => False) := by
  refine Met.ofW (cc := cX9_canDraw) (maxL := 4) (ret := (some .boolean)) (by decide) rfl ?_
  intro p e s m args below meth c s₁ B hml hv
  obtain ⟨rfl, hF⟩ := hv
  have hx := B.exec
  have hb := B.bytes
  have hr := B.returns
  have hT : ∀ w ∈ TB, w.before ([.ref (q 0), .int p0, .int p1, .int p2] : List Value).toArray s = true := fun w h => atoms_spec (ws := .code yX9_canDraw cX9_canDraw 4 (some .boolean) :: TB) B.pre w (List.mem_cons_of_mem _ h)
  have hown : s.vm.findClass RX9 = some m.cls := findClass_of_methodNamed B.named
  have S : CallFix p m c cX9_canDraw 4 s _ TB RX9 := ⟨hx, hb, hml, hown, hT⟩
  have hP : va_P D vwCl [(q 0, .inr (9, [.ref (q 1), .ref (q 2), .ref (q 3), .ref (q 4), .ref (q 5), .ref (q 6), .ref (q 7), .ref (q 8), .ref (q 9), .ref (q 10), .ref (q 11)])), (q 3, .inr (8, [.ref (q 12), .ref (q 13), .int 0, .ref (q 14), .ref (q 15), .ref (q 16)])), (q 12, .inr (1, [.int 0, .int 0, .int 0, .int 0, .int 0, .int 0, .int 0, .ref (q 17), .ref (q 18), .ref (q 19), .ref (q 20), .ref (q 21), .ref (q 22), .ref (q 23)])), (q 6, .inr (4, [.ref (q 24), .ref (q 25), .ref (q 26)])), (q 24, .inl (k 0, 4, .inl wf)), (q 5, .inl (k 3, 3, .inl (fun _ => 0))), (q 1, .inr (6, [.ref (q 27), .int 0])), (q 2, .inr (2, [.ref (q 1), .ref (q 28), .int 0, .int (-1), .int 0, .int 0, .int 0, .int 0]))] s.heap := hF.1
  have hK := hF.2.1
  have hl := lv_entry ([.ref (q 0), .int p0, .int p1, .int p2]) (n := 4) (Nat.le_of_ble_eq_true rfl)
  rw [lg_entry_eq]
  generalize (lg_sl ([.ref (q 0), .int p0, .int p1, .int p2]) ++ List.replicate (4 - (lg_sl ([.ref (q 0), .int p0, .int p1, .int p2])).length) Slot.unset).toArray = ls at hl ⊢
  have hl : lv_has ls 4 [(0, .ref (q 0)), (1, .int p0), (2, .int p1), (3, .int p2)] := hl
  refine lv_iload_n hx hb dX9_canDraw_0 rfl (lv_at hl 1 rfl) ?_
  refine lv_if_lt (tgt := 39) hx hb dX9_canDraw_1 (by decide) (fun c_1 => ?_) (fun c_1 => ?_)
  · skip
    refine lv_iconst (v := 0) hx hb dX9_canDraw_39 (by decide) ?_
    exact W.zret (v := 0) (ty := .boolean) hx hb hr rfl (fun t ht hW => ⟨0, rfl, rfl, ht⟩) (fun _ h9 => by cases h9) dX9_canDraw_40
  · skip
    refine lv_iload_n hx hb dX9_canDraw_4 rfl (lv_at hl 1 rfl) ?_
    refine lv_ldcw (v := 2000000000) hx hb hown (hT _ t1176) dX9_canDraw_5 ?_
    refine lv_icmp_gt (tgt := 39) hx hb dX9_canDraw_8 (by decide) (fun c_2 => ?_) (fun c_2 => ?_)
    · skip
      refine lv_iconst (v := 0) hx hb dX9_canDraw_39 (by decide) ?_
      exact W.zret (v := 0) (ty := .boolean) hx hb hr rfl (fun t ht hW => ⟨0, rfl, rfl, ht⟩) (fun _ h9 => by cases h9) dX9_canDraw_40
    · skip
      refine lv_aload_n hx hb dX9_canDraw_11 rfl (lv_at hl 0 rfl) ?_
      refine va_get (D := D) (ci := 9) (v := .ref (q 3)) (C := RX9) (T := TX9) (N := 11) hx hb hT in_X9 hown hK hP 0 rfl rfl 2 (by decide) (hT _ t453) (fun _ h9 => h9) rfl dX9_canDraw_12 ?_
      refine va_get (D := D) (ci := 8) (v := .ref (q 12)) (C := RX8) (T := TX8) (N := 6) hx hb hT in_X8 hown hK hP 1 rfl rfl 0 (by decide) (hT _ t312) (fun _ h9 => h9) rfl dX9_canDraw_15 ?_
      refine lv_iload_n hx hb dX9_canDraw_18 rfl (lv_at hl 2 rfl) ?_
      refine ro_V (As := [.int p1]) (rest := []) S (c_X1_isCart l D k q wf p1) lkX9_147 ok_X1_isCart ⟨rfl, rfl, Nat.le_of_ble_eq_true rfl, Nat.le_of_ble_eq_true rfl⟩ (fw_V (ci := 1) (q0 := 2) hF rfl rfl) rfl hl.1 rfl (Nat.le_of_ble_eq_true rfl) ⟨Nat.zero_le _, Nat.zero_le _⟩ dX9_canDraw_19 (fun r_3 er_3 => ?_)
      subst er_3
      refine lv_if_eq (tgt := 39) hx hb dX9_canDraw_22 (by decide) (fun c_4 => ?_) (fun c_4 => ?_)
      rotate_left
      · first | exact absurd c_4 (by decide) | exact absurd (by decide) c_4
      refine lv_iconst (v := 0) hx hb dX9_canDraw_39 (by decide) ?_
      exact W.zret (v := 0) (ty := .boolean) hx hb hr rfl (fun t ht hW => ⟨0, rfl, rfl, ht⟩) (fun _ h9 => by cases h9) dX9_canDraw_40
set_option maxHeartbeats 4000000 in
set_option maxRecDepth 100000 in
theorem c_X9_follow (l : Launch) (D : va_G) (k : Nat → ClassId) (q : Nat → Nat) (wf : Nat → Int32) (p0 : Int32) (p1 : Int32)  : Met l yX9_follow (.code yX9_follow cX9_follow 7 (some .int) :: TB) (rmk 2) (va_Pc [.ref (q 0), .int p0, .int p1] (fun U => FWH D k q wf U U.heap)) (vp_Si (fun r => r = (-2))) 0 0 (fun _ => False) := by
  refine Met.ofW (cc := cX9_follow) (maxL := 7) (ret := (some .int)) (by decide) rfl ?_
  intro p e s m args below meth c s₁ B hml hv
  obtain ⟨rfl, hF⟩ := hv
  have hx := B.exec
  have hb := B.bytes
  have hr := B.returns
  have hT : ∀ w ∈ TB, w.before ([.ref (q 0), .int p0, .int p1] : List Value).toArray s = true := fun w h => atoms_spec (ws := .code yX9_follow cX9_follow 7 (some .int) :: TB) B.pre w (List.mem_cons_of_mem _ h)
  have hown : s.vm.findClass RX9 = some m.cls := findClass_of_methodNamed B.named
  have S : CallFix p m c cX9_follow 7 s _ TB RX9 := ⟨hx, hb, hml, hown, hT⟩
  have hP : va_P D vwCl [(q 0, .inr (9, [.ref (q 1), .ref (q 2), .ref (q 3), .ref (q 4), .ref (q 5), .ref (q 6), .ref (q 7), .ref (q 8), .ref (q 9), .ref (q 10), .ref (q 11)])), (q 3, .inr (8, [.ref (q 12), .ref (q 13), .int 0, .ref (q 14), .ref (q 15), .ref (q 16)])), (q 12, .inr (1, [.int 0, .int 0, .int 0, .int 0, .int 0, .int 0, .int 0, .ref (q 17), .ref (q 18), .ref (q 19), .ref (q 20), .ref (q 21), .ref (q 22), .ref (q 23)])), (q 6, .inr (4, [.ref (q 24), .ref (q 25), .ref (q 26)])), (q 24, .inl (k 0, 4, .inl wf)), (q 5, .inl (k 3, 3, .inl (fun _ => 0))), (q 1, .inr (6, [.ref (q 27), .int 0])), (q 2, .inr (2, [.ref (q 1), .ref (q 28), .int 0, .int (-1), .int 0, .int 0, .int 0, .int 0]))] s.heap := hF.1
  have hK := hF.2.1
  have hl := lv_entry ([.ref (q 0), .int p0, .int p1]) (n := 7) (Nat.le_of_ble_eq_true rfl)
  rw [lg_entry_eq]
  generalize (lg_sl ([.ref (q 0), .int p0, .int p1]) ++ List.replicate (7 - (lg_sl ([.ref (q 0), .int p0, .int p1])).length) Slot.unset).toArray = ls at hl ⊢
  have hl : lv_has ls 7 [(0, .ref (q 0)), (1, .int p0), (2, .int p1)] := hl
  refine lv_aload_n hx hb dX9_follow_0 rfl (lv_at hl 0 rfl) ?_
  refine va_get (D := D) (ci := 9) (v := .ref (q 6)) (C := RX9) (T := TX9) (N := 11) hx hb hT in_X9 hown hK hP 0 rfl rfl 5 (by decide) (hT _ t456) (fun _ h9 => h9) rfl dX9_follow_1 ?_
  refine lv_iload_n hx hb dX9_follow_4 rfl (lv_at hl 1 rfl) ?_
  refine ro_V (As := [.int p0]) (rest := []) S (c_X4_isSlot l D k q wf p0) lkX9_238 ok_X4_isSlot ⟨rfl, rfl, Nat.le_of_ble_eq_true rfl, Nat.le_of_ble_eq_true rfl⟩ (fw_V (ci := 4) (q0 := 3) hF rfl rfl) rfl hl.1 rfl (Nat.le_of_ble_eq_true rfl) ⟨Nat.zero_le _, Nat.zero_le _⟩ dX9_follow_5 (fun r_1 er_1 => ?_)
  rcases er_1 with ⟨er_1, gr_1⟩ | ⟨er_1, gr_1⟩
  · subst er_1
    refine lv_if_eq (tgt := 25) hx hb dX9_follow_8 (by decide) (fun c_2 => ?_) (fun c_2 => ?_)
    · first | exact absurd c_2 (by decide) | exact absurd (by decide) c_2
    refine lv_aload_n hx hb dX9_follow_11 rfl (lv_at hl 0 rfl) ?_
    refine va_get (D := D) (ci := 9) (v := .ref (q 3)) (C := RX9) (T := TX9) (N := 11) hx hb hT in_X9 hown hK hP 0 rfl rfl 2 (by decide) (hT _ t453) (fun _ h9 => h9) rfl dX9_follow_12 ?_
    refine va_get (D := D) (ci := 8) (v := .ref (q 12)) (C := RX8) (T := TX8) (N := 6) hx hb hT in_X8 hown hK hP 1 rfl rfl 0 (by decide) (hT _ t312) (fun _ h9 => h9) rfl dX9_follow_15 ?_
    refine lv_iload_n hx hb dX9_follow_18 rfl (lv_at hl 2 rfl) ?_
    refine ro_V (As := [.int p1]) (rest := []) S (c_X1_isCart l D k q wf p1) lkX9_147 ok_X1_isCart ⟨rfl, rfl, Nat.le_of_ble_eq_true rfl, Nat.le_of_ble_eq_true rfl⟩ (fw_V (ci := 1) (q0 := 2) hF rfl rfl) rfl hl.1 rfl (Nat.le_of_ble_eq_true rfl) ⟨Nat.zero_le _, Nat.zero_le _⟩ dX9_follow_19 (fun r_3 er_3 => ?_)
    subst er_3
    refine lv_if_ne (tgt := 28) hx hb dX9_follow_22 (by decide) (fun c_4 => ?_) (fun c_4 => ?_)
    · first | exact absurd c_4 (by decide) | exact absurd (by decide) c_4
    refine lv_bipush (v := (-2)) hx hb dX9_follow_25 (by decide) ?_
    exact W.iret (v := (-2)) hx hb hr (fun t ht hW => ⟨(-2), rfl, rfl, ht⟩) (fun _ h9 => by cases h9) dX9_follow_27
  · subst er_1
    refine lv_if_eq (tgt := 25) hx hb dX9_follow_8 (by decide) (fun c_5 => ?_) (fun c_5 => ?_)
    rotate_left
    · first | exact absurd c_5 (by decide) | exact absurd (by decide) c_5
    refine lv_bipush (v := (-2)) hx hb dX9_follow_25 (by decide) ?_
    exact W.iret (v := (-2)) hx hb hr (fun t ht hW => ⟨(-2), rfl, rfl, ht⟩) (fun _ h9 => by cases h9) dX9_follow_27
set_option maxHeartbeats 4000000 in
set_option maxRecDepth 100000 in
theorem c_X9_fitting (l : Launch) (D : va_G) (k : Nat → ClassId) (q : Nat → Nat) (wf : Nat → Int32) (p0 : Int32)  : Met l yX9_fitting (.code yX9_fitting cX9_fitting 9 (some .int) :: TB) (rmk 2) (va_Pc [.ref (q 0), .int p0] (fun U => FWH D k q wf U U.heap)) (vp_Si (fun r => r = (-2))) 0 0 (fun _ => False) := by
  refine Met.ofW (cc := cX9_fitting) (maxL := 9) (ret := (some .int)) (by decide) rfl ?_
  intro p e s m args below meth c s₁ B hml hv
  obtain ⟨rfl, hF⟩ := hv
  have hx := B.exec
  have hb := B.bytes
  have hr := B.returns
  have hT : ∀ w ∈ TB, w.before ([.ref (q 0), .int p0] : List Value).toArray s = true := fun w h => atoms_spec (ws := .code yX9_fitting cX9_fitting 9 (some .int) :: TB) B.pre w (List.mem_cons_of_mem _ h)
  have hown : s.vm.findClass RX9 = some m.cls := findClass_of_methodNamed B.named
  have S : CallFix p m c cX9_fitting 9 s _ TB RX9 := ⟨hx, hb, hml, hown, hT⟩
  have hP : va_P D vwCl [(q 0, .inr (9, [.ref (q 1), .ref (q 2), .ref (q 3), .ref (q 4), .ref (q 5), .ref (q 6), .ref (q 7), .ref (q 8), .ref (q 9), .ref (q 10), .ref (q 11)])), (q 3, .inr (8, [.ref (q 12), .ref (q 13), .int 0, .ref (q 14), .ref (q 15), .ref (q 16)])), (q 12, .inr (1, [.int 0, .int 0, .int 0, .int 0, .int 0, .int 0, .int 0, .ref (q 17), .ref (q 18), .ref (q 19), .ref (q 20), .ref (q 21), .ref (q 22), .ref (q 23)])), (q 6, .inr (4, [.ref (q 24), .ref (q 25), .ref (q 26)])), (q 24, .inl (k 0, 4, .inl wf)), (q 5, .inl (k 3, 3, .inl (fun _ => 0))), (q 1, .inr (6, [.ref (q 27), .int 0])), (q 2, .inr (2, [.ref (q 1), .ref (q 28), .int 0, .int (-1), .int 0, .int 0, .int 0, .int 0]))] s.heap := hF.1
  have hK := hF.2.1
  have hl := lv_entry ([.ref (q 0), .int p0]) (n := 9) (Nat.le_of_ble_eq_true rfl)
  rw [lg_entry_eq]
  generalize (lg_sl ([.ref (q 0), .int p0]) ++ List.replicate (9 - (lg_sl ([.ref (q 0), .int p0])).length) Slot.unset).toArray = ls at hl ⊢
  have hl : lv_has ls 9 [(0, .ref (q 0)), (1, .int p0)] := hl
  refine lv_aload_n hx hb dX9_fitting_0 rfl (lv_at hl 0 rfl) ?_
  refine va_get (D := D) (ci := 9) (v := .ref (q 6)) (C := RX9) (T := TX9) (N := 11) hx hb hT in_X9 hown hK hP 0 rfl rfl 5 (by decide) (hT _ t456) (fun _ h9 => h9) rfl dX9_fitting_1 ?_
  refine lv_iload_n hx hb dX9_fitting_4 rfl (lv_at hl 1 rfl) ?_
  refine ro_V (As := [.int p0]) (rest := []) S (c_X4_isSlot l D k q wf p0) lkX9_238 ok_X4_isSlot ⟨rfl, rfl, Nat.le_of_ble_eq_true rfl, Nat.le_of_ble_eq_true rfl⟩ (fw_V (ci := 4) (q0 := 3) hF rfl rfl) rfl hl.1 rfl (Nat.le_of_ble_eq_true rfl) ⟨Nat.zero_le _, Nat.zero_le _⟩ dX9_fitting_5 (fun r_1 er_1 => ?_)
  rcases er_1 with ⟨er_1, gr_1⟩ | ⟨er_1, gr_1⟩
  · subst er_1
    refine lv_if_eq (tgt := 24) hx hb dX9_fitting_8 (by decide) (fun c_2 => ?_) (fun c_2 => ?_)
    · first | exact absurd c_2 (by decide) | exact absurd (by decide) c_2
    refine lv_aload_n hx hb dX9_fitting_11 rfl (lv_at hl 0 rfl) ?_
    refine va_get (D := D) (ci := 9) (v := .ref (q 3)) (C := RX9) (T := TX9) (N := 11) hx hb hT in_X9 hown hK hP 0 rfl rfl 2 (by decide) (hT _ t453) (fun _ h9 => h9) rfl dX9_fitting_12 ?_
    refine va_get (D := D) (ci := 8) (v := .ref (q 12)) (C := RX8) (T := TX8) (N := 6) hx hb hT in_X8 hown hK hP 1 rfl rfl 0 (by decide) (hT _ t312) (fun _ h9 => h9) rfl dX9_fitting_15 ?_
    refine ro_V (As := []) (rest := []) S (c_X1_isTold l D k q wf ) lkX9_211 ok_X1_isTold ⟨rfl, rfl, Nat.le_of_ble_eq_true rfl, Nat.le_of_ble_eq_true rfl⟩ (fw_V (ci := 1) (q0 := 2) hF rfl rfl) rfl hl.1 rfl (Nat.le_of_ble_eq_true rfl) ⟨Nat.zero_le _, Nat.zero_le _⟩ dX9_fitting_18 (fun r_3 er_3 => ?_)
    subst er_3
    refine lv_if_ne (tgt := 27) hx hb dX9_fitting_21 (by decide) (fun c_4 => ?_) (fun c_4 => ?_)
    · first | exact absurd c_4 (by decide) | exact absurd (by decide) c_4
    refine lv_bipush (v := (-2)) hx hb dX9_fitting_24 (by decide) ?_
    exact W.iret (v := (-2)) hx hb hr (fun t ht hW => ⟨(-2), rfl, rfl, ht⟩) (fun _ h9 => by cases h9) dX9_fitting_26
  · subst er_1
    refine lv_if_eq (tgt := 24) hx hb dX9_fitting_8 (by decide) (fun c_5 => ?_) (fun c_5 => ?_)
    rotate_left
    · first | exact absurd c_5 (by decide) | exact absurd (by decide) c_5
    refine lv_bipush (v := (-2)) hx hb dX9_fitting_24 (by decide) ?_
    exact W.iret (v := (-2)) hx hb hr (fun t ht hW => ⟨(-2), rfl, rfl, ht⟩) (fun _ h9 => by cases h9) dX9_fitting_26
set_option maxHeartbeats 4000000 in
set_option maxRecDepth 100000 in
theorem c_X9_road (l : Launch) (D : va_G) (k : Nat → ClassId) (q : Nat → Nat) (wf : Nat → Int32) (p0 : Int32) (p1 : Int32)  : Met l yX9_road (.code yX9_road cX9_road 3 (some .int) :: TB) (rmk 2) (va_Pc [.ref (q 0), .int p0, .int p1] (fun U => FWH D k q wf U U.heap)) (vp_Si (fun r => r = (-2))) 0 0 (fun _ => False) := by
  refine Met.ofW (cc := cX9_road) (maxL := 3) (ret := (some .int)) (by decide) rfl ?_
  intro p e s m args below meth c s₁ B hml hv
  obtain ⟨rfl, hF⟩ := hv
  have hx := B.exec
  have hb := B.bytes
  have hr := B.returns
  have hT : ∀ w ∈ TB, w.before ([.ref (q 0), .int p0, .int p1] : List Value).toArray s = true := fun w h => atoms_spec (ws := .code yX9_road cX9_road 3 (some .int) :: TB) B.pre w (List.mem_cons_of_mem _ h)
  have hown : s.vm.findClass RX9 = some m.cls := findClass_of_methodNamed B.named
  have S : CallFix p m c cX9_road 3 s _ TB RX9 := ⟨hx, hb, hml, hown, hT⟩
  have hP : va_P D vwCl [(q 0, .inr (9, [.ref (q 1), .ref (q 2), .ref (q 3), .ref (q 4), .ref (q 5), .ref (q 6), .ref (q 7), .ref (q 8), .ref (q 9), .ref (q 10), .ref (q 11)])), (q 3, .inr (8, [.ref (q 12), .ref (q 13), .int 0, .ref (q 14), .ref (q 15), .ref (q 16)])), (q 12, .inr (1, [.int 0, .int 0, .int 0, .int 0, .int 0, .int 0, .int 0, .ref (q 17), .ref (q 18), .ref (q 19), .ref (q 20), .ref (q 21), .ref (q 22), .ref (q 23)])), (q 6, .inr (4, [.ref (q 24), .ref (q 25), .ref (q 26)])), (q 24, .inl (k 0, 4, .inl wf)), (q 5, .inl (k 3, 3, .inl (fun _ => 0))), (q 1, .inr (6, [.ref (q 27), .int 0])), (q 2, .inr (2, [.ref (q 1), .ref (q 28), .int 0, .int (-1), .int 0, .int 0, .int 0, .int 0]))] s.heap := hF.1
  have hK := hF.2.1
  have hl := lv_entry ([.ref (q 0), .int p0, .int p1]) (n := 3) (Nat.le_of_ble_eq_true rfl)
  rw [lg_entry_eq]
  generalize (lg_sl ([.ref (q 0), .int p0, .int p1]) ++ List.replicate (3 - (lg_sl ([.ref (q 0), .int p0, .int p1])).length) Slot.unset).toArray = ls at hl ⊢
  have hl : lv_has ls 3 [(0, .ref (q 0)), (1, .int p0), (2, .int p1)] := hl
  refine lv_aload_n hx hb dX9_road_0 rfl (lv_at hl 0 rfl) ?_
  refine va_get (D := D) (ci := 9) (v := .ref (q 3)) (C := RX9) (T := TX9) (N := 11) hx hb hT in_X9 hown hK hP 0 rfl rfl 2 (by decide) (hT _ t453) (fun _ h9 => h9) rfl dX9_road_1 ?_
  refine va_get (D := D) (ci := 8) (v := .ref (q 12)) (C := RX8) (T := TX8) (N := 6) hx hb hT in_X8 hown hK hP 1 rfl rfl 0 (by decide) (hT _ t312) (fun _ h9 => h9) rfl dX9_road_4 ?_
  refine lv_iload_n hx hb dX9_road_7 rfl (lv_at hl 1 rfl) ?_
  refine ro_V (As := [.int p0]) (rest := []) S (c_X1_isRoad l D k q wf p0) lkX9_114 ok_X1_isRoad ⟨rfl, rfl, Nat.le_of_ble_eq_true rfl, Nat.le_of_ble_eq_true rfl⟩ (fw_V (ci := 1) (q0 := 2) hF rfl rfl) rfl hl.1 rfl (Nat.le_of_ble_eq_true rfl) ⟨Nat.zero_le _, Nat.zero_le _⟩ dX9_road_8 (fun r_1 er_1 => ?_)
  subst er_1
  refine lv_if_ne (tgt := 17) hx hb dX9_road_11 (by decide) (fun c_2 => ?_) (fun c_2 => ?_)
  · first | exact absurd c_2 (by decide) | exact absurd (by decide) c_2
  refine lv_bipush (v := (-2)) hx hb dX9_road_14 (by decide) ?_
  exact W.iret (v := (-2)) hx hb hr (fun t ht hW => ⟨(-2), rfl, rfl, ht⟩) (fun _ h9 => by cases h9) dX9_road_16
set_option maxHeartbeats 4000000 in
set_option maxRecDepth 100000 in
theorem c_X9_likes (l : Launch) (D : va_G) (k : Nat → ClassId) (q : Nat → Nat) (wf : Nat → Int32) (p0 : Int32) (p1 : Int32)  : Met l yX9_likes (.code yX9_likes cX9_likes 3 (some .int) :: TB) (rmk 2) (va_Pc [.ref (q 0), .int p0, .int p1] (fun U => FWH D k q wf U U.heap)) (vp_Si (fun r => r = (-2))) 0 0 (fun _ => False) := by
  refine Met.ofW (cc := cX9_likes) (maxL := 3) (ret := (some .int)) (by decide) rfl ?_
  intro p e s m args below meth c s₁ B hml hv
  obtain ⟨rfl, hF⟩ := hv
  have hx := B.exec
  have hb := B.bytes
  have hr := B.returns
  have hT : ∀ w ∈ TB, w.before ([.ref (q 0), .int p0, .int p1] : List Value).toArray s = true := fun w h => atoms_spec (ws := .code yX9_likes cX9_likes 3 (some .int) :: TB) B.pre w (List.mem_cons_of_mem _ h)
  have hown : s.vm.findClass RX9 = some m.cls := findClass_of_methodNamed B.named
  have S : CallFix p m c cX9_likes 3 s _ TB RX9 := ⟨hx, hb, hml, hown, hT⟩
  have hP : va_P D vwCl [(q 0, .inr (9, [.ref (q 1), .ref (q 2), .ref (q 3), .ref (q 4), .ref (q 5), .ref (q 6), .ref (q 7), .ref (q 8), .ref (q 9), .ref (q 10), .ref (q 11)])), (q 3, .inr (8, [.ref (q 12), .ref (q 13), .int 0, .ref (q 14), .ref (q 15), .ref (q 16)])), (q 12, .inr (1, [.int 0, .int 0, .int 0, .int 0, .int 0, .int 0, .int 0, .ref (q 17), .ref (q 18), .ref (q 19), .ref (q 20), .ref (q 21), .ref (q 22), .ref (q 23)])), (q 6, .inr (4, [.ref (q 24), .ref (q 25), .ref (q 26)])), (q 24, .inl (k 0, 4, .inl wf)), (q 5, .inl (k 3, 3, .inl (fun _ => 0))), (q 1, .inr (6, [.ref (q 27), .int 0])), (q 2, .inr (2, [.ref (q 1), .ref (q 28), .int 0, .int (-1), .int 0, .int 0, .int 0, .int 0]))] s.heap := hF.1
  have hK := hF.2.1
  have hl := lv_entry ([.ref (q 0), .int p0, .int p1]) (n := 3) (Nat.le_of_ble_eq_true rfl)
  rw [lg_entry_eq]
  generalize (lg_sl ([.ref (q 0), .int p0, .int p1]) ++ List.replicate (3 - (lg_sl ([.ref (q 0), .int p0, .int p1])).length) Slot.unset).toArray = ls at hl ⊢
  have hl : lv_has ls 3 [(0, .ref (q 0)), (1, .int p0), (2, .int p1)] := hl
  refine lv_aload_n hx hb dX9_likes_0 rfl (lv_at hl 0 rfl) ?_
  refine va_get (D := D) (ci := 9) (v := .ref (q 3)) (C := RX9) (T := TX9) (N := 11) hx hb hT in_X9 hown hK hP 0 rfl rfl 2 (by decide) (hT _ t453) (fun _ h9 => h9) rfl dX9_likes_1 ?_
  refine va_get (D := D) (ci := 8) (v := .ref (q 12)) (C := RX8) (T := TX8) (N := 6) hx hb hT in_X8 hown hK hP 1 rfl rfl 0 (by decide) (hT _ t312) (fun _ h9 => h9) rfl dX9_likes_4 ?_
  refine lv_iload_n hx hb dX9_likes_7 rfl (lv_at hl 1 rfl) ?_
  refine ro_V (As := [.int p0]) (rest := []) S (c_X1_isWheel l D k q wf p0) lkX9_127 ok_X1_isWheel ⟨rfl, rfl, Nat.le_of_ble_eq_true rfl, Nat.le_of_ble_eq_true rfl⟩ (fw_V (ci := 1) (q0 := 2) hF rfl rfl) rfl hl.1 rfl (Nat.le_of_ble_eq_true rfl) ⟨Nat.zero_le _, Nat.zero_le _⟩ dX9_likes_8 (fun r_1 er_1 => ?_)
  subst er_1
  refine lv_if_eq (tgt := 28) hx hb dX9_likes_11 (by decide) (fun c_2 => ?_) (fun c_2 => ?_)
  rotate_left
  · first | exact absurd c_2 (by decide) | exact absurd (by decide) c_2
  refine lv_bipush (v := (-2)) hx hb dX9_likes_28 (by decide) ?_
  exact W.iret (v := (-2)) hx hb hr (fun t ht hW => ⟨(-2), rfl, rfl, ht⟩) (fun _ h9 => by cases h9) dX9_likes_30
set_option maxHeartbeats 4000000 in
set_option maxRecDepth 100000 in
theorem c_X9_wheel (l : Launch) (D : va_G) (k : Nat → ClassId) (q : Nat → Nat) (wf : Nat → Int32) (p0 : Int32) (p1 : Int32)  : Met l yX9_wheel (.code yX9_wheel cX9_wheel 3 (some .int) :: TB) (rmk 2) (va_Pc [.ref (q 0), .int p0, .int p1] (fun U => FWH D k q wf U U.heap)) (vp_Si (fun r => r = (-2))) 0 0 (fun _ => False) := by
  refine Met.ofW (cc := cX9_wheel) (maxL := 3) (ret := (some .int)) (by decide) rfl ?_
  intro p e s m args below meth c s₁ B hml hv
  obtain ⟨rfl, hF⟩ := hv
  have hx := B.exec
  have hb := B.bytes
  have hr := B.returns
  have hT : ∀ w ∈ TB, w.before ([.ref (q 0), .int p0, .int p1] : List Value).toArray s = true := fun w h => atoms_spec (ws := .code yX9_wheel cX9_wheel 3 (some .int) :: TB) B.pre w (List.mem_cons_of_mem _ h)
  have hown : s.vm.findClass RX9 = some m.cls := findClass_of_methodNamed B.named
  have S : CallFix p m c cX9_wheel 3 s _ TB RX9 := ⟨hx, hb, hml, hown, hT⟩
  have hP : va_P D vwCl [(q 0, .inr (9, [.ref (q 1), .ref (q 2), .ref (q 3), .ref (q 4), .ref (q 5), .ref (q 6), .ref (q 7), .ref (q 8), .ref (q 9), .ref (q 10), .ref (q 11)])), (q 3, .inr (8, [.ref (q 12), .ref (q 13), .int 0, .ref (q 14), .ref (q 15), .ref (q 16)])), (q 12, .inr (1, [.int 0, .int 0, .int 0, .int 0, .int 0, .int 0, .int 0, .ref (q 17), .ref (q 18), .ref (q 19), .ref (q 20), .ref (q 21), .ref (q 22), .ref (q 23)])), (q 6, .inr (4, [.ref (q 24), .ref (q 25), .ref (q 26)])), (q 24, .inl (k 0, 4, .inl wf)), (q 5, .inl (k 3, 3, .inl (fun _ => 0))), (q 1, .inr (6, [.ref (q 27), .int 0])), (q 2, .inr (2, [.ref (q 1), .ref (q 28), .int 0, .int (-1), .int 0, .int 0, .int 0, .int 0]))] s.heap := hF.1
  have hK := hF.2.1
  have hl := lv_entry ([.ref (q 0), .int p0, .int p1]) (n := 3) (Nat.le_of_ble_eq_true rfl)
  rw [lg_entry_eq]
  generalize (lg_sl ([.ref (q 0), .int p0, .int p1]) ++ List.replicate (3 - (lg_sl ([.ref (q 0), .int p0, .int p1])).length) Slot.unset).toArray = ls at hl ⊢
  have hl : lv_has ls 3 [(0, .ref (q 0)), (1, .int p0), (2, .int p1)] := hl
  refine lv_aload_n hx hb dX9_wheel_0 rfl (lv_at hl 0 rfl) ?_
  refine va_get (D := D) (ci := 9) (v := .ref (q 3)) (C := RX9) (T := TX9) (N := 11) hx hb hT in_X9 hown hK hP 0 rfl rfl 2 (by decide) (hT _ t453) (fun _ h9 => h9) rfl dX9_wheel_1 ?_
  refine va_get (D := D) (ci := 8) (v := .ref (q 12)) (C := RX8) (T := TX8) (N := 6) hx hb hT in_X8 hown hK hP 1 rfl rfl 0 (by decide) (hT _ t312) (fun _ h9 => h9) rfl dX9_wheel_4 ?_
  refine lv_iload_n hx hb dX9_wheel_7 rfl (lv_at hl 1 rfl) ?_
  refine ro_V (As := [.int p0]) (rest := []) S (c_X1_isWheel l D k q wf p0) lkX9_127 ok_X1_isWheel ⟨rfl, rfl, Nat.le_of_ble_eq_true rfl, Nat.le_of_ble_eq_true rfl⟩ (fw_V (ci := 1) (q0 := 2) hF rfl rfl) rfl hl.1 rfl (Nat.le_of_ble_eq_true rfl) ⟨Nat.zero_le _, Nat.zero_le _⟩ dX9_wheel_8 (fun r_1 er_1 => ?_)
  subst er_1
  refine lv_if_ne (tgt := 17) hx hb dX9_wheel_11 (by decide) (fun c_2 => ?_) (fun c_2 => ?_)
  · first | exact absurd c_2 (by decide) | exact absurd (by decide) c_2
  refine lv_bipush (v := (-2)) hx hb dX9_wheel_14 (by decide) ?_
  exact W.iret (v := (-2)) hx hb hr (fun t ht hW => ⟨(-2), rfl, rfl, ht⟩) (fun _ h9 => by cases h9) dX9_wheel_16
set_option maxHeartbeats 4000000 in
set_option maxRecDepth 100000 in
theorem c_X9_cart (l : Launch) (D : va_G) (k : Nat → ClassId) (q : Nat → Nat) (wf : Nat → Int32) (p0 : Int32) (p1 : Int32)  : Met l yX9_cart (.code yX9_cart cX9_cart 3 (some .int) :: TB) (rmk 2) (va_Pc [.ref (q 0), .int p0, .int p1] (fun U => FWH D k q wf U U.heap)) (vp_Si (fun r => r = (-2))) 0 0 (fun _ => False) := by
  refine Met.ofW (cc := cX9_cart) (maxL := 3) (ret := (some .int)) (by decide) rfl ?_
  intro p e s m args below meth c s₁ B hml hv
  obtain ⟨rfl, hF⟩ := hv
  have hx := B.exec
  have hb := B.bytes
  have hr := B.returns
  have hT : ∀ w ∈ TB, w.before ([.ref (q 0), .int p0, .int p1] : List Value).toArray s = true := fun w h => atoms_spec (ws := .code yX9_cart cX9_cart 3 (some .int) :: TB) B.pre w (List.mem_cons_of_mem _ h)
  have hown : s.vm.findClass RX9 = some m.cls := findClass_of_methodNamed B.named
  have S : CallFix p m c cX9_cart 3 s _ TB RX9 := ⟨hx, hb, hml, hown, hT⟩
  have hP : va_P D vwCl [(q 0, .inr (9, [.ref (q 1), .ref (q 2), .ref (q 3), .ref (q 4), .ref (q 5), .ref (q 6), .ref (q 7), .ref (q 8), .ref (q 9), .ref (q 10), .ref (q 11)])), (q 3, .inr (8, [.ref (q 12), .ref (q 13), .int 0, .ref (q 14), .ref (q 15), .ref (q 16)])), (q 12, .inr (1, [.int 0, .int 0, .int 0, .int 0, .int 0, .int 0, .int 0, .ref (q 17), .ref (q 18), .ref (q 19), .ref (q 20), .ref (q 21), .ref (q 22), .ref (q 23)])), (q 6, .inr (4, [.ref (q 24), .ref (q 25), .ref (q 26)])), (q 24, .inl (k 0, 4, .inl wf)), (q 5, .inl (k 3, 3, .inl (fun _ => 0))), (q 1, .inr (6, [.ref (q 27), .int 0])), (q 2, .inr (2, [.ref (q 1), .ref (q 28), .int 0, .int (-1), .int 0, .int 0, .int 0, .int 0]))] s.heap := hF.1
  have hK := hF.2.1
  have hl := lv_entry ([.ref (q 0), .int p0, .int p1]) (n := 3) (Nat.le_of_ble_eq_true rfl)
  rw [lg_entry_eq]
  generalize (lg_sl ([.ref (q 0), .int p0, .int p1]) ++ List.replicate (3 - (lg_sl ([.ref (q 0), .int p0, .int p1])).length) Slot.unset).toArray = ls at hl ⊢
  have hl : lv_has ls 3 [(0, .ref (q 0)), (1, .int p0), (2, .int p1)] := hl
  refine lv_aload_n hx hb dX9_cart_0 rfl (lv_at hl 0 rfl) ?_
  refine va_get (D := D) (ci := 9) (v := .ref (q 3)) (C := RX9) (T := TX9) (N := 11) hx hb hT in_X9 hown hK hP 0 rfl rfl 2 (by decide) (hT _ t453) (fun _ h9 => h9) rfl dX9_cart_1 ?_
  refine va_get (D := D) (ci := 8) (v := .ref (q 12)) (C := RX8) (T := TX8) (N := 6) hx hb hT in_X8 hown hK hP 1 rfl rfl 0 (by decide) (hT _ t312) (fun _ h9 => h9) rfl dX9_cart_4 ?_
  refine lv_iload_n hx hb dX9_cart_7 rfl (lv_at hl 1 rfl) ?_
  refine ro_V (As := [.int p0]) (rest := []) S (c_X1_isCart l D k q wf p0) lkX9_147 ok_X1_isCart ⟨rfl, rfl, Nat.le_of_ble_eq_true rfl, Nat.le_of_ble_eq_true rfl⟩ (fw_V (ci := 1) (q0 := 2) hF rfl rfl) rfl hl.1 rfl (Nat.le_of_ble_eq_true rfl) ⟨Nat.zero_le _, Nat.zero_le _⟩ dX9_cart_8 (fun r_1 er_1 => ?_)
  subst er_1
  refine lv_if_ne (tgt := 17) hx hb dX9_cart_11 (by decide) (fun c_2 => ?_) (fun c_2 => ?_)
  · first | exact absurd c_2 (by decide) | exact absurd (by decide) c_2
  refine lv_bipush (v := (-2)) hx hb dX9_cart_14 (by decide) ?_
  exact W.iret (v := (-2)) hx hb hr (fun t ht hW => ⟨(-2), rfl, rfl, ht⟩) (fun _ h9 => by cases h9) dX9_cart_16
set_option maxHeartbeats 4000000 in
set_option maxRecDepth 100000 in
theorem c_X9_errand (l : Launch) (D : va_G) (k : Nat → ClassId) (q : Nat → Nat) (wf : Nat → Int32) (p0 : Int32) (p1 : Int32)  : Met l yX9_errand (.code yX9_errand cX9_errand 3 (some .int) :: TB) (rmk 2) (va_Pc [.ref (q 0), .int p0, .int p1] (fun U => FWH D k q wf U U.heap)) (vp_Si (fun r => r = (-2))) 0 0 (fun _ => False) := by
  refine Met.ofW (cc := cX9_errand) (maxL := 3) (ret := (some .int)) (by decide) rfl ?_
  intro p e s m args below meth c s₁ B hml hv
  obtain ⟨rfl, hF⟩ := hv
  have hx := B.exec
  have hb := B.bytes
  have hr := B.returns
  have hT : ∀ w ∈ TB, w.before ([.ref (q 0), .int p0, .int p1] : List Value).toArray s = true := fun w h => atoms_spec (ws := .code yX9_errand cX9_errand 3 (some .int) :: TB) B.pre w (List.mem_cons_of_mem _ h)
  have hown : s.vm.findClass RX9 = some m.cls := findClass_of_methodNamed B.named
  have S : CallFix p m c cX9_errand 3 s _ TB RX9 := ⟨hx, hb, hml, hown, hT⟩
  have hP : va_P D vwCl [(q 0, .inr (9, [.ref (q 1), .ref (q 2), .ref (q 3), .ref (q 4), .ref (q 5), .ref (q 6), .ref (q 7), .ref (q 8), .ref (q 9), .ref (q 10), .ref (q 11)])), (q 3, .inr (8, [.ref (q 12), .ref (q 13), .int 0, .ref (q 14), .ref (q 15), .ref (q 16)])), (q 12, .inr (1, [.int 0, .int 0, .int 0, .int 0, .int 0, .int 0, .int 0, .ref (q 17), .ref (q 18), .ref (q 19), .ref (q 20), .ref (q 21), .ref (q 22), .ref (q 23)])), (q 6, .inr (4, [.ref (q 24), .ref (q 25), .ref (q 26)])), (q 24, .inl (k 0, 4, .inl wf)), (q 5, .inl (k 3, 3, .inl (fun _ => 0))), (q 1, .inr (6, [.ref (q 27), .int 0])), (q 2, .inr (2, [.ref (q 1), .ref (q 28), .int 0, .int (-1), .int 0, .int 0, .int 0, .int 0]))] s.heap := hF.1
  have hK := hF.2.1
  have hl := lv_entry ([.ref (q 0), .int p0, .int p1]) (n := 3) (Nat.le_of_ble_eq_true rfl)
  rw [lg_entry_eq]
  generalize (lg_sl ([.ref (q 0), .int p0, .int p1]) ++ List.replicate (3 - (lg_sl ([.ref (q 0), .int p0, .int p1])).length) Slot.unset).toArray = ls at hl ⊢
  have hl : lv_has ls 3 [(0, .ref (q 0)), (1, .int p0), (2, .int p1)] := hl
  refine lv_aload_n hx hb dX9_errand_0 rfl (lv_at hl 0 rfl) ?_
  refine va_get (D := D) (ci := 9) (v := .ref (q 3)) (C := RX9) (T := TX9) (N := 11) hx hb hT in_X9 hown hK hP 0 rfl rfl 2 (by decide) (hT _ t453) (fun _ h9 => h9) rfl dX9_errand_1 ?_
  refine va_get (D := D) (ci := 8) (v := .ref (q 12)) (C := RX8) (T := TX8) (N := 6) hx hb hT in_X8 hown hK hP 1 rfl rfl 0 (by decide) (hT _ t312) (fun _ h9 => h9) rfl dX9_errand_4 ?_
  refine lv_iload_n hx hb dX9_errand_7 rfl (lv_at hl 1 rfl) ?_
  refine ro_V (As := [.int p0]) (rest := []) S (c_X1_isErrand l D k q wf p0) lkX9_159 ok_X1_isErrand ⟨rfl, rfl, Nat.le_of_ble_eq_true rfl, Nat.le_of_ble_eq_true rfl⟩ (fw_V (ci := 1) (q0 := 2) hF rfl rfl) rfl hl.1 rfl (Nat.le_of_ble_eq_true rfl) ⟨Nat.zero_le _, Nat.zero_le _⟩ dX9_errand_8 (fun r_1 er_1 => ?_)
  subst er_1
  refine lv_if_ne (tgt := 17) hx hb dX9_errand_11 (by decide) (fun c_2 => ?_) (fun c_2 => ?_)
  · first | exact absurd c_2 (by decide) | exact absurd (by decide) c_2
  refine lv_bipush (v := (-2)) hx hb dX9_errand_14 (by decide) ?_
  exact W.iret (v := (-2)) hx hb hr (fun t ht hW => ⟨(-2), rfl, rfl, ht⟩) (fun _ h9 => by cases h9) dX9_errand_16
set_option maxHeartbeats 4000000 in
set_option maxRecDepth 100000 in
theorem c_X9_roads (l : Launch) (D : va_G) (k : Nat → ClassId) (q : Nat → Nat) (wf : Nat → Int32) (p0 : Int32)  : Met l yX9_roads (.code yX9_roads cX9_roads 2 (some .int) :: TB) (rmk 2) (va_Pc [.ref (q 0), .int p0] (fun U => FWH D k q wf U U.heap)) (vp_Si (fun r => r = (-2))) 0 0 (fun _ => False) := by
  refine Met.ofW (cc := cX9_roads) (maxL := 2) (ret := (some .int)) (by decide) rfl ?_
  intro p e s m args below meth c s₁ B hml hv
  obtain ⟨rfl, hF⟩ := hv
  have hx := B.exec
  have hb := B.bytes
  have hr := B.returns
  have hT : ∀ w ∈ TB, w.before ([.ref (q 0), .int p0] : List Value).toArray s = true := fun w h => atoms_spec (ws := .code yX9_roads cX9_roads 2 (some .int) :: TB) B.pre w (List.mem_cons_of_mem _ h)
  have hown : s.vm.findClass RX9 = some m.cls := findClass_of_methodNamed B.named
  have S : CallFix p m c cX9_roads 2 s _ TB RX9 := ⟨hx, hb, hml, hown, hT⟩
  have hP : va_P D vwCl [(q 0, .inr (9, [.ref (q 1), .ref (q 2), .ref (q 3), .ref (q 4), .ref (q 5), .ref (q 6), .ref (q 7), .ref (q 8), .ref (q 9), .ref (q 10), .ref (q 11)])), (q 3, .inr (8, [.ref (q 12), .ref (q 13), .int 0, .ref (q 14), .ref (q 15), .ref (q 16)])), (q 12, .inr (1, [.int 0, .int 0, .int 0, .int 0, .int 0, .int 0, .int 0, .ref (q 17), .ref (q 18), .ref (q 19), .ref (q 20), .ref (q 21), .ref (q 22), .ref (q 23)])), (q 6, .inr (4, [.ref (q 24), .ref (q 25), .ref (q 26)])), (q 24, .inl (k 0, 4, .inl wf)), (q 5, .inl (k 3, 3, .inl (fun _ => 0))), (q 1, .inr (6, [.ref (q 27), .int 0])), (q 2, .inr (2, [.ref (q 1), .ref (q 28), .int 0, .int (-1), .int 0, .int 0, .int 0, .int 0]))] s.heap := hF.1
  have hK := hF.2.1
  have hl := lv_entry ([.ref (q 0), .int p0]) (n := 2) (Nat.le_of_ble_eq_true rfl)
  rw [lg_entry_eq]
  generalize (lg_sl ([.ref (q 0), .int p0]) ++ List.replicate (2 - (lg_sl ([.ref (q 0), .int p0])).length) Slot.unset).toArray = ls at hl ⊢
  have hl : lv_has ls 2 [(0, .ref (q 0)), (1, .int p0)] := hl
  refine lv_aload_n hx hb dX9_roads_0 rfl (lv_at hl 0 rfl) ?_
  refine va_get (D := D) (ci := 9) (v := .ref (q 3)) (C := RX9) (T := TX9) (N := 11) hx hb hT in_X9 hown hK hP 0 rfl rfl 2 (by decide) (hT _ t453) (fun _ h9 => h9) rfl dX9_roads_1 ?_
  refine va_get (D := D) (ci := 8) (v := .ref (q 12)) (C := RX8) (T := TX8) (N := 6) hx hb hT in_X8 hown hK hP 1 rfl rfl 0 (by decide) (hT _ t312) (fun _ h9 => h9) rfl dX9_roads_4 ?_
  refine lv_iload_n hx hb dX9_roads_7 rfl (lv_at hl 1 rfl) ?_
  refine ro_V (As := [.int p0]) (rest := []) S (c_X1_isPlace l D k q wf p0) lkX9_171 ok_X1_isPlace ⟨rfl, rfl, Nat.le_of_ble_eq_true rfl, Nat.le_of_ble_eq_true rfl⟩ (fw_V (ci := 1) (q0 := 2) hF rfl rfl) rfl hl.1 rfl (Nat.le_of_ble_eq_true rfl) ⟨Nat.zero_le _, Nat.zero_le _⟩ dX9_roads_8 (fun r_1 er_1 => ?_)
  subst er_1
  refine lv_if_eq (tgt := 28) hx hb dX9_roads_11 (by decide) (fun c_2 => ?_) (fun c_2 => ?_)
  rotate_left
  · first | exact absurd c_2 (by decide) | exact absurd (by decide) c_2
  refine lv_bipush (v := (-2)) hx hb dX9_roads_28 (by decide) ?_
  exact W.iret (v := (-2)) hx hb hr (fun t ht hW => ⟨(-2), rfl, rfl, ht⟩) (fun _ h9 => by cases h9) dX9_roads_30
set_option maxHeartbeats 4000000 in
set_option maxRecDepth 100000 in
theorem c_X9_pull (l : Launch) (D : va_G) (k : Nat → ClassId) (q : Nat → Nat) (wf : Nat → Int32) (p0 : Int32) (p1 : Int32)  : Met l yX9_pull (.code yX9_pull cX9_pull 3 (some .int) :: TB) (rmk 2) (va_Pc [.ref (q 0), .int p0, .int p1] (fun U => FWH D k q wf U U.heap)) (vp_Si (fun r => r = (-2))) 0 0 (fun _ => False) := by
  refine Met.ofW (cc := cX9_pull) (maxL := 3) (ret := (some .int)) (by decide) rfl ?_
  intro p e s m args below meth c s₁ B hml hv
  obtain ⟨rfl, hF⟩ := hv
  have hx := B.exec
  have hb := B.bytes
  have hr := B.returns
  have hT : ∀ w ∈ TB, w.before ([.ref (q 0), .int p0, .int p1] : List Value).toArray s = true := fun w h => atoms_spec (ws := .code yX9_pull cX9_pull 3 (some .int) :: TB) B.pre w (List.mem_cons_of_mem _ h)
  have hown : s.vm.findClass RX9 = some m.cls := findClass_of_methodNamed B.named
  have S : CallFix p m c cX9_pull 3 s _ TB RX9 := ⟨hx, hb, hml, hown, hT⟩
  have hP : va_P D vwCl [(q 0, .inr (9, [.ref (q 1), .ref (q 2), .ref (q 3), .ref (q 4), .ref (q 5), .ref (q 6), .ref (q 7), .ref (q 8), .ref (q 9), .ref (q 10), .ref (q 11)])), (q 3, .inr (8, [.ref (q 12), .ref (q 13), .int 0, .ref (q 14), .ref (q 15), .ref (q 16)])), (q 12, .inr (1, [.int 0, .int 0, .int 0, .int 0, .int 0, .int 0, .int 0, .ref (q 17), .ref (q 18), .ref (q 19), .ref (q 20), .ref (q 21), .ref (q 22), .ref (q 23)])), (q 6, .inr (4, [.ref (q 24), .ref (q 25), .ref (q 26)])), (q 24, .inl (k 0, 4, .inl wf)), (q 5, .inl (k 3, 3, .inl (fun _ => 0))), (q 1, .inr (6, [.ref (q 27), .int 0])), (q 2, .inr (2, [.ref (q 1), .ref (q 28), .int 0, .int (-1), .int 0, .int 0, .int 0, .int 0]))] s.heap := hF.1
  have hK := hF.2.1
  have hl := lv_entry ([.ref (q 0), .int p0, .int p1]) (n := 3) (Nat.le_of_ble_eq_true rfl)
  rw [lg_entry_eq]
  generalize (lg_sl ([.ref (q 0), .int p0, .int p1]) ++ List.replicate (3 - (lg_sl ([.ref (q 0), .int p0, .int p1])).length) Slot.unset).toArray = ls at hl ⊢
  have hl : lv_has ls 3 [(0, .ref (q 0)), (1, .int p0), (2, .int p1)] := hl
  refine lv_aload_n hx hb dX9_pull_0 rfl (lv_at hl 0 rfl) ?_
  refine va_get (D := D) (ci := 9) (v := .ref (q 3)) (C := RX9) (T := TX9) (N := 11) hx hb hT in_X9 hown hK hP 0 rfl rfl 2 (by decide) (hT _ t453) (fun _ h9 => h9) rfl dX9_pull_1 ?_
  refine va_get (D := D) (ci := 8) (v := .ref (q 12)) (C := RX8) (T := TX8) (N := 6) hx hb hT in_X8 hown hK hP 1 rfl rfl 0 (by decide) (hT _ t312) (fun _ h9 => h9) rfl dX9_pull_4 ?_
  refine lv_iload_n hx hb dX9_pull_7 rfl (lv_at hl 1 rfl) ?_
  refine ro_V (As := [.int p0]) (rest := []) S (c_X1_isCart l D k q wf p0) lkX9_147 ok_X1_isCart ⟨rfl, rfl, Nat.le_of_ble_eq_true rfl, Nat.le_of_ble_eq_true rfl⟩ (fw_V (ci := 1) (q0 := 2) hF rfl rfl) rfl hl.1 rfl (Nat.le_of_ble_eq_true rfl) ⟨Nat.zero_le _, Nat.zero_le _⟩ dX9_pull_8 (fun r_1 er_1 => ?_)
  subst er_1
  refine lv_if_eq (tgt := 28) hx hb dX9_pull_11 (by decide) (fun c_2 => ?_) (fun c_2 => ?_)
  rotate_left
  · first | exact absurd c_2 (by decide) | exact absurd (by decide) c_2
  refine lv_bipush (v := (-2)) hx hb dX9_pull_28 (by decide) ?_
  exact W.iret (v := (-2)) hx hb hr (fun t ht hW => ⟨(-2), rfl, rfl, ht⟩) (fun _ h9 => by cases h9) dX9_pull_30
set_option maxHeartbeats 4000000 in
set_option maxRecDepth 100000 in
theorem c_X9_aside (l : Launch) (D : va_G) (k : Nat → ClassId) (q : Nat → Nat) (wf : Nat → Int32) (p0 : Int32)  : Met l yX9_aside (.code yX9_aside cX9_aside 4 (some .int) :: TB) (rmk 2) (va_Pc [.ref (q 0), .int p0] (fun U => FWH D k q wf U U.heap)) (vp_Si (fun r => r = (-2))) 0 0 (fun _ => False) := by
  refine Met.ofW (cc := cX9_aside) (maxL := 4) (ret := (some .int)) (by decide) rfl ?_
  intro p e s m args below meth c s₁ B hml hv
  obtain ⟨rfl, hF⟩ := hv
  have hx := B.exec
  have hb := B.bytes
  have hr := B.returns
  have hT : ∀ w ∈ TB, w.before ([.ref (q 0), .int p0] : List Value).toArray s = true := fun w h => atoms_spec (ws := .code yX9_aside cX9_aside 4 (some .int) :: TB) B.pre w (List.mem_cons_of_mem _ h)
  have hown : s.vm.findClass RX9 = some m.cls := findClass_of_methodNamed B.named
  have S : CallFix p m c cX9_aside 4 s _ TB RX9 := ⟨hx, hb, hml, hown, hT⟩
  have hP : va_P D vwCl [(q 0, .inr (9, [.ref (q 1), .ref (q 2), .ref (q 3), .ref (q 4), .ref (q 5), .ref (q 6), .ref (q 7), .ref (q 8), .ref (q 9), .ref (q 10), .ref (q 11)])), (q 3, .inr (8, [.ref (q 12), .ref (q 13), .int 0, .ref (q 14), .ref (q 15), .ref (q 16)])), (q 12, .inr (1, [.int 0, .int 0, .int 0, .int 0, .int 0, .int 0, .int 0, .ref (q 17), .ref (q 18), .ref (q 19), .ref (q 20), .ref (q 21), .ref (q 22), .ref (q 23)])), (q 6, .inr (4, [.ref (q 24), .ref (q 25), .ref (q 26)])), (q 24, .inl (k 0, 4, .inl wf)), (q 5, .inl (k 3, 3, .inl (fun _ => 0))), (q 1, .inr (6, [.ref (q 27), .int 0])), (q 2, .inr (2, [.ref (q 1), .ref (q 28), .int 0, .int (-1), .int 0, .int 0, .int 0, .int 0]))] s.heap := hF.1
  have hK := hF.2.1
  have hl := lv_entry ([.ref (q 0), .int p0]) (n := 4) (Nat.le_of_ble_eq_true rfl)
  rw [lg_entry_eq]
  generalize (lg_sl ([.ref (q 0), .int p0]) ++ List.replicate (4 - (lg_sl ([.ref (q 0), .int p0])).length) Slot.unset).toArray = ls at hl ⊢
  have hl : lv_has ls 4 [(0, .ref (q 0)), (1, .int p0)] := hl
  refine lv_aload_n hx hb dX9_aside_0 rfl (lv_at hl 0 rfl) ?_
  refine va_get (D := D) (ci := 9) (v := .ref (q 3)) (C := RX9) (T := TX9) (N := 11) hx hb hT in_X9 hown hK hP 0 rfl rfl 2 (by decide) (hT _ t453) (fun _ h9 => h9) rfl dX9_aside_1 ?_
  refine va_get (D := D) (ci := 8) (v := .ref (q 12)) (C := RX8) (T := TX8) (N := 6) hx hb hT in_X8 hown hK hP 1 rfl rfl 0 (by decide) (hT _ t312) (fun _ h9 => h9) rfl dX9_aside_4 ?_
  refine lv_iload_n hx hb dX9_aside_7 rfl (lv_at hl 1 rfl) ?_
  refine ro_V (As := [.int p0]) (rest := []) S (c_X1_isCart l D k q wf p0) lkX9_147 ok_X1_isCart ⟨rfl, rfl, Nat.le_of_ble_eq_true rfl, Nat.le_of_ble_eq_true rfl⟩ (fw_V (ci := 1) (q0 := 2) hF rfl rfl) rfl hl.1 rfl (Nat.le_of_ble_eq_true rfl) ⟨Nat.zero_le _, Nat.zero_le _⟩ dX9_aside_8 (fun r_1 er_1 => ?_)
  subst er_1
  refine lv_if_ne (tgt := 17) hx hb dX9_aside_11 (by decide) (fun c_2 => ?_) (fun c_2 => ?_)
  · first | exact absurd c_2 (by decide) | exact absurd (by decide) c_2
  refine lv_bipush (v := (-2)) hx hb dX9_aside_14 (by decide) ?_
  exact W.iret (v := (-2)) hx hb hr (fun t ht hW => ⟨(-2), rfl, rfl, ht⟩) (fun _ h9 => by cases h9) dX9_aside_16
set_option maxHeartbeats 4000000 in
set_option maxRecDepth 100000 in
theorem c_X9_swap (l : Launch) (D : va_G) (k : Nat → ClassId) (q : Nat → Nat) (wf : Nat → Int32) (p0 : Int32) (p1 : Int32)  : Met l yX9_swap (.code yX9_swap cX9_swap 3 (some .int) :: TB) (rmk 2) (va_Pc [.ref (q 0), .int p0, .int p1] (fun U => FWH D k q wf U U.heap)) (vp_Si (fun r => r = (-2))) 0 0 (fun _ => False) := by
  refine Met.ofW (cc := cX9_swap) (maxL := 3) (ret := (some .int)) (by decide) rfl ?_
  intro p e s m args below meth c s₁ B hml hv
  obtain ⟨rfl, hF⟩ := hv
  have hx := B.exec
  have hb := B.bytes
  have hr := B.returns
  have hT : ∀ w ∈ TB, w.before ([.ref (q 0), .int p0, .int p1] : List Value).toArray s = true := fun w h => atoms_spec (ws := .code yX9_swap cX9_swap 3 (some .int) :: TB) B.pre w (List.mem_cons_of_mem _ h)
  have hown : s.vm.findClass RX9 = some m.cls := findClass_of_methodNamed B.named
  have S : CallFix p m c cX9_swap 3 s _ TB RX9 := ⟨hx, hb, hml, hown, hT⟩
  have hP : va_P D vwCl [(q 0, .inr (9, [.ref (q 1), .ref (q 2), .ref (q 3), .ref (q 4), .ref (q 5), .ref (q 6), .ref (q 7), .ref (q 8), .ref (q 9), .ref (q 10), .ref (q 11)])), (q 3, .inr (8, [.ref (q 12), .ref (q 13), .int 0, .ref (q 14), .ref (q 15), .ref (q 16)])), (q 12, .inr (1, [.int 0, .int 0, .int 0, .int 0, .int 0, .int 0, .int 0, .ref (q 17), .ref (q 18), .ref (q 19), .ref (q 20), .ref (q 21), .ref (q 22), .ref (q 23)])), (q 6, .inr (4, [.ref (q 24), .ref (q 25), .ref (q 26)])), (q 24, .inl (k 0, 4, .inl wf)), (q 5, .inl (k 3, 3, .inl (fun _ => 0))), (q 1, .inr (6, [.ref (q 27), .int 0])), (q 2, .inr (2, [.ref (q 1), .ref (q 28), .int 0, .int (-1), .int 0, .int 0, .int 0, .int 0]))] s.heap := hF.1
  have hK := hF.2.1
  have hl := lv_entry ([.ref (q 0), .int p0, .int p1]) (n := 3) (Nat.le_of_ble_eq_true rfl)
  rw [lg_entry_eq]
  generalize (lg_sl ([.ref (q 0), .int p0, .int p1]) ++ List.replicate (3 - (lg_sl ([.ref (q 0), .int p0, .int p1])).length) Slot.unset).toArray = ls at hl ⊢
  have hl : lv_has ls 3 [(0, .ref (q 0)), (1, .int p0), (2, .int p1)] := hl
  refine lv_aload_n hx hb dX9_swap_0 rfl (lv_at hl 0 rfl) ?_
  refine va_get (D := D) (ci := 9) (v := .ref (q 3)) (C := RX9) (T := TX9) (N := 11) hx hb hT in_X9 hown hK hP 0 rfl rfl 2 (by decide) (hT _ t453) (fun _ h9 => h9) rfl dX9_swap_1 ?_
  refine va_get (D := D) (ci := 8) (v := .ref (q 12)) (C := RX8) (T := TX8) (N := 6) hx hb hT in_X8 hown hK hP 1 rfl rfl 0 (by decide) (hT _ t312) (fun _ h9 => h9) rfl dX9_swap_4 ?_
  refine lv_iload_n hx hb dX9_swap_7 rfl (lv_at hl 1 rfl) ?_
  refine ro_V (As := [.int p0]) (rest := []) S (c_X1_isWheel l D k q wf p0) lkX9_127 ok_X1_isWheel ⟨rfl, rfl, Nat.le_of_ble_eq_true rfl, Nat.le_of_ble_eq_true rfl⟩ (fw_V (ci := 1) (q0 := 2) hF rfl rfl) rfl hl.1 rfl (Nat.le_of_ble_eq_true rfl) ⟨Nat.zero_le _, Nat.zero_le _⟩ dX9_swap_8 (fun r_1 er_1 => ?_)
  subst er_1
  refine lv_if_eq (tgt := 33) hx hb dX9_swap_11 (by decide) (fun c_2 => ?_) (fun c_2 => ?_)
  rotate_left
  · first | exact absurd c_2 (by decide) | exact absurd (by decide) c_2
  refine lv_bipush (v := (-2)) hx hb dX9_swap_33 (by decide) ?_
  exact W.iret (v := (-2)) hx hb hr (fun t ht hW => ⟨(-2), rfl, rfl, ht⟩) (fun _ h9 => by cases h9) dX9_swap_35
set_option maxHeartbeats 4000000 in
set_option maxRecDepth 100000 in
theorem c_X9_grease (l : Launch) (D : va_G) (k : Nat → ClassId) (q : Nat → Nat) (wf : Nat → Int32) (p0 : Int32)  : Met l yX9_grease (.code yX9_grease cX9_grease 3 (some .int) :: TB) (rmk 2) (va_Pc [.ref (q 0), .int p0] (fun U => FWH D k q wf U U.heap)) (vp_Si (fun r => r = (-2))) 0 0 (fun _ => False) := by
  refine Met.ofW (cc := cX9_grease) (maxL := 3) (ret := (some .int)) (by decide) rfl ?_
  intro p e s m args below meth c s₁ B hml hv
  obtain ⟨rfl, hF⟩ := hv
  have hx := B.exec
  have hb := B.bytes
  have hr := B.returns
  have hT : ∀ w ∈ TB, w.before ([.ref (q 0), .int p0] : List Value).toArray s = true := fun w h => atoms_spec (ws := .code yX9_grease cX9_grease 3 (some .int) :: TB) B.pre w (List.mem_cons_of_mem _ h)
  have hown : s.vm.findClass RX9 = some m.cls := findClass_of_methodNamed B.named
  have S : CallFix p m c cX9_grease 3 s _ TB RX9 := ⟨hx, hb, hml, hown, hT⟩
  have hP : va_P D vwCl [(q 0, .inr (9, [.ref (q 1), .ref (q 2), .ref (q 3), .ref (q 4), .ref (q 5), .ref (q 6), .ref (q 7), .ref (q 8), .ref (q 9), .ref (q 10), .ref (q 11)])), (q 3, .inr (8, [.ref (q 12), .ref (q 13), .int 0, .ref (q 14), .ref (q 15), .ref (q 16)])), (q 12, .inr (1, [.int 0, .int 0, .int 0, .int 0, .int 0, .int 0, .int 0, .ref (q 17), .ref (q 18), .ref (q 19), .ref (q 20), .ref (q 21), .ref (q 22), .ref (q 23)])), (q 6, .inr (4, [.ref (q 24), .ref (q 25), .ref (q 26)])), (q 24, .inl (k 0, 4, .inl wf)), (q 5, .inl (k 3, 3, .inl (fun _ => 0))), (q 1, .inr (6, [.ref (q 27), .int 0])), (q 2, .inr (2, [.ref (q 1), .ref (q 28), .int 0, .int (-1), .int 0, .int 0, .int 0, .int 0]))] s.heap := hF.1
  have hK := hF.2.1
  have hl := lv_entry ([.ref (q 0), .int p0]) (n := 3) (Nat.le_of_ble_eq_true rfl)
  rw [lg_entry_eq]
  generalize (lg_sl ([.ref (q 0), .int p0]) ++ List.replicate (3 - (lg_sl ([.ref (q 0), .int p0])).length) Slot.unset).toArray = ls at hl ⊢
  have hl : lv_has ls 3 [(0, .ref (q 0)), (1, .int p0)] := hl
  refine lv_aload_n hx hb dX9_grease_0 rfl (lv_at hl 0 rfl) ?_
  refine va_get (D := D) (ci := 9) (v := .ref (q 3)) (C := RX9) (T := TX9) (N := 11) hx hb hT in_X9 hown hK hP 0 rfl rfl 2 (by decide) (hT _ t453) (fun _ h9 => h9) rfl dX9_grease_1 ?_
  refine va_get (D := D) (ci := 8) (v := .ref (q 12)) (C := RX8) (T := TX8) (N := 6) hx hb hT in_X8 hown hK hP 1 rfl rfl 0 (by decide) (hT _ t312) (fun _ h9 => h9) rfl dX9_grease_4 ?_
  refine lv_iload_n hx hb dX9_grease_7 rfl (lv_at hl 1 rfl) ?_
  refine ro_V (As := [.int p0]) (rest := []) S (c_X1_isWheel l D k q wf p0) lkX9_127 ok_X1_isWheel ⟨rfl, rfl, Nat.le_of_ble_eq_true rfl, Nat.le_of_ble_eq_true rfl⟩ (fw_V (ci := 1) (q0 := 2) hF rfl rfl) rfl hl.1 rfl (Nat.le_of_ble_eq_true rfl) ⟨Nat.zero_le _, Nat.zero_le _⟩ dX9_grease_8 (fun r_1 er_1 => ?_)
  subst er_1
  refine lv_if_ne (tgt := 17) hx hb dX9_grease_11 (by decide) (fun c_2 => ?_) (fun c_2 => ?_)
  · first | exact absurd c_2 (by decide) | exact absurd (by decide) c_2
  refine lv_bipush (v := (-2)) hx hb dX9_grease_14 (by decide) ?_
  exact W.iret (v := (-2)) hx hb hr (fun t ht hW => ⟨(-2), rfl, rfl, ht⟩) (fun _ h9 => by cases h9) dX9_grease_16
set_option maxHeartbeats 4000000 in
set_option maxRecDepth 100000 in
theorem c_X9_undo (l : Launch) (D : va_G) (k : Nat → ClassId) (q : Nat → Nat) (wf : Nat → Int32)   : Met l yX9_undo (.code yX9_undo cX9_undo 1 (some .int) :: TB) (rmk 2) (va_Pc [.ref (q 0)] (fun U => FWH D k q wf U U.heap)) (vp_Si (fun r => r = (-2))) 0 0 (fun _ => False) := by
  refine Met.ofW (cc := cX9_undo) (maxL := 1) (ret := (some .int)) (by decide) rfl ?_
  intro p e s m args below meth c s₁ B hml hv
  obtain ⟨rfl, hF⟩ := hv
  have hx := B.exec
  have hb := B.bytes
  have hr := B.returns
  have hT : ∀ w ∈ TB, w.before ([.ref (q 0)] : List Value).toArray s = true := fun w h => atoms_spec (ws := .code yX9_undo cX9_undo 1 (some .int) :: TB) B.pre w (List.mem_cons_of_mem _ h)
  have hown : s.vm.findClass RX9 = some m.cls := findClass_of_methodNamed B.named
  have S : CallFix p m c cX9_undo 1 s _ TB RX9 := ⟨hx, hb, hml, hown, hT⟩
  have hP : va_P D vwCl [(q 0, .inr (9, [.ref (q 1), .ref (q 2), .ref (q 3), .ref (q 4), .ref (q 5), .ref (q 6), .ref (q 7), .ref (q 8), .ref (q 9), .ref (q 10), .ref (q 11)])), (q 3, .inr (8, [.ref (q 12), .ref (q 13), .int 0, .ref (q 14), .ref (q 15), .ref (q 16)])), (q 12, .inr (1, [.int 0, .int 0, .int 0, .int 0, .int 0, .int 0, .int 0, .ref (q 17), .ref (q 18), .ref (q 19), .ref (q 20), .ref (q 21), .ref (q 22), .ref (q 23)])), (q 6, .inr (4, [.ref (q 24), .ref (q 25), .ref (q 26)])), (q 24, .inl (k 0, 4, .inl wf)), (q 5, .inl (k 3, 3, .inl (fun _ => 0))), (q 1, .inr (6, [.ref (q 27), .int 0])), (q 2, .inr (2, [.ref (q 1), .ref (q 28), .int 0, .int (-1), .int 0, .int 0, .int 0, .int 0]))] s.heap := hF.1
  have hK := hF.2.1
  have hl := lv_entry ([.ref (q 0)]) (n := 1) (Nat.le_of_ble_eq_true rfl)
  rw [lg_entry_eq]
  generalize (lg_sl ([.ref (q 0)]) ++ List.replicate (1 - (lg_sl ([.ref (q 0)])).length) Slot.unset).toArray = ls at hl ⊢
  have hl : lv_has ls 1 [(0, .ref (q 0))] := hl
  refine lv_aload_n hx hb dX9_undo_0 rfl (lv_at hl 0 rfl) ?_
  refine va_get (D := D) (ci := 9) (v := .ref (q 3)) (C := RX9) (T := TX9) (N := 11) hx hb hT in_X9 hown hK hP 0 rfl rfl 2 (by decide) (hT _ t453) (fun _ h9 => h9) rfl dX9_undo_1 ?_
  refine va_get (D := D) (ci := 8) (v := .ref (q 12)) (C := RX8) (T := TX8) (N := 6) hx hb hT in_X8 hown hK hP 1 rfl rfl 0 (by decide) (hT _ t312) (fun _ h9 => h9) rfl dX9_undo_4 ?_
  refine ro_V (As := []) (rest := []) S (c_X1_isTold l D k q wf ) lkX9_211 ok_X1_isTold ⟨rfl, rfl, Nat.le_of_ble_eq_true rfl, Nat.le_of_ble_eq_true rfl⟩ (fw_V (ci := 1) (q0 := 2) hF rfl rfl) rfl hl.1 rfl (Nat.le_of_ble_eq_true rfl) ⟨Nat.zero_le _, Nat.zero_le _⟩ dX9_undo_7 (fun r_1 er_1 => ?_)
  subst er_1
  refine lv_if_ne (tgt := 16) hx hb dX9_undo_10 (by decide) (fun c_2 => ?_) (fun c_2 => ?_)
  · first | exact absurd c_2 (by decide) | exact absurd (by decide) c_2
  refine lv_bipush (v := (-2)) hx hb dX9_undo_13 (by decide) ?_
  exact W.iret (v := (-2)) hx hb hr (fun t ht hW => ⟨(-2), rfl, rfl, ht⟩) (fun _ h9 => by cases h9) dX9_undo_15
set_option maxHeartbeats 4000000 in
set_option maxRecDepth 100000 in
theorem c_X9_anew (l : Launch) (D : va_G) (k : Nat → ClassId) (q : Nat → Nat) (wf : Nat → Int32)   : Met l yX9_anew (.code yX9_anew cX9_anew 2 (some .int) :: TB) (rmk 2) (va_Pc [.ref (q 0)] (fun U => FWH D k q wf U U.heap)) (vp_Si (fun r => r = (-2))) 0 0 (fun _ => False) := by
  refine Met.ofW (cc := cX9_anew) (maxL := 2) (ret := (some .int)) (by decide) rfl ?_
  intro p e s m args below meth c s₁ B hml hv
  obtain ⟨rfl, hF⟩ := hv
  have hx := B.exec
  have hb := B.bytes
  have hr := B.returns
  have hT : ∀ w ∈ TB, w.before ([.ref (q 0)] : List Value).toArray s = true := fun w h => atoms_spec (ws := .code yX9_anew cX9_anew 2 (some .int) :: TB) B.pre w (List.mem_cons_of_mem _ h)
  have hown : s.vm.findClass RX9 = some m.cls := findClass_of_methodNamed B.named
  have S : CallFix p m c cX9_anew 2 s _ TB RX9 := ⟨hx, hb, hml, hown, hT⟩
  have hP : va_P D vwCl [(q 0, .inr (9, [.ref (q 1), .ref (q 2), .ref (q 3), .ref (q 4), .ref (q 5), .ref (q 6), .ref (q 7), .ref (q 8), .ref (q 9), .ref (q 10), .ref (q 11)])), (q 3, .inr (8, [.ref (q 12), .ref (q 13), .int 0, .ref (q 14), .ref (q 15), .ref (q 16)])), (q 12, .inr (1, [.int 0, .int 0, .int 0, .int 0, .int 0, .int 0, .int 0, .ref (q 17), .ref (q 18), .ref (q 19), .ref (q 20), .ref (q 21), .ref (q 22), .ref (q 23)])), (q 6, .inr (4, [.ref (q 24), .ref (q 25), .ref (q 26)])), (q 24, .inl (k 0, 4, .inl wf)), (q 5, .inl (k 3, 3, .inl (fun _ => 0))), (q 1, .inr (6, [.ref (q 27), .int 0])), (q 2, .inr (2, [.ref (q 1), .ref (q 28), .int 0, .int (-1), .int 0, .int 0, .int 0, .int 0]))] s.heap := hF.1
  have hK := hF.2.1
  have hl := lv_entry ([.ref (q 0)]) (n := 2) (Nat.le_of_ble_eq_true rfl)
  rw [lg_entry_eq]
  generalize (lg_sl ([.ref (q 0)]) ++ List.replicate (2 - (lg_sl ([.ref (q 0)])).length) Slot.unset).toArray = ls at hl ⊢
  have hl : lv_has ls 2 [(0, .ref (q 0))] := hl
  refine lv_aload_n hx hb dX9_anew_0 rfl (lv_at hl 0 rfl) ?_
  refine va_get (D := D) (ci := 9) (v := .ref (q 3)) (C := RX9) (T := TX9) (N := 11) hx hb hT in_X9 hown hK hP 0 rfl rfl 2 (by decide) (hT _ t453) (fun _ h9 => h9) rfl dX9_anew_1 ?_
  refine va_get (D := D) (ci := 8) (v := .ref (q 12)) (C := RX8) (T := TX8) (N := 6) hx hb hT in_X8 hown hK hP 1 rfl rfl 0 (by decide) (hT _ t312) (fun _ h9 => h9) rfl dX9_anew_4 ?_
  refine ro_V (As := []) (rest := []) S (c_X1_isTold l D k q wf ) lkX9_211 ok_X1_isTold ⟨rfl, rfl, Nat.le_of_ble_eq_true rfl, Nat.le_of_ble_eq_true rfl⟩ (fw_V (ci := 1) (q0 := 2) hF rfl rfl) rfl hl.1 rfl (Nat.le_of_ble_eq_true rfl) ⟨Nat.zero_le _, Nat.zero_le _⟩ dX9_anew_7 (fun r_1 er_1 => ?_)
  subst er_1
  refine lv_if_ne (tgt := 16) hx hb dX9_anew_10 (by decide) (fun c_2 => ?_) (fun c_2 => ?_)
  · first | exact absurd c_2 (by decide) | exact absurd (by decide) c_2
  refine lv_bipush (v := (-2)) hx hb dX9_anew_13 (by decide) ?_
  exact W.iret (v := (-2)) hx hb hr (fun t ht hW => ⟨(-2), rfl, rfl, ht⟩) (fun _ h9 => by cases h9) dX9_anew_15
set_option maxHeartbeats 4000000 in
set_option maxRecDepth 100000 in
theorem c_X9_way (l : Launch) (D : va_G) (k : Nat → ClassId) (q : Nat → Nat) (wf : Nat → Int32) (p0 : Int32) (p1 : Int32)  : Met l yX9_way (.code yX9_way cX9_way 3 (some .int) :: TB) (rmk 2) (va_Pc [.ref (q 0), .int p0, .int p1] (fun U => FWH D k q wf U U.heap)) (vp_Si (fun r => r = (-2))) 0 0 (fun _ => False) := by
  refine Met.ofW (cc := cX9_way) (maxL := 3) (ret := (some .int)) (by decide) rfl ?_
  intro p e s m args below meth c s₁ B hml hv
  obtain ⟨rfl, hF⟩ := hv
  have hx := B.exec
  have hb := B.bytes
  have hr := B.returns
  have hT : ∀ w ∈ TB, w.before ([.ref (q 0), .int p0, .int p1] : List Value).toArray s = true := fun w h => atoms_spec (ws := .code yX9_way cX9_way 3 (some .int) :: TB) B.pre w (List.mem_cons_of_mem _ h)
  have hown : s.vm.findClass RX9 = some m.cls := findClass_of_methodNamed B.named
  have S : CallFix p m c cX9_way 3 s _ TB RX9 := ⟨hx, hb, hml, hown, hT⟩
  have hP : va_P D vwCl [(q 0, .inr (9, [.ref (q 1), .ref (q 2), .ref (q 3), .ref (q 4), .ref (q 5), .ref (q 6), .ref (q 7), .ref (q 8), .ref (q 9), .ref (q 10), .ref (q 11)])), (q 3, .inr (8, [.ref (q 12), .ref (q 13), .int 0, .ref (q 14), .ref (q 15), .ref (q 16)])), (q 12, .inr (1, [.int 0, .int 0, .int 0, .int 0, .int 0, .int 0, .int 0, .ref (q 17), .ref (q 18), .ref (q 19), .ref (q 20), .ref (q 21), .ref (q 22), .ref (q 23)])), (q 6, .inr (4, [.ref (q 24), .ref (q 25), .ref (q 26)])), (q 24, .inl (k 0, 4, .inl wf)), (q 5, .inl (k 3, 3, .inl (fun _ => 0))), (q 1, .inr (6, [.ref (q 27), .int 0])), (q 2, .inr (2, [.ref (q 1), .ref (q 28), .int 0, .int (-1), .int 0, .int 0, .int 0, .int 0]))] s.heap := hF.1
  have hK := hF.2.1
  have hl := lv_entry ([.ref (q 0), .int p0, .int p1]) (n := 3) (Nat.le_of_ble_eq_true rfl)
  rw [lg_entry_eq]
  generalize (lg_sl ([.ref (q 0), .int p0, .int p1]) ++ List.replicate (3 - (lg_sl ([.ref (q 0), .int p0, .int p1])).length) Slot.unset).toArray = ls at hl ⊢
  have hl : lv_has ls 3 [(0, .ref (q 0)), (1, .int p0), (2, .int p1)] := hl
  refine lv_aload_n hx hb dX9_way_0 rfl (lv_at hl 0 rfl) ?_
  refine va_get (D := D) (ci := 9) (v := .ref (q 3)) (C := RX9) (T := TX9) (N := 11) hx hb hT in_X9 hown hK hP 0 rfl rfl 2 (by decide) (hT _ t453) (fun _ h9 => h9) rfl dX9_way_1 ?_
  refine va_get (D := D) (ci := 8) (v := .ref (q 12)) (C := RX8) (T := TX8) (N := 6) hx hb hT in_X8 hown hK hP 1 rfl rfl 0 (by decide) (hT _ t312) (fun _ h9 => h9) rfl dX9_way_4 ?_
  refine lv_iload_n hx hb dX9_way_7 rfl (lv_at hl 1 rfl) ?_
  refine ro_V (As := [.int p0]) (rest := []) S (c_X1_isCart l D k q wf p0) lkX9_147 ok_X1_isCart ⟨rfl, rfl, Nat.le_of_ble_eq_true rfl, Nat.le_of_ble_eq_true rfl⟩ (fw_V (ci := 1) (q0 := 2) hF rfl rfl) rfl hl.1 rfl (Nat.le_of_ble_eq_true rfl) ⟨Nat.zero_le _, Nat.zero_le _⟩ dX9_way_8 (fun r_1 er_1 => ?_)
  subst er_1
  refine lv_if_eq (tgt := 28) hx hb dX9_way_11 (by decide) (fun c_2 => ?_) (fun c_2 => ?_)
  rotate_left
  · first | exact absurd c_2 (by decide) | exact absurd (by decide) c_2
  refine lv_bipush (v := (-2)) hx hb dX9_way_28 (by decide) ?_
  exact W.iret (v := (-2)) hx hb hr (fun t ht hW => ⟨(-2), rfl, rfl, ht⟩) (fun _ h9 => by cases h9) dX9_way_30
set_option maxHeartbeats 4000000 in
set_option maxRecDepth 100000 in
theorem c_X9_wants (l : Launch) (D : va_G) (k : Nat → ClassId) (q : Nat → Nat) (wf : Nat → Int32) (p0 : Int32) (p1 : Int32) (p2 : Int32)  : Met l yX9_wants (.code yX9_wants cX9_wants 4 (some .int) :: TB) (rmk 2) (va_Pc [.ref (q 0), .int p0, .int p1, .int p2] (fun U => FWH D k q wf U U.heap)) (vp_Si (fun r => r = (-2))) 0 0 (fun _ => False) := by
  refine Met.ofW (cc := cX9_wants) (maxL := 4) (ret := (some .int)) (by decide) rfl ?_
  intro p e s m args below meth c s₁ B hml hv
  obtain ⟨rfl, hF⟩ := hv
  have hx := B.exec
  have hb := B.bytes
  have hr := B.returns
  have hT : ∀ w ∈ TB, w.before ([.ref (q 0), .int p0, .int p1, .int p2] : List Value).toArray s = true := fun w h => atoms_spec (ws := .code yX9_wants cX9_wants 4 (some .int) :: TB) B.pre w (List.mem_cons_of_mem _ h)
  have hown : s.vm.findClass RX9 = some m.cls := findClass_of_methodNamed B.named
  have S : CallFix p m c cX9_wants 4 s _ TB RX9 := ⟨hx, hb, hml, hown, hT⟩
  have hP : va_P D vwCl [(q 0, .inr (9, [.ref (q 1), .ref (q 2), .ref (q 3), .ref (q 4), .ref (q 5), .ref (q 6), .ref (q 7), .ref (q 8), .ref (q 9), .ref (q 10), .ref (q 11)])), (q 3, .inr (8, [.ref (q 12), .ref (q 13), .int 0, .ref (q 14), .ref (q 15), .ref (q 16)])), (q 12, .inr (1, [.int 0, .int 0, .int 0, .int 0, .int 0, .int 0, .int 0, .ref (q 17), .ref (q 18), .ref (q 19), .ref (q 20), .ref (q 21), .ref (q 22), .ref (q 23)])), (q 6, .inr (4, [.ref (q 24), .ref (q 25), .ref (q 26)])), (q 24, .inl (k 0, 4, .inl wf)), (q 5, .inl (k 3, 3, .inl (fun _ => 0))), (q 1, .inr (6, [.ref (q 27), .int 0])), (q 2, .inr (2, [.ref (q 1), .ref (q 28), .int 0, .int (-1), .int 0, .int 0, .int 0, .int 0]))] s.heap := hF.1
  have hK := hF.2.1
  have hl := lv_entry ([.ref (q 0), .int p0, .int p1, .int p2]) (n := 4) (Nat.le_of_ble_eq_true rfl)
  rw [lg_entry_eq]
  generalize (lg_sl ([.ref (q 0), .int p0, .int p1, .int p2]) ++ List.replicate (4 - (lg_sl ([.ref (q 0), .int p0, .int p1, .int p2])).length) Slot.unset).toArray = ls at hl ⊢
  have hl : lv_has ls 4 [(0, .ref (q 0)), (1, .int p0), (2, .int p1), (3, .int p2)] := hl
  refine lv_aload_n hx hb dX9_wants_0 rfl (lv_at hl 0 rfl) ?_
  refine va_get (D := D) (ci := 9) (v := .ref (q 3)) (C := RX9) (T := TX9) (N := 11) hx hb hT in_X9 hown hK hP 0 rfl rfl 2 (by decide) (hT _ t453) (fun _ h9 => h9) rfl dX9_wants_1 ?_
  refine va_get (D := D) (ci := 8) (v := .ref (q 12)) (C := RX8) (T := TX8) (N := 6) hx hb hT in_X8 hown hK hP 1 rfl rfl 0 (by decide) (hT _ t312) (fun _ h9 => h9) rfl dX9_wants_4 ?_
  refine lv_iload_n hx hb dX9_wants_7 rfl (lv_at hl 1 rfl) ?_
  refine ro_V (As := [.int p0]) (rest := []) S (c_X1_isCart l D k q wf p0) lkX9_147 ok_X1_isCart ⟨rfl, rfl, Nat.le_of_ble_eq_true rfl, Nat.le_of_ble_eq_true rfl⟩ (fw_V (ci := 1) (q0 := 2) hF rfl rfl) rfl hl.1 rfl (Nat.le_of_ble_eq_true rfl) ⟨Nat.zero_le _, Nat.zero_le _⟩ dX9_wants_8 (fun r_1 er_1 => ?_)
  subst er_1
  refine lv_if_eq (tgt := 28) hx hb dX9_wants_11 (by decide) (fun c_2 => ?_) (fun c_2 => ?_)
  rotate_left
  · first | exact absurd c_2 (by decide) | exact absurd (by decide) c_2
  refine lv_bipush (v := (-2)) hx hb dX9_wants_28 (by decide) ?_
  exact W.iret (v := (-2)) hx hb hr (fun t ht hW => ⟨(-2), rfl, rfl, ht⟩) (fun _ h9 => by cases h9) dX9_wants_30
set_option maxHeartbeats 4000000 in
set_option maxRecDepth 100000 in
theorem c_X9_reach (l : Launch) (D : va_G) (k : Nat → ClassId) (q : Nat → Nat) (wf : Nat → Int32) (p0 : Int32)  : Met l yX9_reach (.code yX9_reach cX9_reach 4 (some .int) :: TB) (rmk 2) (va_Pc [.ref (q 0), .int p0] (fun U => FWH D k q wf U U.heap)) (vp_Si (fun r => r = (-2))) 0 0 (fun _ => False) := by
  refine Met.ofW (cc := cX9_reach) (maxL := 4) (ret := (some .int)) (by decide) rfl ?_
  intro p e s m args below meth c s₁ B hml hv
  obtain ⟨rfl, hF⟩ := hv
  have hx := B.exec
  have hb := B.bytes
  have hr := B.returns
  have hT : ∀ w ∈ TB, w.before ([.ref (q 0), .int p0] : List Value).toArray s = true := fun w h => atoms_spec (ws := .code yX9_reach cX9_reach 4 (some .int) :: TB) B.pre w (List.mem_cons_of_mem _ h)
  have hown : s.vm.findClass RX9 = some m.cls := findClass_of_methodNamed B.named
  have S : CallFix p m c cX9_reach 4 s _ TB RX9 := ⟨hx, hb, hml, hown, hT⟩
  have hP : va_P D vwCl [(q 0, .inr (9, [.ref (q 1), .ref (q 2), .ref (q 3), .ref (q 4), .ref (q 5), .ref (q 6), .ref (q 7), .ref (q 8), .ref (q 9), .ref (q 10), .ref (q 11)])), (q 3, .inr (8, [.ref (q 12), .ref (q 13), .int 0, .ref (q 14), .ref (q 15), .ref (q 16)])), (q 12, .inr (1, [.int 0, .int 0, .int 0, .int 0, .int 0, .int 0, .int 0, .ref (q 17), .ref (q 18), .ref (q 19), .ref (q 20), .ref (q 21), .ref (q 22), .ref (q 23)])), (q 6, .inr (4, [.ref (q 24), .ref (q 25), .ref (q 26)])), (q 24, .inl (k 0, 4, .inl wf)), (q 5, .inl (k 3, 3, .inl (fun _ => 0))), (q 1, .inr (6, [.ref (q 27), .int 0])), (q 2, .inr (2, [.ref (q 1), .ref (q 28), .int 0, .int (-1), .int 0, .int 0, .int 0, .int 0]))] s.heap := hF.1
  have hK := hF.2.1
  have hl := lv_entry ([.ref (q 0), .int p0]) (n := 4) (Nat.le_of_ble_eq_true rfl)
  rw [lg_entry_eq]
  generalize (lg_sl ([.ref (q 0), .int p0]) ++ List.replicate (4 - (lg_sl ([.ref (q 0), .int p0])).length) Slot.unset).toArray = ls at hl ⊢
  have hl : lv_has ls 4 [(0, .ref (q 0)), (1, .int p0)] := hl
  refine lv_aload_n hx hb dX9_reach_0 rfl (lv_at hl 0 rfl) ?_
  refine va_get (D := D) (ci := 9) (v := .ref (q 3)) (C := RX9) (T := TX9) (N := 11) hx hb hT in_X9 hown hK hP 0 rfl rfl 2 (by decide) (hT _ t453) (fun _ h9 => h9) rfl dX9_reach_1 ?_
  refine va_get (D := D) (ci := 8) (v := .ref (q 12)) (C := RX8) (T := TX8) (N := 6) hx hb hT in_X8 hown hK hP 1 rfl rfl 0 (by decide) (hT _ t312) (fun _ h9 => h9) rfl dX9_reach_4 ?_
  refine lv_iload_n hx hb dX9_reach_7 rfl (lv_at hl 1 rfl) ?_
  refine ro_V (As := [.int p0]) (rest := []) S (c_X1_isCart l D k q wf p0) lkX9_147 ok_X1_isCart ⟨rfl, rfl, Nat.le_of_ble_eq_true rfl, Nat.le_of_ble_eq_true rfl⟩ (fw_V (ci := 1) (q0 := 2) hF rfl rfl) rfl hl.1 rfl (Nat.le_of_ble_eq_true rfl) ⟨Nat.zero_le _, Nat.zero_le _⟩ dX9_reach_8 (fun r_1 er_1 => ?_)
  subst er_1
  refine lv_if_ne (tgt := 17) hx hb dX9_reach_11 (by decide) (fun c_2 => ?_) (fun c_2 => ?_)
  · first | exact absurd c_2 (by decide) | exact absurd (by decide) c_2
  refine lv_bipush (v := (-2)) hx hb dX9_reach_14 (by decide) ?_
  exact W.iret (v := (-2)) hx hb hr (fun t ht hW => ⟨(-2), rfl, rfl, ht⟩) (fun _ h9 => by cases h9) dX9_reach_16
set_option maxHeartbeats 4000000 in
set_option maxRecDepth 100000 in
theorem c_X9_far (l : Launch) (D : va_G) (k : Nat → ClassId) (q : Nat → Nat) (wf : Nat → Int32) (p0 : Int32) (p1 : Int32)  : Met l yX9_far (.code yX9_far cX9_far 3 (some .int) :: TB) (rmk 2) (va_Pc [.ref (q 0), .int p0, .int p1] (fun U => FWH D k q wf U U.heap)) (vp_Si (fun r => r = (-2))) 0 0 (fun _ => False) := by
  refine Met.ofW (cc := cX9_far) (maxL := 3) (ret := (some .int)) (by decide) rfl ?_
  intro p e s m args below meth c s₁ B hml hv
  obtain ⟨rfl, hF⟩ := hv
  have hx := B.exec
  have hb := B.bytes
  have hr := B.returns
  have hT : ∀ w ∈ TB, w.before ([.ref (q 0), .int p0, .int p1] : List Value).toArray s = true := fun w h => atoms_spec (ws := .code yX9_far cX9_far 3 (some .int) :: TB) B.pre w (List.mem_cons_of_mem _ h)
  have hown : s.vm.findClass RX9 = some m.cls := findClass_of_methodNamed B.named
  have S : CallFix p m c cX9_far 3 s _ TB RX9 := ⟨hx, hb, hml, hown, hT⟩
  have hP : va_P D vwCl [(q 0, .inr (9, [.ref (q 1), .ref (q 2), .ref (q 3), .ref (q 4), .ref (q 5), .ref (q 6), .ref (q 7), .ref (q 8), .ref (q 9), .ref (q 10), .ref (q 11)])), (q 3, .inr (8, [.ref (q 12), .ref (q 13), .int 0, .ref (q 14), .ref (q 15), .ref (q 16)])), (q 12, .inr (1, [.int 0, .int 0, .int 0, .int 0, .int 0, .int 0, .int 0, .ref (q 17), .ref (q 18), .ref (q 19), .ref (q 20), .ref (q 21), .ref (q 22), .ref (q 23)])), (q 6, .inr (4, [.ref (q 24), .ref (q 25), .ref (q 26)])), (q 24, .inl (k 0, 4, .inl wf)), (q 5, .inl (k 3, 3, .inl (fun _ => 0))), (q 1, .inr (6, [.ref (q 27), .int 0])), (q 2, .inr (2, [.ref (q 1), .ref (q 28), .int 0, .int (-1), .int 0, .int 0, .int 0, .int 0]))] s.heap := hF.1
  have hK := hF.2.1
  have hl := lv_entry ([.ref (q 0), .int p0, .int p1]) (n := 3) (Nat.le_of_ble_eq_true rfl)
  rw [lg_entry_eq]
  generalize (lg_sl ([.ref (q 0), .int p0, .int p1]) ++ List.replicate (3 - (lg_sl ([.ref (q 0), .int p0, .int p1])).length) Slot.unset).toArray = ls at hl ⊢
  have hl : lv_has ls 3 [(0, .ref (q 0)), (1, .int p0), (2, .int p1)] := hl
  refine lv_aload_n hx hb dX9_far_0 rfl (lv_at hl 0 rfl) ?_
  refine va_get (D := D) (ci := 9) (v := .ref (q 3)) (C := RX9) (T := TX9) (N := 11) hx hb hT in_X9 hown hK hP 0 rfl rfl 2 (by decide) (hT _ t453) (fun _ h9 => h9) rfl dX9_far_1 ?_
  refine va_get (D := D) (ci := 8) (v := .ref (q 12)) (C := RX8) (T := TX8) (N := 6) hx hb hT in_X8 hown hK hP 1 rfl rfl 0 (by decide) (hT _ t312) (fun _ h9 => h9) rfl dX9_far_4 ?_
  refine lv_iload_n hx hb dX9_far_7 rfl (lv_at hl 1 rfl) ?_
  refine ro_V (As := [.int p0]) (rest := []) S (c_X1_isPlace l D k q wf p0) lkX9_171 ok_X1_isPlace ⟨rfl, rfl, Nat.le_of_ble_eq_true rfl, Nat.le_of_ble_eq_true rfl⟩ (fw_V (ci := 1) (q0 := 2) hF rfl rfl) rfl hl.1 rfl (Nat.le_of_ble_eq_true rfl) ⟨Nat.zero_le _, Nat.zero_le _⟩ dX9_far_8 (fun r_1 er_1 => ?_)
  subst er_1
  refine lv_if_eq (tgt := 28) hx hb dX9_far_11 (by decide) (fun c_2 => ?_) (fun c_2 => ?_)
  rotate_left
  · first | exact absurd c_2 (by decide) | exact absurd (by decide) c_2
  refine lv_bipush (v := (-2)) hx hb dX9_far_28 (by decide) ?_
  exact W.iret (v := (-2)) hx hb hr (fun t ht hW => ⟨(-2), rfl, rfl, ht⟩) (fun _ h9 => by cases h9) dX9_far_30
set_option maxHeartbeats 4000000 in
set_option maxRecDepth 100000 in
theorem c_X9_dues (l : Launch) (D : va_G) (k : Nat → ClassId) (q : Nat → Nat) (wf : Nat → Int32)   : Met l yX9_dues (.code yX9_dues cX9_dues 4 (some .int) :: TB) (rmk 2) (va_Pc [.ref (q 0)] (fun U => FWH D k q wf U U.heap)) (vp_Si (fun r => r = (-2))) 0 0 (fun _ => False) := by
  refine Met.ofW (cc := cX9_dues) (maxL := 4) (ret := (some .int)) (by decide) rfl ?_
  intro p e s m args below meth c s₁ B hml hv
  obtain ⟨rfl, hF⟩ := hv
  have hx := B.exec
  have hb := B.bytes
  have hr := B.returns
  have hT : ∀ w ∈ TB, w.before ([.ref (q 0)] : List Value).toArray s = true := fun w h => atoms_spec (ws := .code yX9_dues cX9_dues 4 (some .int) :: TB) B.pre w (List.mem_cons_of_mem _ h)
  have hown : s.vm.findClass RX9 = some m.cls := findClass_of_methodNamed B.named
  have S : CallFix p m c cX9_dues 4 s _ TB RX9 := ⟨hx, hb, hml, hown, hT⟩
  have hP : va_P D vwCl [(q 0, .inr (9, [.ref (q 1), .ref (q 2), .ref (q 3), .ref (q 4), .ref (q 5), .ref (q 6), .ref (q 7), .ref (q 8), .ref (q 9), .ref (q 10), .ref (q 11)])), (q 3, .inr (8, [.ref (q 12), .ref (q 13), .int 0, .ref (q 14), .ref (q 15), .ref (q 16)])), (q 12, .inr (1, [.int 0, .int 0, .int 0, .int 0, .int 0, .int 0, .int 0, .ref (q 17), .ref (q 18), .ref (q 19), .ref (q 20), .ref (q 21), .ref (q 22), .ref (q 23)])), (q 6, .inr (4, [.ref (q 24), .ref (q 25), .ref (q 26)])), (q 24, .inl (k 0, 4, .inl wf)), (q 5, .inl (k 3, 3, .inl (fun _ => 0))), (q 1, .inr (6, [.ref (q 27), .int 0])), (q 2, .inr (2, [.ref (q 1), .ref (q 28), .int 0, .int (-1), .int 0, .int 0, .int 0, .int 0]))] s.heap := hF.1
  have hK := hF.2.1
  have hl := lv_entry ([.ref (q 0)]) (n := 4) (Nat.le_of_ble_eq_true rfl)
  rw [lg_entry_eq]
  generalize (lg_sl ([.ref (q 0)]) ++ List.replicate (4 - (lg_sl ([.ref (q 0)])).length) Slot.unset).toArray = ls at hl ⊢
  have hl : lv_has ls 4 [(0, .ref (q 0))] := hl
  refine lv_aload_n hx hb dX9_dues_0 rfl (lv_at hl 0 rfl) ?_
  refine va_get (D := D) (ci := 9) (v := .ref (q 3)) (C := RX9) (T := TX9) (N := 11) hx hb hT in_X9 hown hK hP 0 rfl rfl 2 (by decide) (hT _ t453) (fun _ h9 => h9) rfl dX9_dues_1 ?_
  refine va_get (D := D) (ci := 8) (v := .ref (q 12)) (C := RX8) (T := TX8) (N := 6) hx hb hT in_X8 hown hK hP 1 rfl rfl 0 (by decide) (hT _ t312) (fun _ h9 => h9) rfl dX9_dues_4 ?_
  refine ro_V (As := []) (rest := []) S (c_X1_isTold l D k q wf ) lkX9_211 ok_X1_isTold ⟨rfl, rfl, Nat.le_of_ble_eq_true rfl, Nat.le_of_ble_eq_true rfl⟩ (fw_V (ci := 1) (q0 := 2) hF rfl rfl) rfl hl.1 rfl (Nat.le_of_ble_eq_true rfl) ⟨Nat.zero_le _, Nat.zero_le _⟩ dX9_dues_7 (fun r_1 er_1 => ?_)
  subst er_1
  refine lv_if_ne (tgt := 16) hx hb dX9_dues_10 (by decide) (fun c_2 => ?_) (fun c_2 => ?_)
  · first | exact absurd c_2 (by decide) | exact absurd (by decide) c_2
  refine lv_bipush (v := (-2)) hx hb dX9_dues_13 (by decide) ?_
  exact W.iret (v := (-2)) hx hb hr (fun t ht hW => ⟨(-2), rfl, rfl, ht⟩) (fun _ h9 => by cases h9) dX9_dues_15
set_option maxHeartbeats 4000000 in
set_option maxRecDepth 100000 in
theorem c_X9_choose (l : Launch) (D : va_G) (k : Nat → ClassId) (q : Nat → Nat) (wf : Nat → Int32) (p0 : Int32) (p1 : Int32)  : Met l yX9_choose (.code yX9_choose cX9_choose 3 (some .int) :: TB) (rmk 2) (va_Pc [.ref (q 0), .int p0, .int p1] (fun U => FWH D k q wf U U.heap)) (vp_Si (fun r => r = (-2))) 0 0 (fun _ => False) := by
  refine Met.ofW (cc := cX9_choose) (maxL := 3) (ret := (some .int)) (by decide) rfl ?_
  intro p e s m args below meth c s₁ B hml hv
  obtain ⟨rfl, hF⟩ := hv
  have hx := B.exec
  have hb := B.bytes
  have hr := B.returns
  have hT : ∀ w ∈ TB, w.before ([.ref (q 0), .int p0, .int p1] : List Value).toArray s = true := fun w h => atoms_spec (ws := .code yX9_choose cX9_choose 3 (some .int) :: TB) B.pre w (List.mem_cons_of_mem _ h)
  have hown : s.vm.findClass RX9 = some m.cls := findClass_of_methodNamed B.named
  have S : CallFix p m c cX9_choose 3 s _ TB RX9 := ⟨hx, hb, hml, hown, hT⟩
  have hP : va_P D vwCl [(q 0, .inr (9, [.ref (q 1), .ref (q 2), .ref (q 3), .ref (q 4), .ref (q 5), .ref (q 6), .ref (q 7), .ref (q 8), .ref (q 9), .ref (q 10), .ref (q 11)])), (q 3, .inr (8, [.ref (q 12), .ref (q 13), .int 0, .ref (q 14), .ref (q 15), .ref (q 16)])), (q 12, .inr (1, [.int 0, .int 0, .int 0, .int 0, .int 0, .int 0, .int 0, .ref (q 17), .ref (q 18), .ref (q 19), .ref (q 20), .ref (q 21), .ref (q 22), .ref (q 23)])), (q 6, .inr (4, [.ref (q 24), .ref (q 25), .ref (q 26)])), (q 24, .inl (k 0, 4, .inl wf)), (q 5, .inl (k 3, 3, .inl (fun _ => 0))), (q 1, .inr (6, [.ref (q 27), .int 0])), (q 2, .inr (2, [.ref (q 1), .ref (q 28), .int 0, .int (-1), .int 0, .int 0, .int 0, .int 0]))] s.heap := hF.1
  have hK := hF.2.1
  have hl := lv_entry ([.ref (q 0), .int p0, .int p1]) (n := 3) (Nat.le_of_ble_eq_true rfl)
  rw [lg_entry_eq]
  generalize (lg_sl ([.ref (q 0), .int p0, .int p1]) ++ List.replicate (3 - (lg_sl ([.ref (q 0), .int p0, .int p1])).length) Slot.unset).toArray = ls at hl ⊢
  have hl : lv_has ls 3 [(0, .ref (q 0)), (1, .int p0), (2, .int p1)] := hl
  refine lv_aload_n hx hb dX9_choose_0 rfl (lv_at hl 0 rfl) ?_
  refine va_get (D := D) (ci := 9) (v := .ref (q 3)) (C := RX9) (T := TX9) (N := 11) hx hb hT in_X9 hown hK hP 0 rfl rfl 2 (by decide) (hT _ t453) (fun _ h9 => h9) rfl dX9_choose_1 ?_
  refine va_get (D := D) (ci := 8) (v := .ref (q 12)) (C := RX8) (T := TX8) (N := 6) hx hb hT in_X8 hown hK hP 1 rfl rfl 0 (by decide) (hT _ t312) (fun _ h9 => h9) rfl dX9_choose_4 ?_
  refine lv_iload_n hx hb dX9_choose_7 rfl (lv_at hl 1 rfl) ?_
  refine ro_V (As := [.int p0]) (rest := []) S (c_X1_isCart l D k q wf p0) lkX9_147 ok_X1_isCart ⟨rfl, rfl, Nat.le_of_ble_eq_true rfl, Nat.le_of_ble_eq_true rfl⟩ (fw_V (ci := 1) (q0 := 2) hF rfl rfl) rfl hl.1 rfl (Nat.le_of_ble_eq_true rfl) ⟨Nat.zero_le _, Nat.zero_le _⟩ dX9_choose_8 (fun r_1 er_1 => ?_)
  subst er_1
  refine lv_if_eq (tgt := 28) hx hb dX9_choose_11 (by decide) (fun c_2 => ?_) (fun c_2 => ?_)
  rotate_left
  · first | exact absurd c_2 (by decide) | exact absurd (by decide) c_2
  refine lv_bipush (v := (-2)) hx hb dX9_choose_28 (by decide) ?_
  exact W.iret (v := (-2)) hx hb hr (fun t ht hW => ⟨(-2), rfl, rfl, ht⟩) (fun _ h9 => by cases h9) dX9_choose_30
set_option maxHeartbeats 4000000 in
set_option maxRecDepth 100000 in
theorem c_X9_chosen (l : Launch) (D : va_G) (k : Nat → ClassId) (q : Nat → Nat) (wf : Nat → Int32) (p0 : Int32) (p1 : Int32)  : Met l yX9_chosen (.code yX9_chosen cX9_chosen 3 (some .int) :: TB) (rmk 2) (va_Pc [.ref (q 0), .int p0, .int p1] (fun U => FWH D k q wf U U.heap)) (vp_Si (fun r => r = (-2))) 0 0 (fun _ => False) := by
  refine Met.ofW (cc := cX9_chosen) (maxL := 3) (ret := (some .int)) (by decide) rfl ?_
  intro p e s m args below meth c s₁ B hml hv
  obtain ⟨rfl, hF⟩ := hv
  have hx := B.exec
  have hb := B.bytes
  have hr := B.returns
  have hT : ∀ w ∈ TB, w.before ([.ref (q 0), .int p0, .int p1] : List Value).toArray s = true := fun w h => atoms_spec (ws := .code yX9_chosen cX9_chosen 3 (some .int) :: TB) B.pre w (List.mem_cons_of_mem _ h)
  have hown : s.vm.findClass RX9 = some m.cls := findClass_of_methodNamed B.named
  have S : CallFix p m c cX9_chosen 3 s _ TB RX9 := ⟨hx, hb, hml, hown, hT⟩
  have hP : va_P D vwCl [(q 0, .inr (9, [.ref (q 1), .ref (q 2), .ref (q 3), .ref (q 4), .ref (q 5), .ref (q 6), .ref (q 7), .ref (q 8), .ref (q 9), .ref (q 10), .ref (q 11)])), (q 3, .inr (8, [.ref (q 12), .ref (q 13), .int 0, .ref (q 14), .ref (q 15), .ref (q 16)])), (q 12, .inr (1, [.int 0, .int 0, .int 0, .int 0, .int 0, .int 0, .int 0, .ref (q 17), .ref (q 18), .ref (q 19), .ref (q 20), .ref (q 21), .ref (q 22), .ref (q 23)])), (q 6, .inr (4, [.ref (q 24), .ref (q 25), .ref (q 26)])), (q 24, .inl (k 0, 4, .inl wf)), (q 5, .inl (k 3, 3, .inl (fun _ => 0))), (q 1, .inr (6, [.ref (q 27), .int 0])), (q 2, .inr (2, [.ref (q 1), .ref (q 28), .int 0, .int (-1), .int 0, .int 0, .int 0, .int 0]))] s.heap := hF.1
  have hK := hF.2.1
  have hl := lv_entry ([.ref (q 0), .int p0, .int p1]) (n := 3) (Nat.le_of_ble_eq_true rfl)
  rw [lg_entry_eq]
  generalize (lg_sl ([.ref (q 0), .int p0, .int p1]) ++ List.replicate (3 - (lg_sl ([.ref (q 0), .int p0, .int p1])).length) Slot.unset).toArray = ls at hl ⊢
  have hl : lv_has ls 3 [(0, .ref (q 0)), (1, .int p0), (2, .int p1)] := hl
  refine lv_aload_n hx hb dX9_chosen_0 rfl (lv_at hl 0 rfl) ?_
  refine va_get (D := D) (ci := 9) (v := .ref (q 3)) (C := RX9) (T := TX9) (N := 11) hx hb hT in_X9 hown hK hP 0 rfl rfl 2 (by decide) (hT _ t453) (fun _ h9 => h9) rfl dX9_chosen_1 ?_
  refine va_get (D := D) (ci := 8) (v := .ref (q 12)) (C := RX8) (T := TX8) (N := 6) hx hb hT in_X8 hown hK hP 1 rfl rfl 0 (by decide) (hT _ t312) (fun _ h9 => h9) rfl dX9_chosen_4 ?_
  refine lv_iload_n hx hb dX9_chosen_7 rfl (lv_at hl 1 rfl) ?_
  refine ro_V (As := [.int p0]) (rest := []) S (c_X1_isCart l D k q wf p0) lkX9_147 ok_X1_isCart ⟨rfl, rfl, Nat.le_of_ble_eq_true rfl, Nat.le_of_ble_eq_true rfl⟩ (fw_V (ci := 1) (q0 := 2) hF rfl rfl) rfl hl.1 rfl (Nat.le_of_ble_eq_true rfl) ⟨Nat.zero_le _, Nat.zero_le _⟩ dX9_chosen_8 (fun r_1 er_1 => ?_)
  subst er_1
  refine lv_if_eq (tgt := 28) hx hb dX9_chosen_11 (by decide) (fun c_2 => ?_) (fun c_2 => ?_)
  rotate_left
  · first | exact absurd c_2 (by decide) | exact absurd (by decide) c_2
  refine lv_bipush (v := (-2)) hx hb dX9_chosen_28 (by decide) ?_
  exact W.iret (v := (-2)) hx hb hr (fun t ht hW => ⟨(-2), rfl, rfl, ht⟩) (fun _ h9 => by cases h9) dX9_chosen_30
set_option maxHeartbeats 4000000 in
set_option maxRecDepth 100000 in
theorem c_X9_roams (l : Launch) (D : va_G) (k : Nat → ClassId) (q : Nat → Nat) (wf : Nat → Int32) (p0 : Int32) (p1 : Int32)  : Met l yX9_roams (.code yX9_roams cX9_roams 4 (some .int) :: TB) (rmk 2) (va_Pc [.ref (q 0), .int p0, .int p1] (fun U => FWH D k q wf U U.heap)) (vp_Si (fun r => r = (-2))) 0 0 (fun _ => False) := by
  refine Met.ofW (cc := cX9_roams) (maxL := 4) (ret := (some .int)) (by decide) rfl ?_
  intro p e s m args below meth c s₁ B hml hv
  obtain ⟨rfl, hF⟩ := hv
  have hx := B.exec
  have hb := B.bytes
  have hr := B.returns
  have hT : ∀ w ∈ TB, w.before ([.ref (q 0), .int p0, .int p1] : List Value).toArray s = true := fun w h => atoms_spec (ws := .code yX9_roams cX9_roams 4 (some .int) :: TB) B.pre w (List.mem_cons_of_mem _ h)
  have hown : s.vm.findClass RX9 = some m.cls := findClass_of_methodNamed B.named
  have S : CallFix p m c cX9_roams 4 s _ TB RX9 := ⟨hx, hb, hml, hown, hT⟩
  have hP : va_P D vwCl [(q 0, .inr (9, [.ref (q 1), .ref (q 2), .ref (q 3), .ref (q 4), .ref (q 5), .ref (q 6), .ref (q 7), .ref (q 8), .ref (q 9), .ref (q 10), .ref (q 11)])), (q 3, .inr (8, [.ref (q 12), .ref (q 13), .int 0, .ref (q 14), .ref (q 15), .ref (q 16)])), (q 12, .inr (1, [.int 0, .int 0, .int 0, .int 0, .int 0, .int 0, .int 0, .ref (q 17), .ref (q 18), .ref (q 19), .ref (q 20), .ref (q 21), .ref (q 22), .ref (q 23)])), (q 6, .inr (4, [.ref (q 24), .ref (q 25), .ref (q 26)])), (q 24, .inl (k 0, 4, .inl wf)), (q 5, .inl (k 3, 3, .inl (fun _ => 0))), (q 1, .inr (6, [.ref (q 27), .int 0])), (q 2, .inr (2, [.ref (q 1), .ref (q 28), .int 0, .int (-1), .int 0, .int 0, .int 0, .int 0]))] s.heap := hF.1
  have hK := hF.2.1
  have hl := lv_entry ([.ref (q 0), .int p0, .int p1]) (n := 4) (Nat.le_of_ble_eq_true rfl)
  rw [lg_entry_eq]
  generalize (lg_sl ([.ref (q 0), .int p0, .int p1]) ++ List.replicate (4 - (lg_sl ([.ref (q 0), .int p0, .int p1])).length) Slot.unset).toArray = ls at hl ⊢
  have hl : lv_has ls 4 [(0, .ref (q 0)), (1, .int p0), (2, .int p1)] := hl
  refine lv_aload_n hx hb dX9_roams_0 rfl (lv_at hl 0 rfl) ?_
  refine va_get (D := D) (ci := 9) (v := .ref (q 3)) (C := RX9) (T := TX9) (N := 11) hx hb hT in_X9 hown hK hP 0 rfl rfl 2 (by decide) (hT _ t453) (fun _ h9 => h9) rfl dX9_roams_1 ?_
  refine va_get (D := D) (ci := 8) (v := .ref (q 12)) (C := RX8) (T := TX8) (N := 6) hx hb hT in_X8 hown hK hP 1 rfl rfl 0 (by decide) (hT _ t312) (fun _ h9 => h9) rfl dX9_roams_4 ?_
  refine lv_iload_n hx hb dX9_roams_7 rfl (lv_at hl 1 rfl) ?_
  refine ro_V (As := [.int p0]) (rest := []) S (c_X1_isCart l D k q wf p0) lkX9_147 ok_X1_isCart ⟨rfl, rfl, Nat.le_of_ble_eq_true rfl, Nat.le_of_ble_eq_true rfl⟩ (fw_V (ci := 1) (q0 := 2) hF rfl rfl) rfl hl.1 rfl (Nat.le_of_ble_eq_true rfl) ⟨Nat.zero_le _, Nat.zero_le _⟩ dX9_roams_8 (fun r_1 er_1 => ?_)
  subst er_1
  refine lv_if_eq (tgt := 24) hx hb dX9_roams_11 (by decide) (fun c_2 => ?_) (fun c_2 => ?_)
  rotate_left
  · first | exact absurd c_2 (by decide) | exact absurd (by decide) c_2
  refine lv_bipush (v := (-2)) hx hb dX9_roams_24 (by decide) ?_
  exact W.iret (v := (-2)) hx hb hr (fun t ht hW => ⟨(-2), rfl, rfl, ht⟩) (fun _ h9 => by cases h9) dX9_roams_26
set_option maxHeartbeats 4000000 in
set_option maxRecDepth 100000 in
theorem c_X9_circle (l : Launch) (D : va_G) (k : Nat → ClassId) (q : Nat → Nat) (wf : Nat → Int32) (p0 : Int32)  : Met l yX9_circle (.code yX9_circle cX9_circle 5 (some .int) :: TB) (rmk 2) (va_Pc [.ref (q 0), .int p0] (fun U => FWH D k q wf U U.heap)) (vp_Si (fun r => r = (-2))) 0 0 (fun _ => False) := by
  refine Met.ofW (cc := cX9_circle) (maxL := 5) (ret := (some .int)) (by decide) rfl ?_
  intro p e s m args below meth c s₁ B hml hv
  obtain ⟨rfl, hF⟩ := hv
  have hx := B.exec
  have hb := B.bytes
  have hr := B.returns
  have hT : ∀ w ∈ TB, w.before ([.ref (q 0), .int p0] : List Value).toArray s = true := fun w h => atoms_spec (ws := .code yX9_circle cX9_circle 5 (some .int) :: TB) B.pre w (List.mem_cons_of_mem _ h)
  have hown : s.vm.findClass RX9 = some m.cls := findClass_of_methodNamed B.named
  have S : CallFix p m c cX9_circle 5 s _ TB RX9 := ⟨hx, hb, hml, hown, hT⟩
  have hP : va_P D vwCl [(q 0, .inr (9, [.ref (q 1), .ref (q 2), .ref (q 3), .ref (q 4), .ref (q 5), .ref (q 6), .ref (q 7), .ref (q 8), .ref (q 9), .ref (q 10), .ref (q 11)])), (q 3, .inr (8, [.ref (q 12), .ref (q 13), .int 0, .ref (q 14), .ref (q 15), .ref (q 16)])), (q 12, .inr (1, [.int 0, .int 0, .int 0, .int 0, .int 0, .int 0, .int 0, .ref (q 17), .ref (q 18), .ref (q 19), .ref (q 20), .ref (q 21), .ref (q 22), .ref (q 23)])), (q 6, .inr (4, [.ref (q 24), .ref (q 25), .ref (q 26)])), (q 24, .inl (k 0, 4, .inl wf)), (q 5, .inl (k 3, 3, .inl (fun _ => 0))), (q 1, .inr (6, [.ref (q 27), .int 0])), (q 2, .inr (2, [.ref (q 1), .ref (q 28), .int 0, .int (-1), .int 0, .int 0, .int 0, .int 0]))] s.heap := hF.1
  have hK := hF.2.1
  have hl := lv_entry ([.ref (q 0), .int p0]) (n := 5) (Nat.le_of_ble_eq_true rfl)
  rw [lg_entry_eq]
  generalize (lg_sl ([.ref (q 0), .int p0]) ++ List.replicate (5 - (lg_sl ([.ref (q 0), .int p0])).length) Slot.unset).toArray = ls at hl ⊢
  have hl : lv_has ls 5 [(0, .ref (q 0)), (1, .int p0)] := hl
  refine lv_aload_n hx hb dX9_circle_0 rfl (lv_at hl 0 rfl) ?_
  refine va_get (D := D) (ci := 9) (v := .ref (q 3)) (C := RX9) (T := TX9) (N := 11) hx hb hT in_X9 hown hK hP 0 rfl rfl 2 (by decide) (hT _ t453) (fun _ h9 => h9) rfl dX9_circle_1 ?_
  refine va_get (D := D) (ci := 8) (v := .ref (q 12)) (C := RX8) (T := TX8) (N := 6) hx hb hT in_X8 hown hK hP 1 rfl rfl 0 (by decide) (hT _ t312) (fun _ h9 => h9) rfl dX9_circle_4 ?_
  refine lv_iload_n hx hb dX9_circle_7 rfl (lv_at hl 1 rfl) ?_
  refine ro_V (As := [.int p0]) (rest := []) S (c_X1_isCart l D k q wf p0) lkX9_147 ok_X1_isCart ⟨rfl, rfl, Nat.le_of_ble_eq_true rfl, Nat.le_of_ble_eq_true rfl⟩ (fw_V (ci := 1) (q0 := 2) hF rfl rfl) rfl hl.1 rfl (Nat.le_of_ble_eq_true rfl) ⟨Nat.zero_le _, Nat.zero_le _⟩ dX9_circle_8 (fun r_1 er_1 => ?_)
  subst er_1
  refine lv_if_ne (tgt := 17) hx hb dX9_circle_11 (by decide) (fun c_2 => ?_) (fun c_2 => ?_)
  · first | exact absurd c_2 (by decide) | exact absurd (by decide) c_2
  refine lv_bipush (v := (-2)) hx hb dX9_circle_14 (by decide) ?_
  exact W.iret (v := (-2)) hx hb hr (fun t ht hW => ⟨(-2), rfl, rfl, ht⟩) (fun _ h9 => by cases h9) dX9_circle_16
