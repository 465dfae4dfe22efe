set_option maxHeartbeats 4000000 in
set_option maxRecDepth 100000 in
theorem m_l1 {p : Program} {l : Launch} {e : Env} {R : Room} {s : State} {m : MethodId} {args : Array Value} {below : List Frame} {meth : Method} {c : Code} {cells slots : Nat} {Q : State → Prop} {D : va_G} {k : Nat → ClassId} {A : Nat → Prop} {H0 : Heap} {x0 x1 x2 x3 x4 x5 x6 x7 x8 x9 x10 x11 x12 x13 x14 x15 x16 x17 x18 x19 x20 x21 : Nat} {gw : Nat → Int32} (hx : p.tables.exec = Jvm.exec) (hb : c.code = cX10_land) (hT : ∀ w ∈ TB, w.before args s = true) (hown : s.vm.findClass RX10 = some m.cls) (hK : va_K D vwCl (KT k) s)
    (hend : ∀ (H : Heap) (locs : List Loc) (g : Nat → Int32) (ls : Array Slot), va_P D vwCl [(x0, .inr (10, [.int 0, .ref x1, .ref x2, .ref x3, .ref x4, .int 0, .ref x5, .int 0, .int 0, .int 0, .int 0, .int 0, .int 0, .int (-1), .ref x6, .ref x7, .ref x8, .ref x9, .ref x10, .ref x11, .int 0, .int 0, .int 0, .ref x12, .ref x13, .ref x14, .int 0, .int 0, .ref x15, .int 0, .ref x16, .int 0, .ref x17, .int 0, .ref x18, .ref x19, .ref x20, .ref x21])), (x6, .inl (k 0, 168, .inl g)), (x1, .inl (k 0, 168, .inl gw))] H → va_D A [(x0, .inr (10, [.int 0, .ref x1, .ref x2, .ref x3, .ref x4, .int 0, .ref x5, .int 0, .int 0, .int 0, .int 0, .int 0, .int 0, .int (-1), .ref x6, .ref x7, .ref x8, .ref x9, .ref x10, .ref x11, .int 0, .int 0, .int 0, .ref x12, .ref x13, .ref x14, .int 0, .int 0, .ref x15, .int 0, .ref x16, .int 0, .ref x17, .int 0, .ref x18, .ref x19, .ref x20, .ref x21])), (x6, .inl (k 0, 168, .inl g)), (x1, .inl (k 0, 168, .inl gw))] → va_S A H0 H locs → (∀ j, j < 168 → g j = 0) → lv_has ls 2 [(1, .int (nI 168)), (0, .ref x0)] → W p l e R s m args below meth c H locs cells slots Q (F0 m 50 ls [])) :
    ∀ (n i : Nat), i ≤ 168 → 168 - i < n → ∀ (H : Heap) (locs : List Loc) (g : Nat → Int32) (ls : Array Slot), va_P D vwCl [(x0, .inr (10, [.int 0, .ref x1, .ref x2, .ref x3, .ref x4, .int 0, .ref x5, .int 0, .int 0, .int 0, .int 0, .int 0, .int 0, .int (-1), .ref x6, .ref x7, .ref x8, .ref x9, .ref x10, .ref x11, .int 0, .int 0, .int 0, .ref x12, .ref x13, .ref x14, .int 0, .int 0, .ref x15, .int 0, .ref x16, .int 0, .ref x17, .int 0, .ref x18, .ref x19, .ref x20, .ref x21])), (x6, .inl (k 0, 168, .inl g)), (x1, .inl (k 0, 168, .inl gw))] H → va_D A [(x0, .inr (10, [.int 0, .ref x1, .ref x2, .ref x3, .ref x4, .int 0, .ref x5, .int 0, .int 0, .int 0, .int 0, .int 0, .int 0, .int (-1), .ref x6, .ref x7, .ref x8, .ref x9, .ref x10, .ref x11, .int 0, .int 0, .int 0, .ref x12, .ref x13, .ref x14, .int 0, .int 0, .ref x15, .int 0, .ref x16, .int 0, .ref x17, .int 0, .ref x18, .ref x19, .ref x20, .ref x21])), (x6, .inl (k 0, 168, .inl g)), (x1, .inl (k 0, 168, .inl gw))] → va_S A H0 H locs → (∀ j, j < i → g j = 0) → lv_has ls 2 [(1, .int (nI i)), (0, .ref x0)] → W p l e R s m args below meth c H locs cells slots Q (F0 m 30 ls []) := by
  intro n
  induction n with
  | zero => intro i _ h; omega
  | succ n ih =>
    intro i hi hn H locs g ls hP hD hS hg hl
    refine lv_iload_n hx hb dX10_land_30 rfl (lv_at hl 0 rfl) ?_
    refine lv_sipush (v := nI 168) hx hb dX10_land_31 (by decide) ?_
    refine lv_icmp_ge (tgt := 50) hx hb dX10_land_34 (by decide) (fun c1 => ?_) (fun c1 => ?_)
    · have hiN : i = 168 := by
        rcases Nat.lt_or_ge i 168 with q | q
        · exact absurd c1 (nI_ge q (by decide))
        · omega
      subst hiN
      exact hend H locs g ls hP hD hS hg hl
    · have hlt : i < 168 := by
        rcases Nat.lt_or_ge i 168 with q | q
        · exact q
        · exact absurd (nI_le q (by omega)) c1
      have ei : (nI i).toNatClampNeg = i := nI_clamp (by omega)
      refine lv_aload_n hx hb dX10_land_37 rfl (lv_at hl 1 rfl) ?_
      refine va_get (D := D) (ci := 10) (v := .ref x6) (C := RX10) (T := TX10) (N := 38) hx hb hT in_X10 hown hK hP 0 rfl rfl 14 (by decide) (hT _ t1276) (fun _ h9 => h9) rfl dX10_land_38 ?_
      refine lv_iload_n hx hb dX10_land_41 rfl (lv_at hl 0 rfl) ?_
      refine lv_iconst (v := 0) hx hb dX10_land_42 (by decide) ?_
      refine va_iast hx hb hK hP hD hS 1 0 rfl rfl (vp_in_nI hlt (by decide)) dX10_land_43 (fun H locs hP hD hS => ?_)
      rw [ei] at hP hD
      have hP : va_P D vwCl [(x0, .inr (10, [.int 0, .ref x1, .ref x2, .ref x3, .ref x4, .int 0, .ref x5, .int 0, .int 0, .int 0, .int 0, .int 0, .int 0, .int (-1), .ref x6, .ref x7, .ref x8, .ref x9, .ref x10, .ref x11, .int 0, .int 0, .int 0, .ref x12, .ref x13, .ref x14, .int 0, .int 0, .ref x15, .int 0, .ref x16, .int 0, .ref x17, .int 0, .ref x18, .ref x19, .ref x20, .ref x21])), (x6, .inl (k 0, 168, .inl (upd g i 0))), (x1, .inl (k 0, 168, .inl gw))] H := hP
      have hD : va_D A [(x0, .inr (10, [.int 0, .ref x1, .ref x2, .ref x3, .ref x4, .int 0, .ref x5, .int 0, .int 0, .int 0, .int 0, .int 0, .int 0, .int (-1), .ref x6, .ref x7, .ref x8, .ref x9, .ref x10, .ref x11, .int 0, .int 0, .int 0, .ref x12, .ref x13, .ref x14, .int 0, .int 0, .ref x15, .int 0, .ref x16, .int 0, .ref x17, .int 0, .ref x18, .ref x19, .ref x20, .ref x21])), (x6, .inl (k 0, 168, .inl (upd g i 0))), (x1, .inl (k 0, 168, .inl gw))] := hD
      refine lv_iinc (v := nI (i + 1)) (lv' := [(1, .int (nI (i + 1))), (0, .ref x0)]) hx hb dX10_land_44 hl (k := 0) rfl (nI_1 i) (by decide) rfl (fun ls hl => ?_)
      refine lv_goto (tgt := 30) hx hb dX10_land_47 (by decide) ?_
      exact ih (i + 1) hlt (by omega) H locs (upd g i 0) ls hP hD hS (fun j hj => by
        by_cases h : j = i
        · subst h; simp [upd]
        · simp [upd, h, hg j (by omega)]) hl

set_option maxHeartbeats 4000000 in
set_option maxRecDepth 100000 in
theorem m_l2 {p : Program} {l : Launch} {e : Env} {R : Room} {s : State} {m : MethodId} {args : Array Value} {below : List Frame} {meth : Method} {c : Code} {cells slots : Nat} {Q : State → Prop} {D : va_G} {k : Nat → ClassId} {A : Nat → Prop} {H0 : Heap} {x0 x1 x2 x3 x4 x5 x6 x7 x8 x9 x10 x11 x12 x13 x14 x15 x16 x17 x18 x19 x20 x21 : Nat} {gf : Nat → Int32} (hf : ∀ j, j < 168 → gf j = 0) (hx : p.tables.exec = Jvm.exec) (hb : c.code = cX10_land) (hT : ∀ w ∈ TB, w.before args s = true) (hown : s.vm.findClass RX10 = some m.cls) (hK : va_K D vwCl (KT k) s)
    (hend : ∀ (H : Heap) (locs : List Loc) (g : Nat → Int32) (ls : Array Slot), va_P D vwCl [(x0, .inr (10, [.int 0, .ref x1, .ref x2, .ref x3, .ref x4, .int 0, .ref x5, .int 0, .int 0, .int 0, .int 0, .int 0, .int 0, .int (-1), .ref x6, .ref x7, .ref x8, .ref x9, .ref x10, .ref x11, .int 0, .int 0, .int 0, .ref x12, .ref x13, .ref x14, .int 0, .int 0, .ref x15, .int 0, .ref x16, .int 0, .ref x17, .int 0, .ref x18, .ref x19, .ref x20, .ref x21])), (x6, .inl (k 0, 168, .inl gf)), (x1, .inl (k 0, 168, .inl g))] H → va_D A [(x0, .inr (10, [.int 0, .ref x1, .ref x2, .ref x3, .ref x4, .int 0, .ref x5, .int 0, .int 0, .int 0, .int 0, .int 0, .int 0, .int (-1), .ref x6, .ref x7, .ref x8, .ref x9, .ref x10, .ref x11, .int 0, .int 0, .int 0, .ref x12, .ref x13, .ref x14, .int 0, .int 0, .ref x15, .int 0, .ref x16, .int 0, .ref x17, .int 0, .ref x18, .ref x19, .ref x20, .ref x21])), (x6, .inl (k 0, 168, .inl gf)), (x1, .inl (k 0, 168, .inl g))] → va_S A H0 H locs → (∀ j, j < 168 → g j = 0) → lv_has ls 2 [(1, .int (nI 168)), (0, .ref x0)] → W p l e R s m args below meth c H locs cells slots Q (F0 m 112 ls [])) :
    ∀ (n i : Nat), i ≤ 168 → 168 - i < n → ∀ (H : Heap) (locs : List Loc) (g : Nat → Int32) (ls : Array Slot), va_P D vwCl [(x0, .inr (10, [.int 0, .ref x1, .ref x2, .ref x3, .ref x4, .int 0, .ref x5, .int 0, .int 0, .int 0, .int 0, .int 0, .int 0, .int (-1), .ref x6, .ref x7, .ref x8, .ref x9, .ref x10, .ref x11, .int 0, .int 0, .int 0, .ref x12, .ref x13, .ref x14, .int 0, .int 0, .ref x15, .int 0, .ref x16, .int 0, .ref x17, .int 0, .ref x18, .ref x19, .ref x20, .ref x21])), (x6, .inl (k 0, 168, .inl gf)), (x1, .inl (k 0, 168, .inl g))] H → va_D A [(x0, .inr (10, [.int 0, .ref x1, .ref x2, .ref x3, .ref x4, .int 0, .ref x5, .int 0, .int 0, .int 0, .int 0, .int 0, .int 0, .int (-1), .ref x6, .ref x7, .ref x8, .ref x9, .ref x10, .ref x11, .int 0, .int 0, .int 0, .ref x12, .ref x13, .ref x14, .int 0, .int 0, .ref x15, .int 0, .ref x16, .int 0, .ref x17, .int 0, .ref x18, .ref x19, .ref x20, .ref x21])), (x6, .inl (k 0, 168, .inl gf)), (x1, .inl (k 0, 168, .inl g))] → va_S A H0 H locs → (∀ j, j < i → g j = 0) → lv_has ls 2 [(1, .int (nI i)), (0, .ref x0)] → W p l e R s m args below meth c H locs cells slots Q (F0 m 87 ls []) := by
  intro n
  induction n with
  | zero => intro i _ h; omega
  | succ n ih =>
    intro i hi hn H locs g ls hP hD hS hg hl
    refine lv_iload_n hx hb dX10_land_87 rfl (lv_at hl 0 rfl) ?_
    refine lv_sipush (v := nI 168) hx hb dX10_land_88 (by decide) ?_
    refine lv_icmp_ge (tgt := 112) hx hb dX10_land_91 (by decide) (fun c1 => ?_) (fun c1 => ?_)
    · have hiN : i = 168 := by
        rcases Nat.lt_or_ge i 168 with q | q
        · exact absurd c1 (nI_ge q (by decide))
        · omega
      subst hiN
      exact hend H locs g ls hP hD hS hg hl
    · have hlt : i < 168 := by
        rcases Nat.lt_or_ge i 168 with q | q
        · exact q
        · exact absurd (nI_le q (by omega)) c1
      have ei : (nI i).toNatClampNeg = i := nI_clamp (by omega)
      refine lv_aload_n hx hb dX10_land_94 rfl (lv_at hl 1 rfl) ?_
      refine va_get (D := D) (ci := 10) (v := .ref x1) (C := RX10) (T := TX10) (N := 38) hx hb hT in_X10 hown hK hP 0 rfl rfl 1 (by decide) (hT _ t1263) (fun _ h9 => h9) rfl dX10_land_95 ?_
      refine lv_iload_n hx hb dX10_land_98 rfl (lv_at hl 0 rfl) ?_
      refine lv_aload_n hx hb dX10_land_99 rfl (lv_at hl 1 rfl) ?_
      refine va_get (D := D) (ci := 10) (v := .ref x6) (C := RX10) (T := TX10) (N := 38) hx hb hT in_X10 hown hK hP 0 rfl rfl 14 (by decide) (hT _ t1276) (fun _ h9 => h9) rfl dX10_land_100 ?_
      refine lv_iload_n hx hb dX10_land_103 rfl (lv_at hl 0 rfl) ?_
      refine va_iald hx hb hK hP 1 0 rfl rfl (vp_in_nI hlt (by decide)) dX10_land_104 ?_
      refine k_top (y := 0) (by rw [ei]; exact hf i hlt) ?_
      refine va_iast hx hb hK hP hD hS 2 0 rfl rfl (vp_in_nI hlt (by decide)) dX10_land_105 (fun H locs hP hD hS => ?_)
      rw [ei] at hP hD
      have hP : va_P D vwCl [(x0, .inr (10, [.int 0, .ref x1, .ref x2, .ref x3, .ref x4, .int 0, .ref x5, .int 0, .int 0, .int 0, .int 0, .int 0, .int 0, .int (-1), .ref x6, .ref x7, .ref x8, .ref x9, .ref x10, .ref x11, .int 0, .int 0, .int 0, .ref x12, .ref x13, .ref x14, .int 0, .int 0, .ref x15, .int 0, .ref x16, .int 0, .ref x17, .int 0, .ref x18, .ref x19, .ref x20, .ref x21])), (x6, .inl (k 0, 168, .inl gf)), (x1, .inl (k 0, 168, .inl (upd g i 0)))] H := hP
      have hD : va_D A [(x0, .inr (10, [.int 0, .ref x1, .ref x2, .ref x3, .ref x4, .int 0, .ref x5, .int 0, .int 0, .int 0, .int 0, .int 0, .int 0, .int (-1), .ref x6, .ref x7, .ref x8, .ref x9, .ref x10, .ref x11, .int 0, .int 0, .int 0, .ref x12, .ref x13, .ref x14, .int 0, .int 0, .ref x15, .int 0, .ref x16, .int 0, .ref x17, .int 0, .ref x18, .ref x19, .ref x20, .ref x21])), (x6, .inl (k 0, 168, .inl gf)), (x1, .inl (k 0, 168, .inl (upd g i 0)))] := hD
      refine lv_iinc (v := nI (i + 1)) (lv' := [(1, .int (nI (i + 1))), (0, .ref x0)]) hx hb dX10_land_106 hl (k := 0) rfl (nI_1 i) (by decide) rfl (fun ls hl => ?_)
      refine lv_goto (tgt := 87) hx hb dX10_land_109 (by decide) ?_
      exact ih (i + 1) hlt (by omega) H locs (upd g i 0) ls hP hD hS (fun j hj => by
        by_cases h : j = i
        · subst h; simp [upd]
        · simp [upd, h, hg j (by omega)]) hl

set_option maxHeartbeats 4000000 in
set_option maxRecDepth 100000 in
theorem c_X10_seeP (l : Launch) (D : va_G) (k : Nat → ClassId) (x0 x1 x2 x3 x4 x5 x6 x7 x8 x9 x10 x11 x12 x13 x14 x15 x16 x17 x18 x19 x20 x21 : Nat) (sz : Nat) : Met l yX10_see (.code yX10_see cX10_see 2 (some .int) :: TB) (rmk 1) (va_Pc [.ref x0, .int 0] (PW D k sz [(x0, .inr (10, [.int 0, .ref x1, .ref x2, .ref x3, .ref x4, .int 0, .ref x5, .int 0, .int 0, .int 0, .int 0, .int 0, .int 0, .int (-1), .ref x6, .ref x7, .ref x8, .ref x9, .ref x10, .ref x11, .int 0, .int 0, .int 0, .ref x12, .ref x13, .ref x14, .int 0, .int 0, .ref x15, .int 0, .ref x16, .int 0, .ref x17, .int 0, .ref x18, .ref x19, .ref x20, .ref x21]))])) (vp_Si (fun r => r = (-1))) 0 0 (fun _ => False) := by
  refine Met.ofW (cc := cX10_see) (maxL := 2) (ret := (some .int)) (by decide) rfl ?_
  intro p e s m args below meth c s₁ B hml hv
  obtain ⟨rfl, hsz, hP, hK, hD0, hN⟩ := hv
  have hx := B.exec
  have hb := B.bytes
  have hr := B.returns
  have hT : ∀ w ∈ TB, w.before ([.ref x0, .int 0] : List Value).toArray s = true := fun w h => atoms_spec (ws := .code yX10_see cX10_see 2 (some .int) :: TB) B.pre w (List.mem_cons_of_mem _ h)
  have hown : s.vm.findClass RX10 = some m.cls := findClass_of_methodNamed B.named
  have S : CallFix p m c cX10_see 2 s _ TB RX10 := ⟨hx, hb, hml, hown, hT⟩
  subst hsz
  have hD := hD0.self (sz := s.heap.size)
  have hP : va_P D vwCl [(x0, .inr (10, [.int 0, .ref x1, .ref x2, .ref x3, .ref x4, .int 0, .ref x5, .int 0, .int 0, .int 0, .int 0, .int 0, .int 0, .int (-1), .ref x6, .ref x7, .ref x8, .ref x9, .ref x10, .ref x11, .int 0, .int 0, .int 0, .ref x12, .ref x13, .ref x14, .int 0, .int 0, .ref x15, .int 0, .ref x16, .int 0, .ref x17, .int 0, .ref x18, .ref x19, .ref x20, .ref x21]))] s.heap := hP
  have hl := lv_entry ([.ref x0, .int 0]) (n := 2) (Nat.le_of_ble_eq_true rfl)
  rw [lg_entry_eq]
  generalize (lg_sl ([.ref x0, .int 0]) ++ List.replicate (2 - (lg_sl ([.ref x0, .int 0])).length) Slot.unset).toArray = ls at hl ⊢
  have hl : lv_has ls 2 [(0, .ref x0), (1, .int 0)] := hl
  refine lv_iload_n hx hb dX10_see_0 rfl (lv_at hl 1 rfl) ?_
  refine lv_aload_n hx hb dX10_see_1 rfl (lv_at hl 0 rfl) ?_
  refine va_get (D := D) (ci := 10) (v := .int 0) (C := RX10) (T := TX10) (N := 38) hx hb hT in_X10 hown hK hP 0 rfl rfl 7 (by decide) (hT _ t1269) (fun _ h9 => h9) rfl dX10_see_2 ?_
  refine lv_icmp_ge (tgt := 21) hx hb dX10_see_5 (by decide) (fun c_1 => ?_) (fun c_1 => ?_)
  rotate_left
  · first | exact absurd c_1 (by decide) | exact absurd (by decide) c_1
  refine lv_iconst (v := (-1)) hx hb dX10_see_21 (by decide) ?_
  exact W.iret (v := (-1)) hx hb hr (fun t ht hW => ⟨(-1), rfl, rfl, ht⟩) (fun _ h9 => by cases h9) dX10_see_22
set_option maxHeartbeats 4000000 in
set_option maxRecDepth 100000 in
theorem c_X10_goodP (l : Launch) (D : va_G) (k : Nat → ClassId) (x0 x1 x2 x3 x4 x5 x6 x7 x8 x9 x10 x11 x12 x13 x14 x15 x16 x17 x18 x19 x20 x21 : Nat) (sz : Nat) : Met l yX10_good (.code yX10_good cX10_good 1 (some .boolean) :: TB) (rmk 1) (va_Pc [.ref x0] (PW D k sz [(x0, .inr (10, [.int 0, .ref x1, .ref x2, .ref x3, .ref x4, .int 0, .ref x5, .int 0, .int 0, .int 0, .int 0, .int 0, .int 0, .int (-1), .ref x6, .ref x7, .ref x8, .ref x9, .ref x10, .ref x11, .int 0, .int 0, .int 0, .ref x12, .ref x13, .ref x14, .int 0, .int 0, .ref x15, .int 0, .ref x16, .int 0, .ref x17, .int 0, .ref x18, .ref x19, .ref x20, .ref x21]))])) (vp_Si (fun r => r = 1)) 0 0 (fun _ => False) := by
  refine Met.ofW (cc := cX10_good) (maxL := 1) (ret := (some .boolean)) (by decide) rfl ?_
  intro p e s m args below meth c s₁ B hml hv
  obtain ⟨rfl, hsz, hP, hK, hD0, hN⟩ := hv
  have hx := B.exec
  have hb := B.bytes
  have hr := B.returns
  have hT : ∀ w ∈ TB, w.before ([.ref x0] : List Value).toArray s = true := fun w h => atoms_spec (ws := .code yX10_good cX10_good 1 (some .boolean) :: TB) B.pre w (List.mem_cons_of_mem _ h)
  have hown : s.vm.findClass RX10 = some m.cls := findClass_of_methodNamed B.named
  have S : CallFix p m c cX10_good 1 s _ TB RX10 := ⟨hx, hb, hml, hown, hT⟩
  subst hsz
  have hD := hD0.self (sz := s.heap.size)
  have hP : va_P D vwCl [(x0, .inr (10, [.int 0, .ref x1, .ref x2, .ref x3, .ref x4, .int 0, .ref x5, .int 0, .int 0, .int 0, .int 0, .int 0, .int 0, .int (-1), .ref x6, .ref x7, .ref x8, .ref x9, .ref x10, .ref x11, .int 0, .int 0, .int 0, .ref x12, .ref x13, .ref x14, .int 0, .int 0, .ref x15, .int 0, .ref x16, .int 0, .ref x17, .int 0, .ref x18, .ref x19, .ref x20, .ref x21]))] s.heap := hP
  have hl := lv_entry ([.ref x0]) (n := 1) (Nat.le_of_ble_eq_true rfl)
  rw [lg_entry_eq]
  generalize (lg_sl ([.ref x0]) ++ List.replicate (1 - (lg_sl ([.ref x0])).length) Slot.unset).toArray = ls at hl ⊢
  have hl : lv_has ls 1 [(0, .ref x0)] := hl
  refine lv_aload_n hx hb dX10_good_0 rfl (lv_at hl 0 rfl) ?_
  refine va_get (D := D) (ci := 10) (v := .int 0) (C := RX10) (T := TX10) (N := 38) hx hb hT in_X10 hown hK hP 0 rfl rfl 12 (by decide) (hT _ t1274) (fun _ h9 => h9) rfl dX10_good_1 ?_
  refine lv_if_ne (tgt := 11) hx hb dX10_good_4 (by decide) (fun c_1 => ?_) (fun c_1 => ?_)
  · first | exact absurd c_1 (by decide) | exact absurd (by decide) c_1
  refine lv_iconst (v := 1) hx hb dX10_good_7 (by decide) ?_
  refine lv_goto (tgt := 12) hx hb dX10_good_8 (by decide) ?_
  exact W.zret (v := 1) (ty := .boolean) hx hb hr rfl (fun t ht hW => ⟨1, rfl, rfl, ht⟩) (fun _ h9 => by cases h9) dX10_good_12
set_option maxHeartbeats 4000000 in
set_option maxRecDepth 100000 in
theorem c_X10_advanceW (l : Launch) (D : va_G) (k : Nat → ClassId) (x0 x1 x2 x3 x4 x5 x6 x7 x8 x9 x10 x11 x12 x13 x14 x15 x16 x17 x18 x19 x20 x21 : Nat) (sz : Nat) : Met l yX10_advance (.code yX10_advance cX10_advance 2 none :: TB) (rmw 2 0 0) (va_Pc [.ref x0] (PW D k sz [(x0, .inr (10, [.int 0, .ref x1, .ref x2, .ref x3, .ref x4, .int 0, .ref x5, .int 0, .int 0, .int 0, .int 0, .int 0, .int 0, .int (-1), .ref x6, .ref x7, .ref x8, .ref x9, .ref x10, .ref x11, .int 0, .int 0, .int 0, .ref x12, .ref x13, .ref x14, .int 0, .int 0, .ref x15, .int 0, .ref x16, .int 0, .ref x17, .int 0, .ref x18, .ref x19, .ref x20, .ref x21]))])) (QV D (S := UT) (fun u => True) (fun u => [(x0, .inr (10, [.int 0, .ref x1, .ref x2, .ref x3, .ref x4, .int 0, .ref x5, .int 0, .int 0, .int 0, .int 0, .int 0, .int 0, .int (-1), .ref x6, .ref x7, .ref x8, .ref x9, .ref x10, .ref x11, .int 0, .int 0, .int 0, .ref x12, .ref x13, .ref x14, .int 0, .int 0, .ref x15, .int 0, .ref x16, .int 0, .ref x17, .int 0, .ref x18, .ref x19, .ref x20, .ref x21]))]) (fun _ => []) [(x0, .inr (10, [.int 0, .ref x1, .ref x2, .ref x3, .ref x4, .int 0, .ref x5, .int 0, .int 0, .int 0, .int 0, .int 0, .int 0, .int (-1), .ref x6, .ref x7, .ref x8, .ref x9, .ref x10, .ref x11, .int 0, .int 0, .int 0, .ref x12, .ref x13, .ref x14, .int 0, .int 0, .ref x15, .int 0, .ref x16, .int 0, .ref x17, .int 0, .ref x18, .ref x19, .ref x20, .ref x21]))] sz) 0 0 (va_A [(x0, .inr (10, [.int 0, .ref x1, .ref x2, .ref x3, .ref x4, .int 0, .ref x5, .int 0, .int 0, .int 0, .int 0, .int 0, .int 0, .int (-1), .ref x6, .ref x7, .ref x8, .ref x9, .ref x10, .ref x11, .int 0, .int 0, .int 0, .ref x12, .ref x13, .ref x14, .int 0, .int 0, .ref x15, .int 0, .ref x16, .int 0, .ref x17, .int 0, .ref x18, .ref x19, .ref x20, .ref x21]))] sz) := by
  refine Met.ofW (cc := cX10_advance) (maxL := 2) (ret := none) (by decide) rfl ?_
  intro p e s m args below meth c s₁ B hml hv
  obtain ⟨rfl, hsz, hP, hK, hD0, hN⟩ := hv
  have hx := B.exec
  have hb := B.bytes
  have hr := B.returns
  have hT : ∀ w ∈ TB, w.before ([.ref x0] : List Value).toArray s = true := fun w h => atoms_spec (ws := .code yX10_advance cX10_advance 2 none :: TB) B.pre w (List.mem_cons_of_mem _ h)
  have hown : s.vm.findClass RX10 = some m.cls := findClass_of_methodNamed B.named
  have S : CallFix p m c cX10_advance 2 s _ TB RX10 := ⟨hx, hb, hml, hown, hT⟩
  subst hsz
  have hD := hD0.self (sz := s.heap.size)
  generalize hAe : va_A [(x0, .inr (10, [.int 0, .ref x1, .ref x2, .ref x3, .ref x4, .int 0, .ref x5, .int 0, .int 0, .int 0, .int 0, .int 0, .int 0, .int (-1), .ref x6, .ref x7, .ref x8, .ref x9, .ref x10, .ref x11, .int 0, .int 0, .int 0, .ref x12, .ref x13, .ref x14, .int 0, .int 0, .ref x15, .int 0, .ref x16, .int 0, .ref x17, .int 0, .ref x18, .ref x19, .ref x20, .ref x21]))] s.heap.size = A at hD ⊢
  have hA : ∀ q : Nat, s.heap.size ≤ q → A q := fun q h => by rw [← hAe]; exact Or.inr h
  have hS : va_S A s.heap s.heap [] := va_S.rf
  have hP : va_P D vwCl [(x0, .inr (10, [.int 0, .ref x1, .ref x2, .ref x3, .ref x4, .int 0, .ref x5, .int 0, .int 0, .int 0, .int 0, .int 0, .int 0, .int (-1), .ref x6, .ref x7, .ref x8, .ref x9, .ref x10, .ref x11, .int 0, .int 0, .int 0, .ref x12, .ref x13, .ref x14, .int 0, .int 0, .ref x15, .int 0, .ref x16, .int 0, .ref x17, .int 0, .ref x18, .ref x19, .ref x20, .ref x21]))] s.heap := hP
  have hl := lv_entry ([.ref x0]) (n := 2) (Nat.le_of_ble_eq_true rfl)
  rw [lg_entry_eq]
  generalize (lg_sl ([.ref x0]) ++ List.replicate (2 - (lg_sl ([.ref x0])).length) Slot.unset).toArray = ls at hl ⊢
  have hl : lv_has ls 2 [(0, .ref x0)] := hl
  refine lv_aload_n hx hb dX10_advance_0 rfl (lv_at hl 0 rfl) ?_
  refine lv_aload_n hx hb dX10_advance_1 rfl (lv_at hl 0 rfl) ?_
  refine va_get (D := D) (ci := 10) (v := .int 0) (C := RX10) (T := TX10) (N := 38) hx hb hT in_X10 hown hK hP 0 rfl rfl 8 (by decide) (hT _ t1270) (fun _ h9 => h9) rfl dX10_advance_2 ?_
  refine ro_V (As := [.int 0]) (rest := []) S (c_X10_seeP l D k x0 x1 x2 x3 x4 x5 x6 x7 x8 x9 x10 x11 x12 x13 x14 x15 x16 x17 x18 x19 x20 x21 _) lkX10_106 ok_X10_see ⟨rfl, rfl, Nat.le_of_ble_eq_true rfl, Nat.le_of_ble_eq_true rfl⟩ (pw_V (ci := 10) (q0 := 0) hK hN rfl rfl (hP.sub (ws' := [(x0, .inr (10, [.int 0, .ref x1, .ref x2, .ref x3, .ref x4, .int 0, .ref x5, .int 0, .int 0, .int 0, .int 0, .int 0, .int 0, .int (-1), .ref x6, .ref x7, .ref x8, .ref x9, .ref x10, .ref x11, .int 0, .int 0, .int 0, .ref x12, .ref x13, .ref x14, .int 0, .int 0, .ref x15, .int 0, .ref x16, .int 0, .ref x17, .int 0, .ref x18, .ref x19, .ref x20, .ref x21]))]) [0] rfl) ((d_sub (ws' := [(x0, .inr (10, [.int 0, .ref x1, .ref x2, .ref x3, .ref x4, .int 0, .ref x5, .int 0, .int 0, .int 0, .int 0, .int 0, .int 0, .int (-1), .ref x6, .ref x7, .ref x8, .ref x9, .ref x10, .ref x11, .int 0, .int 0, .int 0, .ref x12, .ref x13, .ref x14, .int 0, .int 0, .ref x15, .int 0, .ref x16, .int 0, .ref x17, .int 0, .ref x18, .ref x19, .ref x20, .ref x21]))]) hD [0] (by decide +kernel) rfl).weaken (fun _ _ _ _ => trivial))) rfl hl.1 rfl (Nat.le_of_ble_eq_true rfl) ⟨Nat.le_of_ble_eq_true rfl, Nat.le_of_ble_eq_true rfl⟩ dX10_advance_5 (fun r_1 er_1 => ?_)
  subst er_1
  refine lv_bipush (v := 32) hx hb dX10_advance_8 (by decide) ?_
  refine lv_icmp_eq (tgt := 26) hx hb dX10_advance_10 (by decide) (fun c_2 => ?_) (fun c_2 => ?_)
  · first | exact absurd c_2 (by decide) | exact absurd (by decide) c_2
  refine lv_aload_n hx hb dX10_advance_13 rfl (lv_at hl 0 rfl) ?_
  refine lv_aload_n hx hb dX10_advance_14 rfl (lv_at hl 0 rfl) ?_
  refine va_get (D := D) (ci := 10) (v := .int 0) (C := RX10) (T := TX10) (N := 38) hx hb hT in_X10 hown hK hP 0 rfl rfl 8 (by decide) (hT _ t1270) (fun _ h9 => h9) rfl dX10_advance_15 ?_
  refine ro_V (As := [.int 0]) (rest := []) S (c_X10_seeP l D k x0 x1 x2 x3 x4 x5 x6 x7 x8 x9 x10 x11 x12 x13 x14 x15 x16 x17 x18 x19 x20 x21 _) lkX10_106 ok_X10_see ⟨rfl, rfl, Nat.le_of_ble_eq_true rfl, Nat.le_of_ble_eq_true rfl⟩ (pw_V (ci := 10) (q0 := 0) hK hN rfl rfl (hP.sub (ws' := [(x0, .inr (10, [.int 0, .ref x1, .ref x2, .ref x3, .ref x4, .int 0, .ref x5, .int 0, .int 0, .int 0, .int 0, .int 0, .int 0, .int (-1), .ref x6, .ref x7, .ref x8, .ref x9, .ref x10, .ref x11, .int 0, .int 0, .int 0, .ref x12, .ref x13, .ref x14, .int 0, .int 0, .ref x15, .int 0, .ref x16, .int 0, .ref x17, .int 0, .ref x18, .ref x19, .ref x20, .ref x21]))]) [0] rfl) ((d_sub (ws' := [(x0, .inr (10, [.int 0, .ref x1, .ref x2, .ref x3, .ref x4, .int 0, .ref x5, .int 0, .int 0, .int 0, .int 0, .int 0, .int 0, .int (-1), .ref x6, .ref x7, .ref x8, .ref x9, .ref x10, .ref x11, .int 0, .int 0, .int 0, .ref x12, .ref x13, .ref x14, .int 0, .int 0, .ref x15, .int 0, .ref x16, .int 0, .ref x17, .int 0, .ref x18, .ref x19, .ref x20, .ref x21]))]) hD [0] (by decide +kernel) rfl).weaken (fun _ _ _ _ => trivial))) rfl hl.1 rfl (Nat.le_of_ble_eq_true rfl) ⟨Nat.le_of_ble_eq_true rfl, Nat.le_of_ble_eq_true rfl⟩ dX10_advance_18 (fun r_3 er_3 => ?_)
  subst er_3
  refine lv_bipush (v := 10) hx hb dX10_advance_21 (by decide) ?_
  refine lv_icmp_ne (tgt := 39) hx hb dX10_advance_23 (by decide) (fun c_4 => ?_) (fun c_4 => ?_)
  rotate_left
  · first | exact absurd c_4 (by decide) | exact absurd (by decide) c_4
  refine lv_aload_n hx hb dX10_advance_39 rfl (lv_at hl 0 rfl) ?_
  refine lv_aload_n hx hb dX10_advance_40 rfl (lv_at hl 0 rfl) ?_
  refine va_get (D := D) (ci := 10) (v := .int 0) (C := RX10) (T := TX10) (N := 38) hx hb hT in_X10 hown hK hP 0 rfl rfl 8 (by decide) (hT _ t1270) (fun _ h9 => h9) rfl dX10_advance_41 ?_
  refine va_put (D := D) (ci := 10) (v := .int 0) (ty := .int) (C := RX10) (T := TX10) (N := 38) hx hb hT in_X10 tyX10 tyX10_ok nmX10 hown hK hP hD hS 0 rfl rfl 9 (by decide) (hT _ t1271) (fun _ h9 => h9) rfl (by decide +kernel) rfl rfl (Nat.le_of_ble_eq_true rfl) dX10_advance_44 (fun H locs hP9 hD9 hS9 => ?_)
  clear hP hD hS
  have hS := hS9
  have hP := hP9
  have hD := hD9
  clear hP9 hD9 hS9
  replace hP : va_P D vwCl [(x0, .inr (10, [.int 0, .ref x1, .ref x2, .ref x3, .ref x4, .int 0, .ref x5, .int 0, .int 0, .int 0, .int 0, .int 0, .int 0, .int (-1), .ref x6, .ref x7, .ref x8, .ref x9, .ref x10, .ref x11, .int 0, .int 0, .int 0, .ref x12, .ref x13, .ref x14, .int 0, .int 0, .ref x15, .int 0, .ref x16, .int 0, .ref x17, .int 0, .ref x18, .ref x19, .ref x20, .ref x21]))] H := hP
  replace hD : va_D A [(x0, .inr (10, [.int 0, .ref x1, .ref x2, .ref x3, .ref x4, .int 0, .ref x5, .int 0, .int 0, .int 0, .int 0, .int 0, .int 0, .int (-1), .ref x6, .ref x7, .ref x8, .ref x9, .ref x10, .ref x11, .int 0, .int 0, .int 0, .ref x12, .ref x13, .ref x14, .int 0, .int 0, .ref x15, .int 0, .ref x16, .int 0, .ref x17, .int 0, .ref x18, .ref x19, .ref x20, .ref x21]))] := hD
  refine lv_aload_n hx hb dX10_advance_47 rfl (lv_at hl 0 rfl) ?_
  refine lv_aload_n hx hb dX10_advance_48 rfl (lv_at hl 0 rfl) ?_
  refine va_get (D := D) (ci := 10) (v := .int 0) (C := RX10) (T := TX10) (N := 38) hx hb hT in_X10 hown hK hP 0 rfl rfl 8 (by decide) (hT _ t1270) (fun _ h9 => h9) rfl dX10_advance_49 ?_
  refine ro_V (As := [.int 0]) (rest := []) S (c_X10_seeP l D k x0 x1 x2 x3 x4 x5 x6 x7 x8 x9 x10 x11 x12 x13 x14 x15 x16 x17 x18 x19 x20 x21 _) lkX10_106 ok_X10_see ⟨rfl, rfl, Nat.le_of_ble_eq_true rfl, Nat.le_of_ble_eq_true rfl⟩ (pw_V (ci := 10) (q0 := 0) hK hN rfl rfl (hP.sub (ws' := [(x0, .inr (10, [.int 0, .ref x1, .ref x2, .ref x3, .ref x4, .int 0, .ref x5, .int 0, .int 0, .int 0, .int 0, .int 0, .int 0, .int (-1), .ref x6, .ref x7, .ref x8, .ref x9, .ref x10, .ref x11, .int 0, .int 0, .int 0, .ref x12, .ref x13, .ref x14, .int 0, .int 0, .ref x15, .int 0, .ref x16, .int 0, .ref x17, .int 0, .ref x18, .ref x19, .ref x20, .ref x21]))]) [0] rfl) ((d_sub (ws' := [(x0, .inr (10, [.int 0, .ref x1, .ref x2, .ref x3, .ref x4, .int 0, .ref x5, .int 0, .int 0, .int 0, .int 0, .int 0, .int 0, .int (-1), .ref x6, .ref x7, .ref x8, .ref x9, .ref x10, .ref x11, .int 0, .int 0, .int 0, .ref x12, .ref x13, .ref x14, .int 0, .int 0, .ref x15, .int 0, .ref x16, .int 0, .ref x17, .int 0, .ref x18, .ref x19, .ref x20, .ref x21]))]) hD [0] (by decide +kernel) rfl).weaken (fun _ _ _ _ => trivial))) rfl hl.1 rfl (Nat.le_of_ble_eq_true rfl) ⟨Nat.le_of_ble_eq_true rfl, Nat.le_of_ble_eq_true rfl⟩ dX10_advance_52 (fun r_5 er_5 => ?_)
  subst er_5
  refine lv_istore_n (lv' := [(1, .int (-1)), (0, .ref x0)]) hx hb dX10_advance_55 rfl hl (by decide) rfl (fun ls hl => ?_)
  refine lv_iload_n hx hb dX10_advance_56 rfl (lv_at hl 0 rfl) ?_
  refine lv_iconst (v := (-1)) hx hb dX10_advance_57 (by decide) ?_
  refine lv_icmp_ne (tgt := 69) hx hb dX10_advance_58 (by decide) (fun c_6 => ?_) (fun c_6 => ?_)
  · first | exact absurd c_6 (by decide) | exact absurd (by decide) c_6
  refine lv_aload_n hx hb dX10_advance_61 rfl (lv_at hl 1 rfl) ?_
  refine lv_iconst (v := 0) hx hb dX10_advance_62 (by decide) ?_
  refine va_put (D := D) (ci := 10) (v := .int 0) (ty := .int) (C := RX10) (T := TX10) (N := 38) hx hb hT in_X10 tyX10 tyX10_ok nmX10 hown hK hP hD hS 0 rfl rfl 10 (by decide) (hT _ t1272) (fun _ h9 => h9) rfl (by decide +kernel) rfl rfl (Nat.le_of_ble_eq_true rfl) dX10_advance_63 (fun H locs hP9 hD9 hS9 => ?_)
  clear hP hD hS
  have hS := hS9
  have hP := hP9
  have hD := hD9
  clear hP9 hD9 hS9
  replace hP : va_P D vwCl [(x0, .inr (10, [.int 0, .ref x1, .ref x2, .ref x3, .ref x4, .int 0, .ref x5, .int 0, .int 0, .int 0, .int 0, .int 0, .int 0, .int (-1), .ref x6, .ref x7, .ref x8, .ref x9, .ref x10, .ref x11, .int 0, .int 0, .int 0, .ref x12, .ref x13, .ref x14, .int 0, .int 0, .ref x15, .int 0, .ref x16, .int 0, .ref x17, .int 0, .ref x18, .ref x19, .ref x20, .ref x21]))] H := hP
  replace hD : va_D A [(x0, .inr (10, [.int 0, .ref x1, .ref x2, .ref x3, .ref x4, .int 0, .ref x5, .int 0, .int 0, .int 0, .int 0, .int 0, .int 0, .int (-1), .ref x6, .ref x7, .ref x8, .ref x9, .ref x10, .ref x11, .int 0, .int 0, .int 0, .ref x12, .ref x13, .ref x14, .int 0, .int 0, .ref x15, .int 0, .ref x16, .int 0, .ref x17, .int 0, .ref x18, .ref x19, .ref x20, .ref x21]))] := hD
  refine lv_goto (tgt := 239) hx hb dX10_advance_66 (by decide) ?_
  have hP9 := hP.sub (ws' := [(x0, .inr (10, [.int 0, .ref x1, .ref x2, .ref x3, .ref x4, .int 0, .ref x5, .int 0, .int 0, .int 0, .int 0, .int 0, .int 0, .int (-1), .ref x6, .ref x7, .ref x8, .ref x9, .ref x10, .ref x11, .int 0, .int 0, .int 0, .ref x12, .ref x13, .ref x14, .int 0, .int 0, .ref x15, .int 0, .ref x16, .int 0, .ref x17, .int 0, .ref x18, .ref x19, .ref x20, .ref x21]))]) [0] rfl
  have hD9 := d_sub (ws' := [(x0, .inr (10, [.int 0, .ref x1, .ref x2, .ref x3, .ref x4, .int 0, .ref x5, .int 0, .int 0, .int 0, .int 0, .int 0, .int 0, .int (-1), .ref x6, .ref x7, .ref x8, .ref x9, .ref x10, .ref x11, .int 0, .int 0, .int 0, .ref x12, .ref x13, .ref x14, .int 0, .int 0, .ref x15, .int 0, .ref x16, .int 0, .ref x17, .int 0, .ref x18, .ref x19, .ref x20, .ref x21]))]) hD [0] (by decide +kernel) rfl
  have hK9 := hK.sub (tys' := []) [] rfl
  exact W.vret hx hb hr (fun t ht hW => ⟨⟨mkU [] [], rfl, trivial, by rw [ht]; exact hP9, va_K.moved hW.alike hK9, by rw [hAe]; exact hD9⟩, by rw [hAe]; exact hS.F ht⟩) hS.2.2 dX10_advance_239
set_option maxHeartbeats 4000000 in
set_option maxRecDepth 100000 in
theorem c_X10_landW (l : Launch) (D : va_G) (k : Nat → ClassId) (x0 x1 x2 x3 x4 x5 x6 x7 x8 x9 x10 x11 x12 x13 x14 x15 x16 x17 x18 x19 x20 x21 : Nat) (g0 : Nat → Int32) (g1 : Nat → Int32) (sz : Nat) : Met l yX10_land (.code yX10_land cX10_land 2 (some .int) :: TB) (rmw 3 0 0) (va_Pc [.ref x0] (PW D k sz [(x0, .inr (10, [.int 0, .ref x1, .ref x2, .ref x3, .ref x4, .int 0, .ref x5, .int 0, .int 0, .int 0, .int 0, .int 0, .int 0, .int (-1), .ref x6, .ref x7, .ref x8, .ref x9, .ref x10, .ref x11, .int 0, .int 0, .int 0, .ref x12, .ref x13, .ref x14, .int 0, .int 0, .ref x15, .int 0, .ref x16, .int 0, .ref x17, .int 0, .ref x18, .ref x19, .ref x20, .ref x21])), (x6, .inl (k 0, 168, .inl g0)), (x1, .inl (k 0, 168, .inl g1))])) (QI D (S := UT) (fun r u => r = 0) (fun u => []) (fun _ => []) [(x0, .inr (10, [.int 0, .ref x1, .ref x2, .ref x3, .ref x4, .int 0, .ref x5, .int 0, .int 0, .int 0, .int 0, .int 0, .int 0, .int (-1), .ref x6, .ref x7, .ref x8, .ref x9, .ref x10, .ref x11, .int 0, .int 0, .int 0, .ref x12, .ref x13, .ref x14, .int 0, .int 0, .ref x15, .int 0, .ref x16, .int 0, .ref x17, .int 0, .ref x18, .ref x19, .ref x20, .ref x21])), (x6, .inl (k 0, 168, .inl g0)), (x1, .inl (k 0, 168, .inl g1))] sz) 0 0 (va_A [(x0, .inr (10, [.int 0, .ref x1, .ref x2, .ref x3, .ref x4, .int 0, .ref x5, .int 0, .int 0, .int 0, .int 0, .int 0, .int 0, .int (-1), .ref x6, .ref x7, .ref x8, .ref x9, .ref x10, .ref x11, .int 0, .int 0, .int 0, .ref x12, .ref x13, .ref x14, .int 0, .int 0, .ref x15, .int 0, .ref x16, .int 0, .ref x17, .int 0, .ref x18, .ref x19, .ref x20, .ref x21])), (x6, .inl (k 0, 168, .inl g0)), (x1, .inl (k 0, 168, .inl g1))] sz) := by
  refine Met.ofW (cc := cX10_land) (maxL := 2) (ret := (some .int)) (by decide) rfl ?_
  intro p e s m args below meth c s₁ B hml hv
  obtain ⟨rfl, hsz, hP, hK, hD0, hN⟩ := hv
  have hx := B.exec
  have hb := B.bytes
  have hr := B.returns
  have hT : ∀ w ∈ TB, w.before ([.ref x0] : List Value).toArray s = true := fun w h => atoms_spec (ws := .code yX10_land cX10_land 2 (some .int) :: TB) B.pre w (List.mem_cons_of_mem _ h)
  have hown : s.vm.findClass RX10 = some m.cls := findClass_of_methodNamed B.named
  have S : CallFix p m c cX10_land 2 s _ TB RX10 := ⟨hx, hb, hml, hown, hT⟩
  subst hsz
  have hD := hD0.self (sz := s.heap.size)
  generalize hAe : va_A [(x0, .inr (10, [.int 0, .ref x1, .ref x2, .ref x3, .ref x4, .int 0, .ref x5, .int 0, .int 0, .int 0, .int 0, .int 0, .int 0, .int (-1), .ref x6, .ref x7, .ref x8, .ref x9, .ref x10, .ref x11, .int 0, .int 0, .int 0, .ref x12, .ref x13, .ref x14, .int 0, .int 0, .ref x15, .int 0, .ref x16, .int 0, .ref x17, .int 0, .ref x18, .ref x19, .ref x20, .ref x21])), (x6, .inl (k 0, 168, .inl g0)), (x1, .inl (k 0, 168, .inl g1))] s.heap.size = A at hD ⊢
  have hA : ∀ q : Nat, s.heap.size ≤ q → A q := fun q h => by rw [← hAe]; exact Or.inr h
  have hS : va_S A s.heap s.heap [] := va_S.rf
  have hP : va_P D vwCl [(x0, .inr (10, [.int 0, .ref x1, .ref x2, .ref x3, .ref x4, .int 0, .ref x5, .int 0, .int 0, .int 0, .int 0, .int 0, .int 0, .int (-1), .ref x6, .ref x7, .ref x8, .ref x9, .ref x10, .ref x11, .int 0, .int 0, .int 0, .ref x12, .ref x13, .ref x14, .int 0, .int 0, .ref x15, .int 0, .ref x16, .int 0, .ref x17, .int 0, .ref x18, .ref x19, .ref x20, .ref x21])), (x6, .inl (k 0, 168, .inl g0)), (x1, .inl (k 0, 168, .inl g1))] s.heap := hP
  have hl := lv_entry ([.ref x0]) (n := 2) (Nat.le_of_ble_eq_true rfl)
  rw [lg_entry_eq]
  generalize (lg_sl ([.ref x0]) ++ List.replicate (2 - (lg_sl ([.ref x0])).length) Slot.unset).toArray = ls at hl ⊢
  have hl : lv_has ls 2 [(0, .ref x0)] := hl
  refine lv_aload_n hx hb dX10_land_0 rfl (lv_at hl 0 rfl) ?_
  refine lv_aload_n hx hb dX10_land_1 rfl (lv_at hl 0 rfl) ?_
  refine va_get (D := D) (ci := 10) (v := .int 0) (C := RX10) (T := TX10) (N := 38) hx hb hT in_X10 hown hK hP 0 rfl rfl 5 (by decide) (hT _ t1267) (fun _ h9 => h9) rfl dX10_land_2 ?_
  refine va_put (D := D) (ci := 10) (v := .int 0) (ty := .int) (C := RX10) (T := TX10) (N := 38) hx hb hT in_X10 tyX10 tyX10_ok nmX10 hown hK hP hD hS 0 rfl rfl 7 (by decide) (hT _ t1269) (fun _ h9 => h9) rfl (by decide +kernel) rfl rfl (Nat.le_of_ble_eq_true rfl) dX10_land_5 (fun H locs hP9 hD9 hS9 => ?_)
  clear hP hD hS
  have hS := hS9
  have hP := hP9
  have hD := hD9
  clear hP9 hD9 hS9
  replace hP : va_P D vwCl [(x0, .inr (10, [.int 0, .ref x1, .ref x2, .ref x3, .ref x4, .int 0, .ref x5, .int 0, .int 0, .int 0, .int 0, .int 0, .int 0, .int (-1), .ref x6, .ref x7, .ref x8, .ref x9, .ref x10, .ref x11, .int 0, .int 0, .int 0, .ref x12, .ref x13, .ref x14, .int 0, .int 0, .ref x15, .int 0, .ref x16, .int 0, .ref x17, .int 0, .ref x18, .ref x19, .ref x20, .ref x21])), (x6, .inl (k 0, 168, .inl g0)), (x1, .inl (k 0, 168, .inl g1))] H := hP
  replace hD : va_D A [(x0, .inr (10, [.int 0, .ref x1, .ref x2, .ref x3, .ref x4, .int 0, .ref x5, .int 0, .int 0, .int 0, .int 0, .int 0, .int 0, .int (-1), .ref x6, .ref x7, .ref x8, .ref x9, .ref x10, .ref x11, .int 0, .int 0, .int 0, .ref x12, .ref x13, .ref x14, .int 0, .int 0, .ref x15, .int 0, .ref x16, .int 0, .ref x17, .int 0, .ref x18, .ref x19, .ref x20, .ref x21])), (x6, .inl (k 0, 168, .inl g0)), (x1, .inl (k 0, 168, .inl g1))] := hD
  refine lv_aload_n hx hb dX10_land_8 rfl (lv_at hl 0 rfl) ?_
  refine lv_iconst (v := 0) hx hb dX10_land_9 (by decide) ?_
  refine va_put (D := D) (ci := 10) (v := .int 0) (ty := .int) (C := RX10) (T := TX10) (N := 38) hx hb hT in_X10 tyX10 tyX10_ok nmX10 hown hK hP hD hS 0 rfl rfl 5 (by decide) (hT _ t1267) (fun _ h9 => h9) rfl (by decide +kernel) rfl rfl (Nat.le_of_ble_eq_true rfl) dX10_land_10 (fun H locs hP9 hD9 hS9 => ?_)
  clear hP hD hS
  have hS := hS9
  have hP := hP9
  have hD := hD9
  clear hP9 hD9 hS9
  replace hP : va_P D vwCl [(x0, .inr (10, [.int 0, .ref x1, .ref x2, .ref x3, .ref x4, .int 0, .ref x5, .int 0, .int 0, .int 0, .int 0, .int 0, .int 0, .int (-1), .ref x6, .ref x7, .ref x8, .ref x9, .ref x10, .ref x11, .int 0, .int 0, .int 0, .ref x12, .ref x13, .ref x14, .int 0, .int 0, .ref x15, .int 0, .ref x16, .int 0, .ref x17, .int 0, .ref x18, .ref x19, .ref x20, .ref x21])), (x6, .inl (k 0, 168, .inl g0)), (x1, .inl (k 0, 168, .inl g1))] H := hP
  replace hD : va_D A [(x0, .inr (10, [.int 0, .ref x1, .ref x2, .ref x3, .ref x4, .int 0, .ref x5, .int 0, .int 0, .int 0, .int 0, .int 0, .int 0, .int (-1), .ref x6, .ref x7, .ref x8, .ref x9, .ref x10, .ref x11, .int 0, .int 0, .int 0, .ref x12, .ref x13, .ref x14, .int 0, .int 0, .ref x15, .int 0, .ref x16, .int 0, .ref x17, .int 0, .ref x18, .ref x19, .ref x20, .ref x21])), (x6, .inl (k 0, 168, .inl g0)), (x1, .inl (k 0, 168, .inl g1))] := hD
  refine lv_aload_n hx hb dX10_land_13 rfl (lv_at hl 0 rfl) ?_
  refine lv_iconst (v := 0) hx hb dX10_land_14 (by decide) ?_
  refine va_put (D := D) (ci := 10) (v := .int 0) (ty := .int) (C := RX10) (T := TX10) (N := 38) hx hb hT in_X10 tyX10 tyX10_ok nmX10 hown hK hP hD hS 0 rfl rfl 8 (by decide) (hT _ t1270) (fun _ h9 => h9) rfl (by decide +kernel) rfl rfl (Nat.le_of_ble_eq_true rfl) dX10_land_15 (fun H locs hP9 hD9 hS9 => ?_)
  clear hP hD hS
  have hS := hS9
  have hP := hP9
  have hD := hD9
  clear hP9 hD9 hS9
  replace hP : va_P D vwCl [(x0, .inr (10, [.int 0, .ref x1, .ref x2, .ref x3, .ref x4, .int 0, .ref x5, .int 0, .int 0, .int 0, .int 0, .int 0, .int 0, .int (-1), .ref x6, .ref x7, .ref x8, .ref x9, .ref x10, .ref x11, .int 0, .int 0, .int 0, .ref x12, .ref x13, .ref x14, .int 0, .int 0, .ref x15, .int 0, .ref x16, .int 0, .ref x17, .int 0, .ref x18, .ref x19, .ref x20, .ref x21])), (x6, .inl (k 0, 168, .inl g0)), (x1, .inl (k 0, 168, .inl g1))] H := hP
  replace hD : va_D A [(x0, .inr (10, [.int 0, .ref x1, .ref x2, .ref x3, .ref x4, .int 0, .ref x5, .int 0, .int 0, .int 0, .int 0, .int 0, .int 0, .int (-1), .ref x6, .ref x7, .ref x8, .ref x9, .ref x10, .ref x11, .int 0, .int 0, .int 0, .ref x12, .ref x13, .ref x14, .int 0, .int 0, .ref x15, .int 0, .ref x16, .int 0, .ref x17, .int 0, .ref x18, .ref x19, .ref x20, .ref x21])), (x6, .inl (k 0, 168, .inl g0)), (x1, .inl (k 0, 168, .inl g1))] := hD
  refine lv_aload_n hx hb dX10_land_18 rfl (lv_at hl 0 rfl) ?_
  refine lv_iconst (v := 0) hx hb dX10_land_19 (by decide) ?_
  refine va_put (D := D) (ci := 10) (v := .int 0) (ty := .int) (C := RX10) (T := TX10) (N := 38) hx hb hT in_X10 tyX10 tyX10_ok nmX10 hown hK hP hD hS 0 rfl rfl 12 (by decide) (hT _ t1274) (fun _ h9 => h9) rfl (by decide +kernel) rfl rfl (Nat.le_of_ble_eq_true rfl) dX10_land_20 (fun H locs hP9 hD9 hS9 => ?_)
  clear hP hD hS
  have hS := hS9
  have hP := hP9
  have hD := hD9
  clear hP9 hD9 hS9
  replace hP : va_P D vwCl [(x0, .inr (10, [.int 0, .ref x1, .ref x2, .ref x3, .ref x4, .int 0, .ref x5, .int 0, .int 0, .int 0, .int 0, .int 0, .int 0, .int (-1), .ref x6, .ref x7, .ref x8, .ref x9, .ref x10, .ref x11, .int 0, .int 0, .int 0, .ref x12, .ref x13, .ref x14, .int 0, .int 0, .ref x15, .int 0, .ref x16, .int 0, .ref x17, .int 0, .ref x18, .ref x19, .ref x20, .ref x21])), (x6, .inl (k 0, 168, .inl g0)), (x1, .inl (k 0, 168, .inl g1))] H := hP
  replace hD : va_D A [(x0, .inr (10, [.int 0, .ref x1, .ref x2, .ref x3, .ref x4, .int 0, .ref x5, .int 0, .int 0, .int 0, .int 0, .int 0, .int 0, .int (-1), .ref x6, .ref x7, .ref x8, .ref x9, .ref x10, .ref x11, .int 0, .int 0, .int 0, .ref x12, .ref x13, .ref x14, .int 0, .int 0, .ref x15, .int 0, .ref x16, .int 0, .ref x17, .int 0, .ref x18, .ref x19, .ref x20, .ref x21])), (x6, .inl (k 0, 168, .inl g0)), (x1, .inl (k 0, 168, .inl g1))] := hD
  refine lv_aload_n hx hb dX10_land_23 rfl (lv_at hl 0 rfl) ?_
  refine lv_iconst (v := (-1)) hx hb dX10_land_24 (by decide) ?_
  refine va_put (D := D) (ci := 10) (v := .int (-1)) (ty := .int) (C := RX10) (T := TX10) (N := 38) hx hb hT in_X10 tyX10 tyX10_ok nmX10 hown hK hP hD hS 0 rfl rfl 13 (by decide) (hT _ t1275) (fun _ h9 => h9) rfl (by decide +kernel) rfl rfl (Nat.le_of_ble_eq_true rfl) dX10_land_25 (fun H locs hP9 hD9 hS9 => ?_)
  clear hP hD hS
  have hS := hS9
  have hP := hP9
  have hD := hD9
  clear hP9 hD9 hS9
  replace hP : va_P D vwCl [(x0, .inr (10, [.int 0, .ref x1, .ref x2, .ref x3, .ref x4, .int 0, .ref x5, .int 0, .int 0, .int 0, .int 0, .int 0, .int 0, .int (-1), .ref x6, .ref x7, .ref x8, .ref x9, .ref x10, .ref x11, .int 0, .int 0, .int 0, .ref x12, .ref x13, .ref x14, .int 0, .int 0, .ref x15, .int 0, .ref x16, .int 0, .ref x17, .int 0, .ref x18, .ref x19, .ref x20, .ref x21])), (x6, .inl (k 0, 168, .inl g0)), (x1, .inl (k 0, 168, .inl g1))] H := hP
  replace hD : va_D A [(x0, .inr (10, [.int 0, .ref x1, .ref x2, .ref x3, .ref x4, .int 0, .ref x5, .int 0, .int 0, .int 0, .int 0, .int 0, .int 0, .int (-1), .ref x6, .ref x7, .ref x8, .ref x9, .ref x10, .ref x11, .int 0, .int 0, .int 0, .ref x12, .ref x13, .ref x14, .int 0, .int 0, .ref x15, .int 0, .ref x16, .int 0, .ref x17, .int 0, .ref x18, .ref x19, .ref x20, .ref x21])), (x6, .inl (k 0, 168, .inl g0)), (x1, .inl (k 0, 168, .inl g1))] := hD
  refine lv_iconst (v := 0) hx hb dX10_land_28 (by decide) ?_
  refine lv_istore_n (lv' := [(1, .int 0), (0, .ref x0)]) hx hb dX10_land_29 rfl hl (by decide) rfl (fun ls hl => ?_)
  refine m_l1  hx hb hT hown hK (fun H locs gz1 ls hP hD hS hgz1 hl => ?_) 169 0 (Nat.zero_le _) (by decide) _ _ g0 ls hP hD hS (fun j hj => absurd hj (Nat.not_lt_zero j)) (lv_sub hl [0, 1] rfl)
  refine lv_aload_n hx hb dX10_land_50 rfl (lv_at hl 1 rfl) ?_
  refine rw_v (wc := [(x0, .inr (10, [.int 0, .ref x1, .ref x2, .ref x3, .ref x4, .int 0, .ref x5, .int 0, .int 0, .int 0, .int 0, .int 0, .int 0, .int (-1), .ref x6, .ref x7, .ref x8, .ref x9, .ref x10, .ref x11, .int 0, .int 0, .int 0, .ref x12, .ref x13, .ref x14, .int 0, .int 0, .ref x15, .int 0, .ref x16, .int 0, .ref x17, .int 0, .ref x18, .ref x19, .ref x20, .ref x21]))]) (wr := [(x6, .inl (k 0, 168, .inl gz1)), (x1, .inl (k 0, 168, .inl g1))]) [0] [1, 2] rfl rfl (by decide +kernel) (by decide +kernel) (by decide +kernel) hP hD hS hA (fun hPc hDc => run_V (As := []) (rest := []) S (c_X10_advanceW l D k x0 x1 x2 x3 x4 x5 x6 x7 x8 x9 x10 x11 x12 x13 x14 x15 x16 x17 x18 x19 x20 x21   _) lkX10_154 ok_X10_advance ⟨rfl, rfl, Nat.le_of_ble_eq_true rfl, Nat.le_of_ble_eq_true rfl⟩ (pw_V (ci := 10) (q0 := 0) hK hN rfl rfl hPc hDc) rfl hl.1 rfl (Nat.le_of_ble_eq_true rfl) ⟨Nat.le_of_ble_eq_true rfl, Nat.le_of_ble_eq_true rfl⟩ dX10_land_51) (fun u51_2 H locs hu51_2 hKu51_2 hP9 hD9 hS9 => ?_)
  clear hP hD hS
  have hS := hS9
  have hP := hP9
  have hD := hD9
  clear hP9 hD9 hS9
  replace hP : va_P D vwCl [(x6, .inl (k 0, 168, .inl gz1)), (x1, .inl (k 0, 168, .inl g1)), (x0, .inr (10, [.int 0, .ref x1, .ref x2, .ref x3, .ref x4, .int 0, .ref x5, .int 0, .int 0, .int 0, .int 0, .int 0, .int 0, .int (-1), .ref x6, .ref x7, .ref x8, .ref x9, .ref x10, .ref x11, .int 0, .int 0, .int 0, .ref x12, .ref x13, .ref x14, .int 0, .int 0, .ref x15, .int 0, .ref x16, .int 0, .ref x17, .int 0, .ref x18, .ref x19, .ref x20, .ref x21]))] H := hP
  replace hD : va_D A [(x6, .inl (k 0, 168, .inl gz1)), (x1, .inl (k 0, 168, .inl g1)), (x0, .inr (10, [.int 0, .ref x1, .ref x2, .ref x3, .ref x4, .int 0, .ref x5, .int 0, .int 0, .int 0, .int 0, .int 0, .int 0, .int (-1), .ref x6, .ref x7, .ref x8, .ref x9, .ref x10, .ref x11, .int 0, .int 0, .int 0, .ref x12, .ref x13, .ref x14, .int 0, .int 0, .ref x15, .int 0, .ref x16, .int 0, .ref x17, .int 0, .ref x18, .ref x19, .ref x20, .ref x21]))] := hD
  refine lv_aload_n hx hb dX10_land_54 rfl (lv_at hl 1 rfl) ?_
  refine ro_V (As := []) (rest := []) S (c_X10_goodP l D k x0 x1 x2 x3 x4 x5 x6 x7 x8 x9 x10 x11 x12 x13 x14 x15 x16 x17 x18 x19 x20 x21 _) lkX10_136 ok_X10_good ⟨rfl, rfl, Nat.le_of_ble_eq_true rfl, Nat.le_of_ble_eq_true rfl⟩ (pw_V (ci := 10) (q0 := 0) hK hN rfl rfl (hP.sub (ws' := [(x0, .inr (10, [.int 0, .ref x1, .ref x2, .ref x3, .ref x4, .int 0, .ref x5, .int 0, .int 0, .int 0, .int 0, .int 0, .int 0, .int (-1), .ref x6, .ref x7, .ref x8, .ref x9, .ref x10, .ref x11, .int 0, .int 0, .int 0, .ref x12, .ref x13, .ref x14, .int 0, .int 0, .ref x15, .int 0, .ref x16, .int 0, .ref x17, .int 0, .ref x18, .ref x19, .ref x20, .ref x21]))]) [2] rfl) ((d_sub (ws' := [(x0, .inr (10, [.int 0, .ref x1, .ref x2, .ref x3, .ref x4, .int 0, .ref x5, .int 0, .int 0, .int 0, .int 0, .int 0, .int 0, .int (-1), .ref x6, .ref x7, .ref x8, .ref x9, .ref x10, .ref x11, .int 0, .int 0, .int 0, .ref x12, .ref x13, .ref x14, .int 0, .int 0, .ref x15, .int 0, .ref x16, .int 0, .ref x17, .int 0, .ref x18, .ref x19, .ref x20, .ref x21]))]) hD [2] (by decide +kernel) rfl).weaken (fun _ _ _ _ => trivial))) rfl hl.1 rfl (Nat.le_of_ble_eq_true rfl) ⟨Nat.le_of_ble_eq_true rfl, Nat.le_of_ble_eq_true rfl⟩ dX10_land_55 (fun r_1 er_1 => ?_)
  subst er_1
  refine lv_if_eq (tgt := 75) hx hb dX10_land_58 (by decide) (fun c_2 => ?_) (fun c_2 => ?_)
  · first | exact absurd c_2 (by decide) | exact absurd (by decide) c_2
  refine lv_aload_n hx hb dX10_land_61 rfl (lv_at hl 1 rfl) ?_
  refine va_get (D := D) (ci := 10) (v := .int 0) (C := RX10) (T := TX10) (N := 38) hx hb hT in_X10 hown hK hP 2 rfl rfl 10 (by decide) (hT _ t1272) (fun _ h9 => h9) rfl dX10_land_62 ?_
  refine lv_if_eq (tgt := 75) hx hb dX10_land_65 (by decide) (fun c_3 => ?_) (fun c_3 => ?_)
  rotate_left
  · first | exact absurd c_3 (by decide) | exact absurd (by decide) c_3
  refine lv_aload_n hx hb dX10_land_75 rfl (lv_at hl 1 rfl) ?_
  refine ro_V (As := []) (rest := []) S (c_X10_goodP l D k x0 x1 x2 x3 x4 x5 x6 x7 x8 x9 x10 x11 x12 x13 x14 x15 x16 x17 x18 x19 x20 x21 _) lkX10_136 ok_X10_good ⟨rfl, rfl, Nat.le_of_ble_eq_true rfl, Nat.le_of_ble_eq_true rfl⟩ (pw_V (ci := 10) (q0 := 0) hK hN rfl rfl (hP.sub (ws' := [(x0, .inr (10, [.int 0, .ref x1, .ref x2, .ref x3, .ref x4, .int 0, .ref x5, .int 0, .int 0, .int 0, .int 0, .int 0, .int 0, .int (-1), .ref x6, .ref x7, .ref x8, .ref x9, .ref x10, .ref x11, .int 0, .int 0, .int 0, .ref x12, .ref x13, .ref x14, .int 0, .int 0, .ref x15, .int 0, .ref x16, .int 0, .ref x17, .int 0, .ref x18, .ref x19, .ref x20, .ref x21]))]) [2] rfl) ((d_sub (ws' := [(x0, .inr (10, [.int 0, .ref x1, .ref x2, .ref x3, .ref x4, .int 0, .ref x5, .int 0, .int 0, .int 0, .int 0, .int 0, .int 0, .int (-1), .ref x6, .ref x7, .ref x8, .ref x9, .ref x10, .ref x11, .int 0, .int 0, .int 0, .ref x12, .ref x13, .ref x14, .int 0, .int 0, .ref x15, .int 0, .ref x16, .int 0, .ref x17, .int 0, .ref x18, .ref x19, .ref x20, .ref x21]))]) hD [2] (by decide +kernel) rfl).weaken (fun _ _ _ _ => trivial))) rfl hl.1 rfl (Nat.le_of_ble_eq_true rfl) ⟨Nat.le_of_ble_eq_true rfl, Nat.le_of_ble_eq_true rfl⟩ dX10_land_76 (fun r_4 er_4 => ?_)
  subst er_4
  refine lv_if_ne (tgt := 85) hx hb dX10_land_79 (by decide) (fun c_5 => ?_) (fun c_5 => ?_)
  rotate_left
  · first | exact absurd c_5 (by decide) | exact absurd (by decide) c_5
  refine lv_iconst (v := 0) hx hb dX10_land_85 (by decide) ?_
  refine lv_istore_n (lv' := [(1, .int 0), (0, .ref x0)]) hx hb dX10_land_86 rfl hl (by decide) rfl (fun ls hl => ?_)
  replace hP := hP.sub (ws' := [(x0, .inr (10, [.int 0, .ref x1, .ref x2, .ref x3, .ref x4, .int 0, .ref x5, .int 0, .int 0, .int 0, .int 0, .int 0, .int 0, .int (-1), .ref x6, .ref x7, .ref x8, .ref x9, .ref x10, .ref x11, .int 0, .int 0, .int 0, .ref x12, .ref x13, .ref x14, .int 0, .int 0, .ref x15, .int 0, .ref x16, .int 0, .ref x17, .int 0, .ref x18, .ref x19, .ref x20, .ref x21])), (x6, .inl (k 0, 168, .inl gz1)), (x1, .inl (k 0, 168, .inl g1))]) [2, 0, 1] rfl
  replace hD := d_sub (ws' := [(x0, .inr (10, [.int 0, .ref x1, .ref x2, .ref x3, .ref x4, .int 0, .ref x5, .int 0, .int 0, .int 0, .int 0, .int 0, .int 0, .int (-1), .ref x6, .ref x7, .ref x8, .ref x9, .ref x10, .ref x11, .int 0, .int 0, .int 0, .ref x12, .ref x13, .ref x14, .int 0, .int 0, .ref x15, .int 0, .ref x16, .int 0, .ref x17, .int 0, .ref x18, .ref x19, .ref x20, .ref x21])), (x6, .inl (k 0, 168, .inl gz1)), (x1, .inl (k 0, 168, .inl g1))]) hD [2, 0, 1] (by decide +kernel) rfl
  refine m_l2 hgz1 hx hb hT hown hK (fun H locs gy3 ls hP hD hS hgy3 hl => ?_) 169 0 (Nat.zero_le _) (by decide) _ _ g1 ls hP hD hS (fun j hj => absurd hj (Nat.not_lt_zero j)) (lv_sub hl [0, 1] rfl)
  refine lv_aload_n hx hb dX10_land_112 rfl (lv_at hl 1 rfl) ?_
  refine va_get (D := D) (ci := 10) (v := .ref x1) (C := RX10) (T := TX10) (N := 38) hx hb hT in_X10 hown hK hP 0 rfl rfl 1 (by decide) (hT _ t1263) (fun _ h9 => h9) rfl dX10_land_113 ?_
  refine lv_bipush (v := 6) hx hb dX10_land_116 (by decide) ?_
  refine va_iald hx hb hK hP 2 0 rfl rfl (by unfold vp_in; decide) dX10_land_118 ?_
  refine k_top (y := 0) (hgy3 _ (by decide)) ?_
  have hP9 := hP.sub (ws' := []) [] rfl
  have hD9 := d_sub (ws' := []) hD [] (by decide +kernel) rfl
  have hK9 := hK.sub (tys' := []) [] rfl
  exact W.iret (v := 0) hx hb hr (fun t ht hW => ⟨⟨0, mkU [] [], rfl, rfl, by rw [ht]; exact hP9, va_K.moved hW.alike hK9, by rw [hAe]; exact hD9⟩, by rw [hAe]; exact hS.F ht⟩) hS.2.2 dX10_land_119
