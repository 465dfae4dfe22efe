set_option maxHeartbeats 4000000 in
set_option maxRecDepth 100000 in
theorem m_ro0 {p : Program} {l : Launch} {e : Env} {R : Room} {s : State} {m : MethodId} {args : Array Value} {below : List Frame} {meth : Method} {c : Code} {cells slots : Nat} {Q : State → Prop} {D : va_G} {k : Nat → ClassId} {A : Nat → Prop} {H0 : Heap} {x0 x1 x2 x3 x4 x5 x6 x7 x8 x9 x10 x11 x12 x13 x14 x15 x16 x17 x18 x19 x20 x21 : Nat} {ga gb : Nat → Int32} {pa pb : Int32} (hx : p.tables.exec = Jvm.exec) (hb : c.code = cX10_row) (hT : ∀ w ∈ TB, w.before args s = true) (hown : s.vm.findClass RX10 = some m.cls) (hK : va_K D vwCl (KT k) s)
    (hend : ∀ (H : Heap) (locs : List Loc) (g : Nat → Int64) (ls : Array Slot), va_P D vwCl [(x0, .inr (10, [.int 0, .ref x1, .ref x2, .ref x3, .ref x4, .int 0, .ref x5, .int 0, .int 0, .int 0, .int 0, .int 0, .int 0, .int (-1), .ref x6, .ref x7, .ref x8, .ref x9, .ref x10, .ref x11, .int 0, .int 0, .int 0, .ref x12, .ref x13, .ref x14, .int 0, .int 0, .ref x15, .int 0, .ref x16, .int 0, .ref x17, .int 0, .ref x18, .ref x19, .ref x20, .ref x21])), (x18, .inl (k 0, 4, .inl ga)), (x19, .inl (k 0, 4, .inl gb)), (x20, .inl (k 2, 240, .inr (.inl g)))] H → va_D A [(x0, .inr (10, [.int 0, .ref x1, .ref x2, .ref x3, .ref x4, .int 0, .ref x5, .int 0, .int 0, .int 0, .int 0, .int 0, .int 0, .int (-1), .ref x6, .ref x7, .ref x8, .ref x9, .ref x10, .ref x11, .int 0, .int 0, .int 0, .ref x12, .ref x13, .ref x14, .int 0, .int 0, .ref x15, .int 0, .ref x16, .int 0, .ref x17, .int 0, .ref x18, .ref x19, .ref x20, .ref x21])), (x18, .inl (k 0, 4, .inl ga)), (x19, .inl (k 0, 4, .inl gb)), (x20, .inl (k 2, 240, .inr (.inl g)))] → va_S A H0 H locs → lv_has ls 5 [(4, .int (nI 60)), (0, .ref x0), (1, .int 0), (2, .int pa), (3, .int pb)] → W p l e R s m args below meth c H locs cells slots Q (F0 m 78 ls [])) :
    ∀ (n i : Nat), i ≤ 60 → 60 - i < n → ∀ (H : Heap) (locs : List Loc) (g : Nat → Int64) (ls : Array Slot), va_P D vwCl [(x0, .inr (10, [.int 0, .ref x1, .ref x2, .ref x3, .ref x4, .int 0, .ref x5, .int 0, .int 0, .int 0, .int 0, .int 0, .int 0, .int (-1), .ref x6, .ref x7, .ref x8, .ref x9, .ref x10, .ref x11, .int 0, .int 0, .int 0, .ref x12, .ref x13, .ref x14, .int 0, .int 0, .ref x15, .int 0, .ref x16, .int 0, .ref x17, .int 0, .ref x18, .ref x19, .ref x20, .ref x21])), (x18, .inl (k 0, 4, .inl ga)), (x19, .inl (k 0, 4, .inl gb)), (x20, .inl (k 2, 240, .inr (.inl g)))] H → va_D A [(x0, .inr (10, [.int 0, .ref x1, .ref x2, .ref x3, .ref x4, .int 0, .ref x5, .int 0, .int 0, .int 0, .int 0, .int 0, .int 0, .int (-1), .ref x6, .ref x7, .ref x8, .ref x9, .ref x10, .ref x11, .int 0, .int 0, .int 0, .ref x12, .ref x13, .ref x14, .int 0, .int 0, .ref x15, .int 0, .ref x16, .int 0, .ref x17, .int 0, .ref x18, .ref x19, .ref x20, .ref x21])), (x18, .inl (k 0, 4, .inl ga)), (x19, .inl (k 0, 4, .inl gb)), (x20, .inl (k 2, 240, .inr (.inl g)))] → va_S A H0 H locs → lv_has ls 5 [(4, .int (nI i)), (0, .ref x0), (1, .int 0), (2, .int pa), (3, .int pb)] → W p l e R s m args below meth c H locs cells slots Q (F0 m 52 ls []) := by
  intro n
  induction n with
  | zero => intro i _ h; omega
  | succ n ih =>
    intro i hi hn H locs g ls hP hD hS hl
    refine lv_iload hx hb dX10_row_52 (lv_at hl 0 rfl) ?_
    refine lv_bipush (v := nI 60) hx hb dX10_row_54 (by decide) ?_
    refine lv_icmp_ge (tgt := 78) hx hb dX10_row_56 (by decide) (fun c1 => ?_) (fun c1 => ?_)
    · have hiN : i = 60 := by
        rcases Nat.lt_or_ge i 60 with q | q
        · exact absurd c1 (nI_ge q (by decide))
        · omega
      subst hiN
      exact hend H locs g ls hP hD hS hl
    · have hlt : i < 60 := by
        rcases Nat.lt_or_ge i 60 with q | q
        · exact q
        · exact absurd (nI_le q (by omega)) c1
      have ei : (nI i).toNatClampNeg = i := nI_clamp (by omega)
      refine lv_aload_n hx hb dX10_row_59 rfl (lv_at hl 1 rfl) ?_
      refine va_get (D := D) (ci := 10) (v := .ref x20) (C := RX10) (T := TX10) (N := 38) hx hb hT in_X10 hown hK hP 0 rfl rfl 36 (by decide) (hT _ t1298) (fun _ h9 => h9) rfl dX10_row_60 ?_
      refine lv_bipush (v := 60) hx hb dX10_row_63 (by decide) ?_
      refine lv_iload_n hx hb dX10_row_65 rfl (lv_at hl 2 rfl) ?_
      refine lv_imul hx hb dX10_row_66 ?_
      refine k_top (y := nI 0) (by decide) ?_
      refine lv_iload hx hb dX10_row_67 (lv_at hl 0 rfl) ?_
      refine lv_iadd hx hb dX10_row_69 ?_
      refine k_top (y := nI (0 + i)) (nI_add _ _) ?_
      refine lv_lconst (v := 0) hx hb dX10_row_70 (by decide) ?_
      refine x_lst hx hb hK hP hD hS 3 2 rfl rfl (vp_in_nI (show 0 + i < 240 by omega) (by decide)) dX10_row_71 (fun g2 H locs hP hD hS => ?_)
      have hP : va_P D vwCl [(x0, .inr (10, [.int 0, .ref x1, .ref x2, .ref x3, .ref x4, .int 0, .ref x5, .int 0, .int 0, .int 0, .int 0, .int 0, .int 0, .int (-1), .ref x6, .ref x7, .ref x8, .ref x9, .ref x10, .ref x11, .int 0, .int 0, .int 0, .ref x12, .ref x13, .ref x14, .int 0, .int 0, .ref x15, .int 0, .ref x16, .int 0, .ref x17, .int 0, .ref x18, .ref x19, .ref x20, .ref x21])), (x18, .inl (k 0, 4, .inl ga)), (x19, .inl (k 0, 4, .inl gb)), (x20, .inl (k 2, 240, .inr (.inl g2)))] H := hP
      have hD : va_D A [(x0, .inr (10, [.int 0, .ref x1, .ref x2, .ref x3, .ref x4, .int 0, .ref x5, .int 0, .int 0, .int 0, .int 0, .int 0, .int 0, .int (-1), .ref x6, .ref x7, .ref x8, .ref x9, .ref x10, .ref x11, .int 0, .int 0, .int 0, .ref x12, .ref x13, .ref x14, .int 0, .int 0, .ref x15, .int 0, .ref x16, .int 0, .ref x17, .int 0, .ref x18, .ref x19, .ref x20, .ref x21])), (x18, .inl (k 0, 4, .inl ga)), (x19, .inl (k 0, 4, .inl gb)), (x20, .inl (k 2, 240, .inr (.inl g2)))] := hD
      refine lv_iinc (v := nI (i + 1)) (lv' := [(4, .int (nI (i + 1))), (0, .ref x0), (1, .int 0), (2, .int pa), (3, .int pb)]) hx hb dX10_row_72 hl (k := 0) rfl (nI_1 i) (by decide) rfl (fun ls hl => ?_)
      refine lv_goto (tgt := 52) hx hb dX10_row_75 (by decide) ?_
      exact ih (i + 1) hlt (by omega) H locs (g2) ls hP hD hS hl

set_option maxHeartbeats 4000000 in
set_option maxRecDepth 100000 in
theorem c_X10_rowW0 (l : Launch) (D : va_G) (k : Nat → ClassId) (x0 x1 x2 x3 x4 x5 x6 x7 x8 x9 x10 x11 x12 x13 x14 x15 x16 x17 x18 x19 x20 x21 : Nat) (g0 : Nat → Int32) (g1 : Nat → Int32) (g2 : Nat → Int64) (p1 p2 : Int32) (sz : Nat) : Met l yX10_row (.code yX10_row cX10_row 5 (some .int) :: TB) (rmw 3 0 0) (va_Pc [.ref x0, .int 0, .int p1, .int p2] (PW D k sz [(x0, .inr (10, [.int 0, .ref x1, .ref x2, .ref x3, .ref x4, .int 0, .ref x5, .int 0, .int 0, .int 0, .int 0, .int 0, .int 0, .int (-1), .ref x6, .ref x7, .ref x8, .ref x9, .ref x10, .ref x11, .int 0, .int 0, .int 0, .ref x12, .ref x13, .ref x14, .int 0, .int 0, .ref x15, .int 0, .ref x16, .int 0, .ref x17, .int 0, .ref x18, .ref x19, .ref x20, .ref x21])), (x18, .inl (k 0, 4, .inl g0)), (x19, .inl (k 0, 4, .inl g1)), (x20, .inl (k 2, 240, .inr (.inl g2)))])) (QI D (S := UT) (fun r u => r = a_row 0 p1 p2) (fun u => []) (fun _ => []) [(x0, .inr (10, [.int 0, .ref x1, .ref x2, .ref x3, .ref x4, .int 0, .ref x5, .int 0, .int 0, .int 0, .int 0, .int 0, .int 0, .int (-1), .ref x6, .ref x7, .ref x8, .ref x9, .ref x10, .ref x11, .int 0, .int 0, .int 0, .ref x12, .ref x13, .ref x14, .int 0, .int 0, .ref x15, .int 0, .ref x16, .int 0, .ref x17, .int 0, .ref x18, .ref x19, .ref x20, .ref x21])), (x18, .inl (k 0, 4, .inl g0)), (x19, .inl (k 0, 4, .inl g1)), (x20, .inl (k 2, 240, .inr (.inl g2)))] sz) 0 0 (va_A [(x0, .inr (10, [.int 0, .ref x1, .ref x2, .ref x3, .ref x4, .int 0, .ref x5, .int 0, .int 0, .int 0, .int 0, .int 0, .int 0, .int (-1), .ref x6, .ref x7, .ref x8, .ref x9, .ref x10, .ref x11, .int 0, .int 0, .int 0, .ref x12, .ref x13, .ref x14, .int 0, .int 0, .ref x15, .int 0, .ref x16, .int 0, .ref x17, .int 0, .ref x18, .ref x19, .ref x20, .ref x21])), (x18, .inl (k 0, 4, .inl g0)), (x19, .inl (k 0, 4, .inl g1)), (x20, .inl (k 2, 240, .inr (.inl g2)))] sz) := by
  refine Met.ofW (cc := cX10_row) (maxL := 5) (ret := (some .int)) (by decide) rfl ?_
  intro p e s m args below meth c s₁ B hml hv
  obtain ⟨rfl, hsz, hP, hK, hD0, hN⟩ := hv
  have hx := B.exec
  have hb := B.bytes
  have hr := B.returns
  have hT : ∀ w ∈ TB, w.before ([.ref x0, .int 0, .int p1, .int p2] : List Value).toArray s = true := fun w h => atoms_spec (ws := .code yX10_row cX10_row 5 (some .int) :: TB) B.pre w (List.mem_cons_of_mem _ h)
  have hown : s.vm.findClass RX10 = some m.cls := findClass_of_methodNamed B.named
  have S : CallFix p m c cX10_row 5 s _ TB RX10 := ⟨hx, hb, hml, hown, hT⟩
  subst hsz
  have hD := hD0.self (sz := s.heap.size)
  generalize hAe : va_A [(x0, .inr (10, [.int 0, .ref x1, .ref x2, .ref x3, .ref x4, .int 0, .ref x5, .int 0, .int 0, .int 0, .int 0, .int 0, .int 0, .int (-1), .ref x6, .ref x7, .ref x8, .ref x9, .ref x10, .ref x11, .int 0, .int 0, .int 0, .ref x12, .ref x13, .ref x14, .int 0, .int 0, .ref x15, .int 0, .ref x16, .int 0, .ref x17, .int 0, .ref x18, .ref x19, .ref x20, .ref x21])), (x18, .inl (k 0, 4, .inl g0)), (x19, .inl (k 0, 4, .inl g1)), (x20, .inl (k 2, 240, .inr (.inl g2)))] s.heap.size = A at hD ⊢
  have hA : ∀ q : Nat, s.heap.size ≤ q → A q := fun q h => by rw [← hAe]; exact Or.inr h
  have hS : va_S A s.heap s.heap [] := va_S.rf
  have hP : va_P D vwCl [(x0, .inr (10, [.int 0, .ref x1, .ref x2, .ref x3, .ref x4, .int 0, .ref x5, .int 0, .int 0, .int 0, .int 0, .int 0, .int 0, .int (-1), .ref x6, .ref x7, .ref x8, .ref x9, .ref x10, .ref x11, .int 0, .int 0, .int 0, .ref x12, .ref x13, .ref x14, .int 0, .int 0, .ref x15, .int 0, .ref x16, .int 0, .ref x17, .int 0, .ref x18, .ref x19, .ref x20, .ref x21])), (x18, .inl (k 0, 4, .inl g0)), (x19, .inl (k 0, 4, .inl g1)), (x20, .inl (k 2, 240, .inr (.inl g2)))] s.heap := hP
  have hl := lv_entry ([.ref x0, .int 0, .int p1, .int p2]) (n := 5) (Nat.le_of_ble_eq_true rfl)
  rw [lg_entry_eq]
  generalize (lg_sl ([.ref x0, .int 0, .int p1, .int p2]) ++ List.replicate (5 - (lg_sl ([.ref x0, .int 0, .int p1, .int p2])).length) Slot.unset).toArray = ls at hl ⊢
  have hl : lv_has ls 5 [(0, .ref x0), (1, .int 0), (2, .int p1), (3, .int p2)] := hl
  refine lv_iload_n hx hb dX10_row_0 rfl (lv_at hl 1 rfl) ?_
  refine ro_S (As := [.int 0]) (rest := []) S (c_X10_isSlotP l D k 0 _) lkX10_300 ok_X10_isSlot ⟨rfl, rfl, Nat.le_of_ble_eq_true rfl, Nat.le_of_ble_eq_true rfl⟩ (pw_S hK hN (hP.sub (ws' := []) [] rfl) ((d_sub (ws' := []) hD [] (by decide +kernel) rfl).weaken (fun _ _ _ _ => trivial))) rfl hl.1 rfl (Nat.le_of_ble_eq_true rfl) ⟨Nat.le_of_ble_eq_true rfl, Nat.le_of_ble_eq_true rfl⟩ dX10_row_1 (fun r_1 er_1 => ?_)
  rcases er_1 with ⟨er_1, gr_1⟩ | ⟨er_1, gr_1⟩
  · subst er_1
    refine lv_if_eq (tgt := 25) hx hb dX10_row_4 (by decide) (fun c_2 => ?_) (fun c_2 => ?_)
    · first | exact absurd c_2 (by decide) | exact absurd (by decide) c_2
    refine lv_iload_n hx hb dX10_row_7 rfl (lv_at hl 2 rfl) ?_
    refine lv_i2l (v := p1.toInt64) hx hb dX10_row_8 rfl ?_
    refine lv_lconst (v := 0) hx hb dX10_row_9 (by decide) ?_
    refine lv_ldc2 (v := 3) hx hb hown (hT _ t1665) dX10_row_10 ?_
    refine ro_S (As := [.long p1.toInt64, .long 0, .long 3]) (rest := []) S (c_X10_inP l D k p1.toInt64 0 3 _) lkX10_85 ok_X10_in ⟨rfl, rfl, Nat.le_of_ble_eq_true rfl, Nat.le_of_ble_eq_true rfl⟩ (pw_S hK hN (hP.sub (ws' := []) [] rfl) ((d_sub (ws' := []) hD [] (by decide +kernel) rfl).weaken (fun _ _ _ _ => trivial))) rfl hl.1 rfl (Nat.le_of_ble_eq_true rfl) ⟨Nat.le_of_ble_eq_true rfl, Nat.le_of_ble_eq_true rfl⟩ dX10_row_13 (fun r_3 er_3 => ?_)
    rcases er_3 with ⟨er_3, gr_3⟩ | ⟨er_3, gr_3⟩
    · subst er_3
      refine lv_if_eq (tgt := 25) hx hb dX10_row_16 (by decide) (fun c_4 => ?_) (fun c_4 => ?_)
      · first | exact absurd c_4 (by decide) | exact absurd (by decide) c_4
      refine lv_iload_n hx hb dX10_row_19 rfl (lv_at hl 3 rfl) ?_
      refine lv_bipush (v := 60) hx hb dX10_row_20 (by decide) ?_
      refine lv_icmp_le (tgt := 28) hx hb dX10_row_22 (by decide) (fun c_5 => ?_) (fun c_5 => ?_)
      · skip
        refine lv_iload_n hx hb dX10_row_28 rfl (lv_at hl 3 rfl) ?_
        refine lv_if_ge (tgt := 35) hx hb dX10_row_29 (by decide) (fun c_6 => ?_) (fun c_6 => ?_)
        · skip
          refine lv_aload_n hx hb dX10_row_35 rfl (lv_at hl 0 rfl) ?_
          refine va_get (D := D) (ci := 10) (v := .ref x18) (C := RX10) (T := TX10) (N := 38) hx hb hT in_X10 hown hK hP 0 rfl rfl 34 (by decide) (hT _ t1296) (fun _ h9 => h9) rfl dX10_row_36 ?_
          refine lv_iload_n hx hb dX10_row_39 rfl (lv_at hl 1 rfl) ?_
          refine lv_iload_n hx hb dX10_row_40 rfl (lv_at hl 3 rfl) ?_
          refine x_ist hx hb hK hP hD hS 1 0 rfl rfl (by unfold vp_in; decide) dX10_row_41 (fun f41_1 H locs hP9 hD9 hS9 => ?_)
          clear hP hD hS
          have hS := hS9
          have hP := hP9
          have hD := hD9
          clear hP9 hD9 hS9
          replace hP : va_P D vwCl [(x0, .inr (10, [.int 0, .ref x1, .ref x2, .ref x3, .ref x4, .int 0, .ref x5, .int 0, .int 0, .int 0, .int 0, .int 0, .int 0, .int (-1), .ref x6, .ref x7, .ref x8, .ref x9, .ref x10, .ref x11, .int 0, .int 0, .int 0, .ref x12, .ref x13, .ref x14, .int 0, .int 0, .ref x15, .int 0, .ref x16, .int 0, .ref x17, .int 0, .ref x18, .ref x19, .ref x20, .ref x21])), (x18, .inl (k 0, 4, .inl f41_1)), (x19, .inl (k 0, 4, .inl g1)), (x20, .inl (k 2, 240, .inr (.inl g2)))] H := hP
          replace hD : va_D A [(x0, .inr (10, [.int 0, .ref x1, .ref x2, .ref x3, .ref x4, .int 0, .ref x5, .int 0, .int 0, .int 0, .int 0, .int 0, .int 0, .int (-1), .ref x6, .ref x7, .ref x8, .ref x9, .ref x10, .ref x11, .int 0, .int 0, .int 0, .ref x12, .ref x13, .ref x14, .int 0, .int 0, .ref x15, .int 0, .ref x16, .int 0, .ref x17, .int 0, .ref x18, .ref x19, .ref x20, .ref x21])), (x18, .inl (k 0, 4, .inl f41_1)), (x19, .inl (k 0, 4, .inl g1)), (x20, .inl (k 2, 240, .inr (.inl g2)))] := hD
          refine lv_aload_n hx hb dX10_row_42 rfl (lv_at hl 0 rfl) ?_
          refine va_get (D := D) (ci := 10) (v := .ref x19) (C := RX10) (T := TX10) (N := 38) hx hb hT in_X10 hown hK hP 0 rfl rfl 35 (by decide) (hT _ t1297) (fun _ h9 => h9) rfl dX10_row_43 ?_
          refine lv_iload_n hx hb dX10_row_46 rfl (lv_at hl 1 rfl) ?_
          refine lv_iload_n hx hb dX10_row_47 rfl (lv_at hl 2 rfl) ?_
          refine x_ist hx hb hK hP hD hS 2 0 rfl rfl (by unfold vp_in; decide) dX10_row_48 (fun f48_2 H locs hP9 hD9 hS9 => ?_)
          clear hP hD hS
          have hS := hS9
          have hP := hP9
          have hD := hD9
          clear hP9 hD9 hS9
          replace hP : va_P D vwCl [(x0, .inr (10, [.int 0, .ref x1, .ref x2, .ref x3, .ref x4, .int 0, .ref x5, .int 0, .int 0, .int 0, .int 0, .int 0, .int 0, .int (-1), .ref x6, .ref x7, .ref x8, .ref x9, .ref x10, .ref x11, .int 0, .int 0, .int 0, .ref x12, .ref x13, .ref x14, .int 0, .int 0, .ref x15, .int 0, .ref x16, .int 0, .ref x17, .int 0, .ref x18, .ref x19, .ref x20, .ref x21])), (x18, .inl (k 0, 4, .inl f41_1)), (x19, .inl (k 0, 4, .inl f48_2)), (x20, .inl (k 2, 240, .inr (.inl g2)))] H := hP
          replace hD : va_D A [(x0, .inr (10, [.int 0, .ref x1, .ref x2, .ref x3, .ref x4, .int 0, .ref x5, .int 0, .int 0, .int 0, .int 0, .int 0, .int 0, .int (-1), .ref x6, .ref x7, .ref x8, .ref x9, .ref x10, .ref x11, .int 0, .int 0, .int 0, .ref x12, .ref x13, .ref x14, .int 0, .int 0, .ref x15, .int 0, .ref x16, .int 0, .ref x17, .int 0, .ref x18, .ref x19, .ref x20, .ref x21])), (x18, .inl (k 0, 4, .inl f41_1)), (x19, .inl (k 0, 4, .inl f48_2)), (x20, .inl (k 2, 240, .inr (.inl g2)))] := hD
          refine lv_iconst (v := 0) hx hb dX10_row_49 (by decide) ?_
          refine lv_istore (lv' := [(4, .int 0), (0, .ref x0), (1, .int 0), (2, .int p1), (3, .int p2)]) hx hb dX10_row_50 hl (by decide) rfl (fun ls hl => ?_)
          refine m_ro0  hx hb hT hown hK (fun H locs gr3 ls hP hD hS hl => ?_) 61 0 (Nat.zero_le _) (by decide) _ _ g2 ls hP hD hS (lv_sub hl [0, 1, 2, 3, 4] rfl)
          refine lv_iconst (v := 0) hx hb dX10_row_78 (by decide) ?_
          have hP9 := hP.sub (ws' := []) [] rfl
          have hD9 := d_sub (ws' := []) hD [] (by decide +kernel) rfl
          have hK9 := hK.sub (tys' := []) [] rfl
          exact W.iret (v := 0) hx hb hr (fun t ht hW => ⟨⟨0, mkU [] [], rfl, (a_row_0 (show in4 0 from ⟨by decide, by decide⟩) (in4_of gr_3) c_5 (Int32.not_lt.mpr c_6)), by rw [ht]; exact hP9, va_K.moved hW.alike hK9, by rw [hAe]; exact hD9⟩, by rw [hAe]; exact hS.F ht⟩) hS.2.2 dX10_row_79
        · skip
          refine lv_bipush (v := (-3)) hx hb dX10_row_32 (by decide) ?_
          have hP9 := hP.sub (ws' := []) [] rfl
          have hD9 := d_sub (ws' := []) hD [] (by decide +kernel) rfl
          have hK9 := hK.sub (tys' := []) [] rfl
          exact W.iret (v := (-3)) hx hb hr (fun t ht hW => ⟨⟨(-3), mkU [] [], rfl, (a_row_3 (show in4 0 from ⟨by decide, by decide⟩) (in4_of gr_3) c_5 (Int32.not_le.mp c_6)), by rw [ht]; exact hP9, va_K.moved hW.alike hK9, by rw [hAe]; exact hD9⟩, by rw [hAe]; exact hS.F ht⟩) hS.2.2 dX10_row_34
      · skip
        refine lv_bipush (v := (-2)) hx hb dX10_row_25 (by decide) ?_
        have hP9 := hP.sub (ws' := []) [] rfl
        have hD9 := d_sub (ws' := []) hD [] (by decide +kernel) rfl
        have hK9 := hK.sub (tys' := []) [] rfl
        exact W.iret (v := (-2)) hx hb hr (fun t ht hW => ⟨⟨(-2), mkU [] [], rfl, (a_row_2 (Or.inr (Or.inr (Int32.not_le.mp c_5)))), by rw [ht]; exact hP9, va_K.moved hW.alike hK9, by rw [hAe]; exact hD9⟩, by rw [hAe]; exact hS.F ht⟩) hS.2.2 dX10_row_27
    · subst er_3
      refine lv_if_eq (tgt := 25) hx hb dX10_row_16 (by decide) (fun c_7 => ?_) (fun c_7 => ?_)
      rotate_left
      · first | exact absurd c_7 (by decide) | exact absurd (by decide) c_7
      refine lv_bipush (v := (-2)) hx hb dX10_row_25 (by decide) ?_
      have hP9 := hP.sub (ws' := []) [] rfl
      have hD9 := d_sub (ws' := []) hD [] (by decide +kernel) rfl
      have hK9 := hK.sub (tys' := []) [] rfl
      exact W.iret (v := (-2)) hx hb hr (fun t ht hW => ⟨⟨(-2), mkU [] [], rfl, (a_row_2 (Or.inr (Or.inl (out4_of gr_3)))), by rw [ht]; exact hP9, va_K.moved hW.alike hK9, by rw [hAe]; exact hD9⟩, by rw [hAe]; exact hS.F ht⟩) hS.2.2 dX10_row_27
  · subst er_1
    exact absurd gr_1 (by decide)
set_option maxHeartbeats 4000000 in
set_option maxRecDepth 100000 in
theorem m_ro1 {p : Program} {l : Launch} {e : Env} {R : Room} {s : State} {m : MethodId} {args : Array Value} {below : List Frame} {meth : Method} {c : Code} {cells slots : Nat} {Q : State → Prop} {D : va_G} {k : Nat → ClassId} {A : Nat → Prop} {H0 : Heap} {x0 x1 x2 x3 x4 x5 x6 x7 x8 x9 x10 x11 x12 x13 x14 x15 x16 x17 x18 x19 x20 x21 : Nat} {ga gb : Nat → Int32} {pa pb : Int32} (hx : p.tables.exec = Jvm.exec) (hb : c.code = cX10_row) (hT : ∀ w ∈ TB, w.before args s = true) (hown : s.vm.findClass RX10 = some m.cls) (hK : va_K D vwCl (KT k) s)
    (hend : ∀ (H : Heap) (locs : List Loc) (g : Nat → Int64) (ls : Array Slot), va_P D vwCl [(x0, .inr (10, [.int 0, .ref x1, .ref x2, .ref x3, .ref x4, .int 0, .ref x5, .int 0, .int 0, .int 0, .int 0, .int 0, .int 0, .int (-1), .ref x6, .ref x7, .ref x8, .ref x9, .ref x10, .ref x11, .int 0, .int 0, .int 0, .ref x12, .ref x13, .ref x14, .int 0, .int 0, .ref x15, .int 0, .ref x16, .int 0, .ref x17, .int 0, .ref x18, .ref x19, .ref x20, .ref x21])), (x18, .inl (k 0, 4, .inl ga)), (x19, .inl (k 0, 4, .inl gb)), (x20, .inl (k 2, 240, .inr (.inl g)))] H → va_D A [(x0, .inr (10, [.int 0, .ref x1, .ref x2, .ref x3, .ref x4, .int 0, .ref x5, .int 0, .int 0, .int 0, .int 0, .int 0, .int 0, .int (-1), .ref x6, .ref x7, .ref x8, .ref x9, .ref x10, .ref x11, .int 0, .int 0, .int 0, .ref x12, .ref x13, .ref x14, .int 0, .int 0, .ref x15, .int 0, .ref x16, .int 0, .ref x17, .int 0, .ref x18, .ref x19, .ref x20, .ref x21])), (x18, .inl (k 0, 4, .inl ga)), (x19, .inl (k 0, 4, .inl gb)), (x20, .inl (k 2, 240, .inr (.inl g)))] → va_S A H0 H locs → lv_has ls 5 [(4, .int (nI 60)), (0, .ref x0), (1, .int 1), (2, .int pa), (3, .int pb)] → W p l e R s m args below meth c H locs cells slots Q (F0 m 78 ls [])) :
    ∀ (n i : Nat), i ≤ 60 → 60 - i < n → ∀ (H : Heap) (locs : List Loc) (g : Nat → Int64) (ls : Array Slot), va_P D vwCl [(x0, .inr (10, [.int 0, .ref x1, .ref x2, .ref x3, .ref x4, .int 0, .ref x5, .int 0, .int 0, .int 0, .int 0, .int 0, .int 0, .int (-1), .ref x6, .ref x7, .ref x8, .ref x9, .ref x10, .ref x11, .int 0, .int 0, .int 0, .ref x12, .ref x13, .ref x14, .int 0, .int 0, .ref x15, .int 0, .ref x16, .int 0, .ref x17, .int 0, .ref x18, .ref x19, .ref x20, .ref x21])), (x18, .inl (k 0, 4, .inl ga)), (x19, .inl (k 0, 4, .inl gb)), (x20, .inl (k 2, 240, .inr (.inl g)))] H → va_D A [(x0, .inr (10, [.int 0, .ref x1, .ref x2, .ref x3, .ref x4, .int 0, .ref x5, .int 0, .int 0, .int 0, .int 0, .int 0, .int 0, .int (-1), .ref x6, .ref x7, .ref x8, .ref x9, .ref x10, .ref x11, .int 0, .int 0, .int 0, .ref x12, .ref x13, .ref x14, .int 0, .int 0, .ref x15, .int 0, .ref x16, .int 0, .ref x17, .int 0, .ref x18, .ref x19, .ref x20, .ref x21])), (x18, .inl (k 0, 4, .inl ga)), (x19, .inl (k 0, 4, .inl gb)), (x20, .inl (k 2, 240, .inr (.inl g)))] → va_S A H0 H locs → lv_has ls 5 [(4, .int (nI i)), (0, .ref x0), (1, .int 1), (2, .int pa), (3, .int pb)] → W p l e R s m args below meth c H locs cells slots Q (F0 m 52 ls []) := by
  intro n
  induction n with
  | zero => intro i _ h; omega
  | succ n ih =>
    intro i hi hn H locs g ls hP hD hS hl
    refine lv_iload hx hb dX10_row_52 (lv_at hl 0 rfl) ?_
    refine lv_bipush (v := nI 60) hx hb dX10_row_54 (by decide) ?_
    refine lv_icmp_ge (tgt := 78) hx hb dX10_row_56 (by decide) (fun c1 => ?_) (fun c1 => ?_)
    · have hiN : i = 60 := by
        rcases Nat.lt_or_ge i 60 with q | q
        · exact absurd c1 (nI_ge q (by decide))
        · omega
      subst hiN
      exact hend H locs g ls hP hD hS hl
    · have hlt : i < 60 := by
        rcases Nat.lt_or_ge i 60 with q | q
        · exact q
        · exact absurd (nI_le q (by omega)) c1
      have ei : (nI i).toNatClampNeg = i := nI_clamp (by omega)
      refine lv_aload_n hx hb dX10_row_59 rfl (lv_at hl 1 rfl) ?_
      refine va_get (D := D) (ci := 10) (v := .ref x20) (C := RX10) (T := TX10) (N := 38) hx hb hT in_X10 hown hK hP 0 rfl rfl 36 (by decide) (hT _ t1298) (fun _ h9 => h9) rfl dX10_row_60 ?_
      refine lv_bipush (v := 60) hx hb dX10_row_63 (by decide) ?_
      refine lv_iload_n hx hb dX10_row_65 rfl (lv_at hl 2 rfl) ?_
      refine lv_imul hx hb dX10_row_66 ?_
      refine k_top (y := nI 60) (by decide) ?_
      refine lv_iload hx hb dX10_row_67 (lv_at hl 0 rfl) ?_
      refine lv_iadd hx hb dX10_row_69 ?_
      refine k_top (y := nI (60 + i)) (nI_add _ _) ?_
      refine lv_lconst (v := 0) hx hb dX10_row_70 (by decide) ?_
      refine x_lst hx hb hK hP hD hS 3 2 rfl rfl (vp_in_nI (show 60 + i < 240 by omega) (by decide)) dX10_row_71 (fun g2 H locs hP hD hS => ?_)
      have hP : va_P D vwCl [(x0, .inr (10, [.int 0, .ref x1, .ref x2, .ref x3, .ref x4, .int 0, .ref x5, .int 0, .int 0, .int 0, .int 0, .int 0, .int 0, .int (-1), .ref x6, .ref x7, .ref x8, .ref x9, .ref x10, .ref x11, .int 0, .int 0, .int 0, .ref x12, .ref x13, .ref x14, .int 0, .int 0, .ref x15, .int 0, .ref x16, .int 0, .ref x17, .int 0, .ref x18, .ref x19, .ref x20, .ref x21])), (x18, .inl (k 0, 4, .inl ga)), (x19, .inl (k 0, 4, .inl gb)), (x20, .inl (k 2, 240, .inr (.inl g2)))] H := hP
      have hD : va_D A [(x0, .inr (10, [.int 0, .ref x1, .ref x2, .ref x3, .ref x4, .int 0, .ref x5, .int 0, .int 0, .int 0, .int 0, .int 0, .int 0, .int (-1), .ref x6, .ref x7, .ref x8, .ref x9, .ref x10, .ref x11, .int 0, .int 0, .int 0, .ref x12, .ref x13, .ref x14, .int 0, .int 0, .ref x15, .int 0, .ref x16, .int 0, .ref x17, .int 0, .ref x18, .ref x19, .ref x20, .ref x21])), (x18, .inl (k 0, 4, .inl ga)), (x19, .inl (k 0, 4, .inl gb)), (x20, .inl (k 2, 240, .inr (.inl g2)))] := hD
      refine lv_iinc (v := nI (i + 1)) (lv' := [(4, .int (nI (i + 1))), (0, .ref x0), (1, .int 1), (2, .int pa), (3, .int pb)]) hx hb dX10_row_72 hl (k := 0) rfl (nI_1 i) (by decide) rfl (fun ls hl => ?_)
      refine lv_goto (tgt := 52) hx hb dX10_row_75 (by decide) ?_
      exact ih (i + 1) hlt (by omega) H locs (g2) ls hP hD hS hl

set_option maxHeartbeats 4000000 in
set_option maxRecDepth 100000 in
theorem c_X10_rowW1 (l : Launch) (D : va_G) (k : Nat → ClassId) (x0 x1 x2 x3 x4 x5 x6 x7 x8 x9 x10 x11 x12 x13 x14 x15 x16 x17 x18 x19 x20 x21 : Nat) (g0 : Nat → Int32) (g1 : Nat → Int32) (g2 : Nat → Int64) (p1 p2 : Int32) (sz : Nat) : Met l yX10_row (.code yX10_row cX10_row 5 (some .int) :: TB) (rmw 3 0 0) (va_Pc [.ref x0, .int 1, .int p1, .int p2] (PW D k sz [(x0, .inr (10, [.int 0, .ref x1, .ref x2, .ref x3, .ref x4, .int 0, .ref x5, .int 0, .int 0, .int 0, .int 0, .int 0, .int 0, .int (-1), .ref x6, .ref x7, .ref x8, .ref x9, .ref x10, .ref x11, .int 0, .int 0, .int 0, .ref x12, .ref x13, .ref x14, .int 0, .int 0, .ref x15, .int 0, .ref x16, .int 0, .ref x17, .int 0, .ref x18, .ref x19, .ref x20, .ref x21])), (x18, .inl (k 0, 4, .inl g0)), (x19, .inl (k 0, 4, .inl g1)), (x20, .inl (k 2, 240, .inr (.inl g2)))])) (QI D (S := UT) (fun r u => r = a_row 1 p1 p2) (fun u => []) (fun _ => []) [(x0, .inr (10, [.int 0, .ref x1, .ref x2, .ref x3, .ref x4, .int 0, .ref x5, .int 0, .int 0, .int 0, .int 0, .int 0, .int 0, .int (-1), .ref x6, .ref x7, .ref x8, .ref x9, .ref x10, .ref x11, .int 0, .int 0, .int 0, .ref x12, .ref x13, .ref x14, .int 0, .int 0, .ref x15, .int 0, .ref x16, .int 0, .ref x17, .int 0, .ref x18, .ref x19, .ref x20, .ref x21])), (x18, .inl (k 0, 4, .inl g0)), (x19, .inl (k 0, 4, .inl g1)), (x20, .inl (k 2, 240, .inr (.inl g2)))] sz) 0 0 (va_A [(x0, .inr (10, [.int 0, .ref x1, .ref x2, .ref x3, .ref x4, .int 0, .ref x5, .int 0, .int 0, .int 0, .int 0, .int 0, .int 0, .int (-1), .ref x6, .ref x7, .ref x8, .ref x9, .ref x10, .ref x11, .int 0, .int 0, .int 0, .ref x12, .ref x13, .ref x14, .int 0, .int 0, .ref x15, .int 0, .ref x16, .int 0, .ref x17, .int 0, .ref x18, .ref x19, .ref x20, .ref x21])), (x18, .inl (k 0, 4, .inl g0)), (x19, .inl (k 0, 4, .inl g1)), (x20, .inl (k 2, 240, .inr (.inl g2)))] sz) := by
  refine Met.ofW (cc := cX10_row) (maxL := 5) (ret := (some .int)) (by decide) rfl ?_
  intro p e s m args below meth c s₁ B hml hv
  obtain ⟨rfl, hsz, hP, hK, hD0, hN⟩ := hv
  have hx := B.exec
  have hb := B.bytes
  have hr := B.returns
  have hT : ∀ w ∈ TB, w.before ([.ref x0, .int 1, .int p1, .int p2] : List Value).toArray s = true := fun w h => atoms_spec (ws := .code yX10_row cX10_row 5 (some .int) :: TB) B.pre w (List.mem_cons_of_mem _ h)
  have hown : s.vm.findClass RX10 = some m.cls := findClass_of_methodNamed B.named
  have S : CallFix p m c cX10_row 5 s _ TB RX10 := ⟨hx, hb, hml, hown, hT⟩
  subst hsz
  have hD := hD0.self (sz := s.heap.size)
  generalize hAe : va_A [(x0, .inr (10, [.int 0, .ref x1, .ref x2, .ref x3, .ref x4, .int 0, .ref x5, .int 0, .int 0, .int 0, .int 0, .int 0, .int 0, .int (-1), .ref x6, .ref x7, .ref x8, .ref x9, .ref x10, .ref x11, .int 0, .int 0, .int 0, .ref x12, .ref x13, .ref x14, .int 0, .int 0, .ref x15, .int 0, .ref x16, .int 0, .ref x17, .int 0, .ref x18, .ref x19, .ref x20, .ref x21])), (x18, .inl (k 0, 4, .inl g0)), (x19, .inl (k 0, 4, .inl g1)), (x20, .inl (k 2, 240, .inr (.inl g2)))] s.heap.size = A at hD ⊢
  have hA : ∀ q : Nat, s.heap.size ≤ q → A q := fun q h => by rw [← hAe]; exact Or.inr h
  have hS : va_S A s.heap s.heap [] := va_S.rf
  have hP : va_P D vwCl [(x0, .inr (10, [.int 0, .ref x1, .ref x2, .ref x3, .ref x4, .int 0, .ref x5, .int 0, .int 0, .int 0, .int 0, .int 0, .int 0, .int (-1), .ref x6, .ref x7, .ref x8, .ref x9, .ref x10, .ref x11, .int 0, .int 0, .int 0, .ref x12, .ref x13, .ref x14, .int 0, .int 0, .ref x15, .int 0, .ref x16, .int 0, .ref x17, .int 0, .ref x18, .ref x19, .ref x20, .ref x21])), (x18, .inl (k 0, 4, .inl g0)), (x19, .inl (k 0, 4, .inl g1)), (x20, .inl (k 2, 240, .inr (.inl g2)))] s.heap := hP
  have hl := lv_entry ([.ref x0, .int 1, .int p1, .int p2]) (n := 5) (Nat.le_of_ble_eq_true rfl)
  rw [lg_entry_eq]
  generalize (lg_sl ([.ref x0, .int 1, .int p1, .int p2]) ++ List.replicate (5 - (lg_sl ([.ref x0, .int 1, .int p1, .int p2])).length) Slot.unset).toArray = ls at hl ⊢
  have hl : lv_has ls 5 [(0, .ref x0), (1, .int 1), (2, .int p1), (3, .int p2)] := hl
  refine lv_iload_n hx hb dX10_row_0 rfl (lv_at hl 1 rfl) ?_
  refine ro_S (As := [.int 1]) (rest := []) S (c_X10_isSlotP l D k 1 _) lkX10_300 ok_X10_isSlot ⟨rfl, rfl, Nat.le_of_ble_eq_true rfl, Nat.le_of_ble_eq_true rfl⟩ (pw_S hK hN (hP.sub (ws' := []) [] rfl) ((d_sub (ws' := []) hD [] (by decide +kernel) rfl).weaken (fun _ _ _ _ => trivial))) rfl hl.1 rfl (Nat.le_of_ble_eq_true rfl) ⟨Nat.le_of_ble_eq_true rfl, Nat.le_of_ble_eq_true rfl⟩ dX10_row_1 (fun r_1 er_1 => ?_)
  rcases er_1 with ⟨er_1, gr_1⟩ | ⟨er_1, gr_1⟩
  · subst er_1
    refine lv_if_eq (tgt := 25) hx hb dX10_row_4 (by decide) (fun c_2 => ?_) (fun c_2 => ?_)
    · first | exact absurd c_2 (by decide) | exact absurd (by decide) c_2
    refine lv_iload_n hx hb dX10_row_7 rfl (lv_at hl 2 rfl) ?_
    refine lv_i2l (v := p1.toInt64) hx hb dX10_row_8 rfl ?_
    refine lv_lconst (v := 0) hx hb dX10_row_9 (by decide) ?_
    refine lv_ldc2 (v := 3) hx hb hown (hT _ t1665) dX10_row_10 ?_
    refine ro_S (As := [.long p1.toInt64, .long 0, .long 3]) (rest := []) S (c_X10_inP l D k p1.toInt64 0 3 _) lkX10_85 ok_X10_in ⟨rfl, rfl, Nat.le_of_ble_eq_true rfl, Nat.le_of_ble_eq_true rfl⟩ (pw_S hK hN (hP.sub (ws' := []) [] rfl) ((d_sub (ws' := []) hD [] (by decide +kernel) rfl).weaken (fun _ _ _ _ => trivial))) rfl hl.1 rfl (Nat.le_of_ble_eq_true rfl) ⟨Nat.le_of_ble_eq_true rfl, Nat.le_of_ble_eq_true rfl⟩ dX10_row_13 (fun r_3 er_3 => ?_)
    rcases er_3 with ⟨er_3, gr_3⟩ | ⟨er_3, gr_3⟩
    · subst er_3
      refine lv_if_eq (tgt := 25) hx hb dX10_row_16 (by decide) (fun c_4 => ?_) (fun c_4 => ?_)
      · first | exact absurd c_4 (by decide) | exact absurd (by decide) c_4
      refine lv_iload_n hx hb dX10_row_19 rfl (lv_at hl 3 rfl) ?_
      refine lv_bipush (v := 60) hx hb dX10_row_20 (by decide) ?_
      refine lv_icmp_le (tgt := 28) hx hb dX10_row_22 (by decide) (fun c_5 => ?_) (fun c_5 => ?_)
      · skip
        refine lv_iload_n hx hb dX10_row_28 rfl (lv_at hl 3 rfl) ?_
        refine lv_if_ge (tgt := 35) hx hb dX10_row_29 (by decide) (fun c_6 => ?_) (fun c_6 => ?_)
        · skip
          refine lv_aload_n hx hb dX10_row_35 rfl (lv_at hl 0 rfl) ?_
          refine va_get (D := D) (ci := 10) (v := .ref x18) (C := RX10) (T := TX10) (N := 38) hx hb hT in_X10 hown hK hP 0 rfl rfl 34 (by decide) (hT _ t1296) (fun _ h9 => h9) rfl dX10_row_36 ?_
          refine lv_iload_n hx hb dX10_row_39 rfl (lv_at hl 1 rfl) ?_
          refine lv_iload_n hx hb dX10_row_40 rfl (lv_at hl 3 rfl) ?_
          refine x_ist hx hb hK hP hD hS 1 0 rfl rfl (by unfold vp_in; decide) dX10_row_41 (fun f41_1 H locs hP9 hD9 hS9 => ?_)
          clear hP hD hS
          have hS := hS9
          have hP := hP9
          have hD := hD9
          clear hP9 hD9 hS9
          replace hP : va_P D vwCl [(x0, .inr (10, [.int 0, .ref x1, .ref x2, .ref x3, .ref x4, .int 0, .ref x5, .int 0, .int 0, .int 0, .int 0, .int 0, .int 0, .int (-1), .ref x6, .ref x7, .ref x8, .ref x9, .ref x10, .ref x11, .int 0, .int 0, .int 0, .ref x12, .ref x13, .ref x14, .int 0, .int 0, .ref x15, .int 0, .ref x16, .int 0, .ref x17, .int 0, .ref x18, .ref x19, .ref x20, .ref x21])), (x18, .inl (k 0, 4, .inl f41_1)), (x19, .inl (k 0, 4, .inl g1)), (x20, .inl (k 2, 240, .inr (.inl g2)))] H := hP
          replace hD : va_D A [(x0, .inr (10, [.int 0, .ref x1, .ref x2, .ref x3, .ref x4, .int 0, .ref x5, .int 0, .int 0, .int 0, .int 0, .int 0, .int 0, .int (-1), .ref x6, .ref x7, .ref x8, .ref x9, .ref x10, .ref x11, .int 0, .int 0, .int 0, .ref x12, .ref x13, .ref x14, .int 0, .int 0, .ref x15, .int 0, .ref x16, .int 0, .ref x17, .int 0, .ref x18, .ref x19, .ref x20, .ref x21])), (x18, .inl (k 0, 4, .inl f41_1)), (x19, .inl (k 0, 4, .inl g1)), (x20, .inl (k 2, 240, .inr (.inl g2)))] := hD
          refine lv_aload_n hx hb dX10_row_42 rfl (lv_at hl 0 rfl) ?_
          refine va_get (D := D) (ci := 10) (v := .ref x19) (C := RX10) (T := TX10) (N := 38) hx hb hT in_X10 hown hK hP 0 rfl rfl 35 (by decide) (hT _ t1297) (fun _ h9 => h9) rfl dX10_row_43 ?_
          refine lv_iload_n hx hb dX10_row_46 rfl (lv_at hl 1 rfl) ?_
          refine lv_iload_n hx hb dX10_row_47 rfl (lv_at hl 2 rfl) ?_
          refine x_ist hx hb hK hP hD hS 2 0 rfl rfl (by unfold vp_in; decide) dX10_row_48 (fun f48_2 H locs hP9 hD9 hS9 => ?_)
          clear hP hD hS
          have hS := hS9
          have hP := hP9
          have hD := hD9
          clear hP9 hD9 hS9
          replace hP : va_P D vwCl [(x0, .inr (10, [.int 0, .ref x1, .ref x2, .ref x3, .ref x4, .int 0, .ref x5, .int 0, .int 0, .int 0, .int 0, .int 0, .int 0, .int (-1), .ref x6, .ref x7, .ref x8, .ref x9, .ref x10, .ref x11, .int 0, .int 0, .int 0, .ref x12, .ref x13, .ref x14, .int 0, .int 0, .ref x15, .int 0, .ref x16, .int 0, .ref x17, .int 0, .ref x18, .ref x19, .ref x20, .ref x21])), (x18, .inl (k 0, 4, .inl f41_1)), (x19, .inl (k 0, 4, .inl f48_2)), (x20, .inl (k 2, 240, .inr (.inl g2)))] H := hP
          replace hD : va_D A [(x0, .inr (10, [.int 0, .ref x1, .ref x2, .ref x3, .ref x4, .int 0, .ref x5, .int 0, .int 0, .int 0, .int 0, .int 0, .int 0, .int (-1), .ref x6, .ref x7, .ref x8, .ref x9, .ref x10, .ref x11, .int 0, .int 0, .int 0, .ref x12, .ref x13, .ref x14, .int 0, .int 0, .ref x15, .int 0, .ref x16, .int 0, .ref x17, .int 0, .ref x18, .ref x19, .ref x20, .ref x21])), (x18, .inl (k 0, 4, .inl f41_1)), (x19, .inl (k 0, 4, .inl f48_2)), (x20, .inl (k 2, 240, .inr (.inl g2)))] := hD
          refine lv_iconst (v := 0) hx hb dX10_row_49 (by decide) ?_
          refine lv_istore (lv' := [(4, .int 0), (0, .ref x0), (1, .int 1), (2, .int p1), (3, .int p2)]) hx hb dX10_row_50 hl (by decide) rfl (fun ls hl => ?_)
          refine m_ro1  hx hb hT hown hK (fun H locs gr3 ls hP hD hS hl => ?_) 61 0 (Nat.zero_le _) (by decide) _ _ g2 ls hP hD hS (lv_sub hl [0, 1, 2, 3, 4] rfl)
          refine lv_iconst (v := 0) hx hb dX10_row_78 (by decide) ?_
          have hP9 := hP.sub (ws' := []) [] rfl
          have hD9 := d_sub (ws' := []) hD [] (by decide +kernel) rfl
          have hK9 := hK.sub (tys' := []) [] rfl
          exact W.iret (v := 0) hx hb hr (fun t ht hW => ⟨⟨0, mkU [] [], rfl, (a_row_0 (show in4 1 from ⟨by decide, by decide⟩) (in4_of gr_3) c_5 (Int32.not_lt.mpr c_6)), by rw [ht]; exact hP9, va_K.moved hW.alike hK9, by rw [hAe]; exact hD9⟩, by rw [hAe]; exact hS.F ht⟩) hS.2.2 dX10_row_79
        · skip
          refine lv_bipush (v := (-3)) hx hb dX10_row_32 (by decide) ?_
          have hP9 := hP.sub (ws' := []) [] rfl
          have hD9 := d_sub (ws' := []) hD [] (by decide +kernel) rfl
          have hK9 := hK.sub (tys' := []) [] rfl
          exact W.iret (v := (-3)) hx hb hr (fun t ht hW => ⟨⟨(-3), mkU [] [], rfl, (a_row_3 (show in4 1 from ⟨by decide, by decide⟩) (in4_of gr_3) c_5 (Int32.not_le.mp c_6)), by rw [ht]; exact hP9, va_K.moved hW.alike hK9, by rw [hAe]; exact hD9⟩, by rw [hAe]; exact hS.F ht⟩) hS.2.2 dX10_row_34
      · skip
        refine lv_bipush (v := (-2)) hx hb dX10_row_25 (by decide) ?_
        have hP9 := hP.sub (ws' := []) [] rfl
        have hD9 := d_sub (ws' := []) hD [] (by decide +kernel) rfl
        have hK9 := hK.sub (tys' := []) [] rfl
        exact W.iret (v := (-2)) hx hb hr (fun t ht hW => ⟨⟨(-2), mkU [] [], rfl, (a_row_2 (Or.inr (Or.inr (Int32.not_le.mp c_5)))), by rw [ht]; exact hP9, va_K.moved hW.alike hK9, by rw [hAe]; exact hD9⟩, by rw [hAe]; exact hS.F ht⟩) hS.2.2 dX10_row_27
    · subst er_3
      refine lv_if_eq (tgt := 25) hx hb dX10_row_16 (by decide) (fun c_7 => ?_) (fun c_7 => ?_)
      rotate_left
      · first | exact absurd c_7 (by decide) | exact absurd (by decide) c_7
      refine lv_bipush (v := (-2)) hx hb dX10_row_25 (by decide) ?_
      have hP9 := hP.sub (ws' := []) [] rfl
      have hD9 := d_sub (ws' := []) hD [] (by decide +kernel) rfl
      have hK9 := hK.sub (tys' := []) [] rfl
      exact W.iret (v := (-2)) hx hb hr (fun t ht hW => ⟨⟨(-2), mkU [] [], rfl, (a_row_2 (Or.inr (Or.inl (out4_of gr_3)))), by rw [ht]; exact hP9, va_K.moved hW.alike hK9, by rw [hAe]; exact hD9⟩, by rw [hAe]; exact hS.F ht⟩) hS.2.2 dX10_row_27
  · subst er_1
    exact absurd gr_1 (by decide)
set_option maxHeartbeats 4000000 in
set_option maxRecDepth 100000 in
theorem m_ro2 {p : Program} {l : Launch} {e : Env} {R : Room} {s : State} {m : MethodId} {args : Array Value} {below : List Frame} {meth : Method} {c : Code} {cells slots : Nat} {Q : State → Prop} {D : va_G} {k : Nat → ClassId} {A : Nat → Prop} {H0 : Heap} {x0 x1 x2 x3 x4 x5 x6 x7 x8 x9 x10 x11 x12 x13 x14 x15 x16 x17 x18 x19 x20 x21 : Nat} {ga gb : Nat → Int32} {pa pb : Int32} (hx : p.tables.exec = Jvm.exec) (hb : c.code = cX10_row) (hT : ∀ w ∈ TB, w.before args s = true) (hown : s.vm.findClass RX10 = some m.cls) (hK : va_K D vwCl (KT k) s)
    (hend : ∀ (H : Heap) (locs : List Loc) (g : Nat → Int64) (ls : Array Slot), va_P D vwCl [(x0, .inr (10, [.int 0, .ref x1, .ref x2, .ref x3, .ref x4, .int 0, .ref x5, .int 0, .int 0, .int 0, .int 0, .int 0, .int 0, .int (-1), .ref x6, .ref x7, .ref x8, .ref x9, .ref x10, .ref x11, .int 0, .int 0, .int 0, .ref x12, .ref x13, .ref x14, .int 0, .int 0, .ref x15, .int 0, .ref x16, .int 0, .ref x17, .int 0, .ref x18, .ref x19, .ref x20, .ref x21])), (x18, .inl (k 0, 4, .inl ga)), (x19, .inl (k 0, 4, .inl gb)), (x20, .inl (k 2, 240, .inr (.inl g)))] H → va_D A [(x0, .inr (10, [.int 0, .ref x1, .ref x2, .ref x3, .ref x4, .int 0, .ref x5, .int 0, .int 0, .int 0, .int 0, .int 0, .int 0, .int (-1), .ref x6, .ref x7, .ref x8, .ref x9, .ref x10, .ref x11, .int 0, .int 0, .int 0, .ref x12, .ref x13, .ref x14, .int 0, .int 0, .ref x15, .int 0, .ref x16, .int 0, .ref x17, .int 0, .ref x18, .ref x19, .ref x20, .ref x21])), (x18, .inl (k 0, 4, .inl ga)), (x19, .inl (k 0, 4, .inl gb)), (x20, .inl (k 2, 240, .inr (.inl g)))] → va_S A H0 H locs → lv_has ls 5 [(4, .int (nI 60)), (0, .ref x0), (1, .int 2), (2, .int pa), (3, .int pb)] → W p l e R s m args below meth c H locs cells slots Q (F0 m 78 ls [])) :
    ∀ (n i : Nat), i ≤ 60 → 60 - i < n → ∀ (H : Heap) (locs : List Loc) (g : Nat → Int64) (ls : Array Slot), va_P D vwCl [(x0, .inr (10, [.int 0, .ref x1, .ref x2, .ref x3, .ref x4, .int 0, .ref x5, .int 0, .int 0, .int 0, .int 0, .int 0, .int 0, .int (-1), .ref x6, .ref x7, .ref x8, .ref x9, .ref x10, .ref x11, .int 0, .int 0, .int 0, .ref x12, .ref x13, .ref x14, .int 0, .int 0, .ref x15, .int 0, .ref x16, .int 0, .ref x17, .int 0, .ref x18, .ref x19, .ref x20, .ref x21])), (x18, .inl (k 0, 4, .inl ga)), (x19, .inl (k 0, 4, .inl gb)), (x20, .inl (k 2, 240, .inr (.inl g)))] H → va_D A [(x0, .inr (10, [.int 0, .ref x1, .ref x2, .ref x3, .ref x4, .int 0, .ref x5, .int 0, .int 0, .int 0, .int 0, .int 0, .int 0, .int (-1), .ref x6, .ref x7, .ref x8, .ref x9, .ref x10, .ref x11, .int 0, .int 0, .int 0, .ref x12, .ref x13, .ref x14, .int 0, .int 0, .ref x15, .int 0, .ref x16, .int 0, .ref x17, .int 0, .ref x18, .ref x19, .ref x20, .ref x21])), (x18, .inl (k 0, 4, .inl ga)), (x19, .inl (k 0, 4, .inl gb)), (x20, .inl (k 2, 240, .inr (.inl g)))] → va_S A H0 H locs → lv_has ls 5 [(4, .int (nI i)), (0, .ref x0), (1, .int 2), (2, .int pa), (3, .int pb)] → W p l e R s m args below meth c H locs cells slots Q (F0 m 52 ls []) := by
  intro n
  induction n with
  | zero => intro i _ h; omega
  | succ n ih =>
    intro i hi hn H locs g ls hP hD hS hl
    refine lv_iload hx hb dX10_row_52 (lv_at hl 0 rfl) ?_
    refine lv_bipush (v := nI 60) hx hb dX10_row_54 (by decide) ?_
    refine lv_icmp_ge (tgt := 78) hx hb dX10_row_56 (by decide) (fun c1 => ?_) (fun c1 => ?_)
    · have hiN : i = 60 := by
        rcases Nat.lt_or_ge i 60 with q | q
        · exact absurd c1 (nI_ge q (by decide))
        · omega
      subst hiN
      exact hend H locs g ls hP hD hS hl
    · have hlt : i < 60 := by
        rcases Nat.lt_or_ge i 60 with q | q
        · exact q
        · exact absurd (nI_le q (by omega)) c1
      have ei : (nI i).toNatClampNeg = i := nI_clamp (by omega)
      refine lv_aload_n hx hb dX10_row_59 rfl (lv_at hl 1 rfl) ?_
      refine va_get (D := D) (ci := 10) (v := .ref x20) (C := RX10) (T := TX10) (N := 38) hx hb hT in_X10 hown hK hP 0 rfl rfl 36 (by decide) (hT _ t1298) (fun _ h9 => h9) rfl dX10_row_60 ?_
      refine lv_bipush (v := 60) hx hb dX10_row_63 (by decide) ?_
      refine lv_iload_n hx hb dX10_row_65 rfl (lv_at hl 2 rfl) ?_
      refine lv_imul hx hb dX10_row_66 ?_
      refine k_top (y := nI 120) (by decide) ?_
      refine lv_iload hx hb dX10_row_67 (lv_at hl 0 rfl) ?_
      refine lv_iadd hx hb dX10_row_69 ?_
      refine k_top (y := nI (120 + i)) (nI_add _ _) ?_
      refine lv_lconst (v := 0) hx hb dX10_row_70 (by decide) ?_
      refine x_lst hx hb hK hP hD hS 3 2 rfl rfl (vp_in_nI (show 120 + i < 240 by omega) (by decide)) dX10_row_71 (fun g2 H locs hP hD hS => ?_)
      have hP : va_P D vwCl [(x0, .inr (10, [.int 0, .ref x1, .ref x2, .ref x3, .ref x4, .int 0, .ref x5, .int 0, .int 0, .int 0, .int 0, .int 0, .int 0, .int (-1), .ref x6, .ref x7, .ref x8, .ref x9, .ref x10, .ref x11, .int 0, .int 0, .int 0, .ref x12, .ref x13, .ref x14, .int 0, .int 0, .ref x15, .int 0, .ref x16, .int 0, .ref x17, .int 0, .ref x18, .ref x19, .ref x20, .ref x21])), (x18, .inl (k 0, 4, .inl ga)), (x19, .inl (k 0, 4, .inl gb)), (x20, .inl (k 2, 240, .inr (.inl g2)))] H := hP
      have hD : va_D A [(x0, .inr (10, [.int 0, .ref x1, .ref x2, .ref x3, .ref x4, .int 0, .ref x5, .int 0, .int 0, .int 0, .int 0, .int 0, .int 0, .int (-1), .ref x6, .ref x7, .ref x8, .ref x9, .ref x10, .ref x11, .int 0, .int 0, .int 0, .ref x12, .ref x13, .ref x14, .int 0, .int 0, .ref x15, .int 0, .ref x16, .int 0, .ref x17, .int 0, .ref x18, .ref x19, .ref x20, .ref x21])), (x18, .inl (k 0, 4, .inl ga)), (x19, .inl (k 0, 4, .inl gb)), (x20, .inl (k 2, 240, .inr (.inl g2)))] := hD
      refine lv_iinc (v := nI (i + 1)) (lv' := [(4, .int (nI (i + 1))), (0, .ref x0), (1, .int 2), (2, .int pa), (3, .int pb)]) hx hb dX10_row_72 hl (k := 0) rfl (nI_1 i) (by decide) rfl (fun ls hl => ?_)
      refine lv_goto (tgt := 52) hx hb dX10_row_75 (by decide) ?_
      exact ih (i + 1) hlt (by omega) H locs (g2) ls hP hD hS hl

set_option maxHeartbeats 4000000 in
set_option maxRecDepth 100000 in
theorem c_X10_rowW2 (l : Launch) (D : va_G) (k : Nat → ClassId) (x0 x1 x2 x3 x4 x5 x6 x7 x8 x9 x10 x11 x12 x13 x14 x15 x16 x17 x18 x19 x20 x21 : Nat) (g0 : Nat → Int32) (g1 : Nat → Int32) (g2 : Nat → Int64) (p1 p2 : Int32) (sz : Nat) : Met l yX10_row (.code yX10_row cX10_row 5 (some .int) :: TB) (rmw 3 0 0) (va_Pc [.ref x0, .int 2, .int p1, .int p2] (PW D k sz [(x0, .inr (10, [.int 0, .ref x1, .ref x2, .ref x3, .ref x4, .int 0, .ref x5, .int 0, .int 0, .int 0, .int 0, .int 0, .int 0, .int (-1), .ref x6, .ref x7, .ref x8, .ref x9, .ref x10, .ref x11, .int 0, .int 0, .int 0, .ref x12, .ref x13, .ref x14, .int 0, .int 0, .ref x15, .int 0, .ref x16, .int 0, .ref x17, .int 0, .ref x18, .ref x19, .ref x20, .ref x21])), (x18, .inl (k 0, 4, .inl g0)), (x19, .inl (k 0, 4, .inl g1)), (x20, .inl (k 2, 240, .inr (.inl g2)))])) (QI D (S := UT) (fun r u => r = a_row 2 p1 p2) (fun u => []) (fun _ => []) [(x0, .inr (10, [.int 0, .ref x1, .ref x2, .ref x3, .ref x4, .int 0, .ref x5, .int 0, .int 0, .int 0, .int 0, .int 0, .int 0, .int (-1), .ref x6, .ref x7, .ref x8, .ref x9, .ref x10, .ref x11, .int 0, .int 0, .int 0, .ref x12, .ref x13, .ref x14, .int 0, .int 0, .ref x15, .int 0, .ref x16, .int 0, .ref x17, .int 0, .ref x18, .ref x19, .ref x20, .ref x21])), (x18, .inl (k 0, 4, .inl g0)), (x19, .inl (k 0, 4, .inl g1)), (x20, .inl (k 2, 240, .inr (.inl g2)))] sz) 0 0 (va_A [(x0, .inr (10, [.int 0, .ref x1, .ref x2, .ref x3, .ref x4, .int 0, .ref x5, .int 0, .int 0, .int 0, .int 0, .int 0, .int 0, .int (-1), .ref x6, .ref x7, .ref x8, .ref x9, .ref x10, .ref x11, .int 0, .int 0, .int 0, .ref x12, .ref x13, .ref x14, .int 0, .int 0, .ref x15, .int 0, .ref x16, .int 0, .ref x17, .int 0, .ref x18, .ref x19, .ref x20, .ref x21])), (x18, .inl (k 0, 4, .inl g0)), (x19, .inl (k 0, 4, .inl g1)), (x20, .inl (k 2, 240, .inr (.inl g2)))] sz) := by
  refine Met.ofW (cc := cX10_row) (maxL := 5) (ret := (some .int)) (by decide) rfl ?_
  intro p e s m args below meth c s₁ B hml hv
  obtain ⟨rfl, hsz, hP, hK, hD0, hN⟩ := hv
  have hx := B.exec
  have hb := B.bytes
  have hr := B.returns
  have hT : ∀ w ∈ TB, w.before ([.ref x0, .int 2, .int p1, .int p2] : List Value).toArray s = true := fun w h => atoms_spec (ws := .code yX10_row cX10_row 5 (some .int) :: TB) B.pre w (List.mem_cons_of_mem _ h)
  have hown : s.vm.findClass RX10 = some m.cls := findClass_of_methodNamed B.named
  have S : CallFix p m c cX10_row 5 s _ TB RX10 := ⟨hx, hb, hml, hown, hT⟩
  subst hsz
  have hD := hD0.self (sz := s.heap.size)
  generalize hAe : va_A [(x0, .inr (10, [.int 0, .ref x1, .ref x2, .ref x3, .ref x4, .int 0, .ref x5, .int 0, .int 0, .int 0, .int 0, .int 0, .int 0, .int (-1), .ref x6, .ref x7, .ref x8, .ref x9, .ref x10, .ref x11, .int 0, .int 0, .int 0, .ref x12, .ref x13, .ref x14, .int 0, .int 0, .ref x15, .int 0, .ref x16, .int 0, .ref x17, .int 0, .ref x18, .ref x19, .ref x20, .ref x21])), (x18, .inl (k 0, 4, .inl g0)), (x19, .inl (k 0, 4, .inl g1)), (x20, .inl (k 2, 240, .inr (.inl g2)))] s.heap.size = A at hD ⊢
  have hA : ∀ q : Nat, s.heap.size ≤ q → A q := fun q h => by rw [← hAe]; exact Or.inr h
  have hS : va_S A s.heap s.heap [] := va_S.rf
  have hP : va_P D vwCl [(x0, .inr (10, [.int 0, .ref x1, .ref x2, .ref x3, .ref x4, .int 0, .ref x5, .int 0, .int 0, .int 0, .int 0, .int 0, .int 0, .int (-1), .ref x6, .ref x7, .ref x8, .ref x9, .ref x10, .ref x11, .int 0, .int 0, .int 0, .ref x12, .ref x13, .ref x14, .int 0, .int 0, .ref x15, .int 0, .ref x16, .int 0, .ref x17, .int 0, .ref x18, .ref x19, .ref x20, .ref x21])), (x18, .inl (k 0, 4, .inl g0)), (x19, .inl (k 0, 4, .inl g1)), (x20, .inl (k 2, 240, .inr (.inl g2)))] s.heap := hP
  have hl := lv_entry ([.ref x0, .int 2, .int p1, .int p2]) (n := 5) (Nat.le_of_ble_eq_true rfl)
  rw [lg_entry_eq]
  generalize (lg_sl ([.ref x0, .int 2, .int p1, .int p2]) ++ List.replicate (5 - (lg_sl ([.ref x0, .int 2, .int p1, .int p2])).length) Slot.unset).toArray = ls at hl ⊢
  have hl : lv_has ls 5 [(0, .ref x0), (1, .int 2), (2, .int p1), (3, .int p2)] := hl
  refine lv_iload_n hx hb dX10_row_0 rfl (lv_at hl 1 rfl) ?_
  refine ro_S (As := [.int 2]) (rest := []) S (c_X10_isSlotP l D k 2 _) lkX10_300 ok_X10_isSlot ⟨rfl, rfl, Nat.le_of_ble_eq_true rfl, Nat.le_of_ble_eq_true rfl⟩ (pw_S hK hN (hP.sub (ws' := []) [] rfl) ((d_sub (ws' := []) hD [] (by decide +kernel) rfl).weaken (fun _ _ _ _ => trivial))) rfl hl.1 rfl (Nat.le_of_ble_eq_true rfl) ⟨Nat.le_of_ble_eq_true rfl, Nat.le_of_ble_eq_true rfl⟩ dX10_row_1 (fun r_1 er_1 => ?_)
  rcases er_1 with ⟨er_1, gr_1⟩ | ⟨er_1, gr_1⟩
  · subst er_1
    refine lv_if_eq (tgt := 25) hx hb dX10_row_4 (by decide) (fun c_2 => ?_) (fun c_2 => ?_)
    · first | exact absurd c_2 (by decide) | exact absurd (by decide) c_2
    refine lv_iload_n hx hb dX10_row_7 rfl (lv_at hl 2 rfl) ?_
    refine lv_i2l (v := p1.toInt64) hx hb dX10_row_8 rfl ?_
    refine lv_lconst (v := 0) hx hb dX10_row_9 (by decide) ?_
    refine lv_ldc2 (v := 3) hx hb hown (hT _ t1665) dX10_row_10 ?_
    refine ro_S (As := [.long p1.toInt64, .long 0, .long 3]) (rest := []) S (c_X10_inP l D k p1.toInt64 0 3 _) lkX10_85 ok_X10_in ⟨rfl, rfl, Nat.le_of_ble_eq_true rfl, Nat.le_of_ble_eq_true rfl⟩ (pw_S hK hN (hP.sub (ws' := []) [] rfl) ((d_sub (ws' := []) hD [] (by decide +kernel) rfl).weaken (fun _ _ _ _ => trivial))) rfl hl.1 rfl (Nat.le_of_ble_eq_true rfl) ⟨Nat.le_of_ble_eq_true rfl, Nat.le_of_ble_eq_true rfl⟩ dX10_row_13 (fun r_3 er_3 => ?_)
    rcases er_3 with ⟨er_3, gr_3⟩ | ⟨er_3, gr_3⟩
    · subst er_3
      refine lv_if_eq (tgt := 25) hx hb dX10_row_16 (by decide) (fun c_4 => ?_) (fun c_4 => ?_)
      · first | exact absurd c_4 (by decide) | exact absurd (by decide) c_4
      refine lv_iload_n hx hb dX10_row_19 rfl (lv_at hl 3 rfl) ?_
      refine lv_bipush (v := 60) hx hb dX10_row_20 (by decide) ?_
      refine lv_icmp_le (tgt := 28) hx hb dX10_row_22 (by decide) (fun c_5 => ?_) (fun c_5 => ?_)
      · skip
        refine lv_iload_n hx hb dX10_row_28 rfl (lv_at hl 3 rfl) ?_
        refine lv_if_ge (tgt := 35) hx hb dX10_row_29 (by decide) (fun c_6 => ?_) (fun c_6 => ?_)
        · skip
          refine lv_aload_n hx hb dX10_row_35 rfl (lv_at hl 0 rfl) ?_
          refine va_get (D := D) (ci := 10) (v := .ref x18) (C := RX10) (T := TX10) (N := 38) hx hb hT in_X10 hown hK hP 0 rfl rfl 34 (by decide) (hT _ t1296) (fun _ h9 => h9) rfl dX10_row_36 ?_
          refine lv_iload_n hx hb dX10_row_39 rfl (lv_at hl 1 rfl) ?_
          refine lv_iload_n hx hb dX10_row_40 rfl (lv_at hl 3 rfl) ?_
          refine x_ist hx hb hK hP hD hS 1 0 rfl rfl (by unfold vp_in; decide) dX10_row_41 (fun f41_1 H locs hP9 hD9 hS9 => ?_)
          clear hP hD hS
          have hS := hS9
          have hP := hP9
          have hD := hD9
          clear hP9 hD9 hS9
          replace hP : va_P D vwCl [(x0, .inr (10, [.int 0, .ref x1, .ref x2, .ref x3, .ref x4, .int 0, .ref x5, .int 0, .int 0, .int 0, .int 0, .int 0, .int 0, .int (-1), .ref x6, .ref x7, .ref x8, .ref x9, .ref x10, .ref x11, .int 0, .int 0, .int 0, .ref x12, .ref x13, .ref x14, .int 0, .int 0, .ref x15, .int 0, .ref x16, .int 0, .ref x17, .int 0, .ref x18, .ref x19, .ref x20, .ref x21])), (x18, .inl (k 0, 4, .inl f41_1)), (x19, .inl (k 0, 4, .inl g1)), (x20, .inl (k 2, 240, .inr (.inl g2)))] H := hP
          replace hD : va_D A [(x0, .inr (10, [.int 0, .ref x1, .ref x2, .ref x3, .ref x4, .int 0, .ref x5, .int 0, .int 0, .int 0, .int 0, .int 0, .int 0, .int (-1), .ref x6, .ref x7, .ref x8, .ref x9, .ref x10, .ref x11, .int 0, .int 0, .int 0, .ref x12, .ref x13, .ref x14, .int 0, .int 0, .ref x15, .int 0, .ref x16, .int 0, .ref x17, .int 0, .ref x18, .ref x19, .ref x20, .ref x21])), (x18, .inl (k 0, 4, .inl f41_1)), (x19, .inl (k 0, 4, .inl g1)), (x20, .inl (k 2, 240, .inr (.inl g2)))] := hD
          refine lv_aload_n hx hb dX10_row_42 rfl (lv_at hl 0 rfl) ?_
          refine va_get (D := D) (ci := 10) (v := .ref x19) (C := RX10) (T := TX10) (N := 38) hx hb hT in_X10 hown hK hP 0 rfl rfl 35 (by decide) (hT _ t1297) (fun _ h9 => h9) rfl dX10_row_43 ?_
          refine lv_iload_n hx hb dX10_row_46 rfl (lv_at hl 1 rfl) ?_
          refine lv_iload_n hx hb dX10_row_47 rfl (lv_at hl 2 rfl) ?_
          refine x_ist hx hb hK hP hD hS 2 0 rfl rfl (by unfold vp_in; decide) dX10_row_48 (fun f48_2 H locs hP9 hD9 hS9 => ?_)
          clear hP hD hS
          have hS := hS9
          have hP := hP9
          have hD := hD9
          clear hP9 hD9 hS9
          replace hP : va_P D vwCl [(x0, .inr (10, [.int 0, .ref x1, .ref x2, .ref x3, .ref x4, .int 0, .ref x5, .int 0, .int 0, .int 0, .int 0, .int 0, .int 0, .int (-1), .ref x6, .ref x7, .ref x8, .ref x9, .ref x10, .ref x11, .int 0, .int 0, .int 0, .ref x12, .ref x13, .ref x14, .int 0, .int 0, .ref x15, .int 0, .ref x16, .int 0, .ref x17, .int 0, .ref x18, .ref x19, .ref x20, .ref x21])), (x18, .inl (k 0, 4, .inl f41_1)), (x19, .inl (k 0, 4, .inl f48_2)), (x20, .inl (k 2, 240, .inr (.inl g2)))] H := hP
          replace hD : va_D A [(x0, .inr (10, [.int 0, .ref x1, .ref x2, .ref x3, .ref x4, .int 0, .ref x5, .int 0, .int 0, .int 0, .int 0, .int 0, .int 0, .int (-1), .ref x6, .ref x7, .ref x8, .ref x9, .ref x10, .ref x11, .int 0, .int 0, .int 0, .ref x12, .ref x13, .ref x14, .int 0, .int 0, .ref x15, .int 0, .ref x16, .int 0, .ref x17, .int 0, .ref x18, .ref x19, .ref x20, .ref x21])), (x18, .inl (k 0, 4, .inl f41_1)), (x19, .inl (k 0, 4, .inl f48_2)), (x20, .inl (k 2, 240, .inr (.inl g2)))] := hD
          refine lv_iconst (v := 0) hx hb dX10_row_49 (by decide) ?_
          refine lv_istore (lv' := [(4, .int 0), (0, .ref x0), (1, .int 2), (2, .int p1), (3, .int p2)]) hx hb dX10_row_50 hl (by decide) rfl (fun ls hl => ?_)
          refine m_ro2  hx hb hT hown hK (fun H locs gr3 ls hP hD hS hl => ?_) 61 0 (Nat.zero_le _) (by decide) _ _ g2 ls hP hD hS (lv_sub hl [0, 1, 2, 3, 4] rfl)
          refine lv_iconst (v := 0) hx hb dX10_row_78 (by decide) ?_
          have hP9 := hP.sub (ws' := []) [] rfl
          have hD9 := d_sub (ws' := []) hD [] (by decide +kernel) rfl
          have hK9 := hK.sub (tys' := []) [] rfl
          exact W.iret (v := 0) hx hb hr (fun t ht hW => ⟨⟨0, mkU [] [], rfl, (a_row_0 (show in4 2 from ⟨by decide, by decide⟩) (in4_of gr_3) c_5 (Int32.not_lt.mpr c_6)), by rw [ht]; exact hP9, va_K.moved hW.alike hK9, by rw [hAe]; exact hD9⟩, by rw [hAe]; exact hS.F ht⟩) hS.2.2 dX10_row_79
        · skip
          refine lv_bipush (v := (-3)) hx hb dX10_row_32 (by decide) ?_
          have hP9 := hP.sub (ws' := []) [] rfl
          have hD9 := d_sub (ws' := []) hD [] (by decide +kernel) rfl
          have hK9 := hK.sub (tys' := []) [] rfl
          exact W.iret (v := (-3)) hx hb hr (fun t ht hW => ⟨⟨(-3), mkU [] [], rfl, (a_row_3 (show in4 2 from ⟨by decide, by decide⟩) (in4_of gr_3) c_5 (Int32.not_le.mp c_6)), by rw [ht]; exact hP9, va_K.moved hW.alike hK9, by rw [hAe]; exact hD9⟩, by rw [hAe]; exact hS.F ht⟩) hS.2.2 dX10_row_34
      · skip
        refine lv_bipush (v := (-2)) hx hb dX10_row_25 (by decide) ?_
        have hP9 := hP.sub (ws' := []) [] rfl
        have hD9 := d_sub (ws' := []) hD [] (by decide +kernel) rfl
        have hK9 := hK.sub (tys' := []) [] rfl
        exact W.iret (v := (-2)) hx hb hr (fun t ht hW => ⟨⟨(-2), mkU [] [], rfl, (a_row_2 (Or.inr (Or.inr (Int32.not_le.mp c_5)))), by rw [ht]; exact hP9, va_K.moved hW.alike hK9, by rw [hAe]; exact hD9⟩, by rw [hAe]; exact hS.F ht⟩) hS.2.2 dX10_row_27
    · subst er_3
      refine lv_if_eq (tgt := 25) hx hb dX10_row_16 (by decide) (fun c_7 => ?_) (fun c_7 => ?_)
      rotate_left
      · first | exact absurd c_7 (by decide) | exact absurd (by decide) c_7
      refine lv_bipush (v := (-2)) hx hb dX10_row_25 (by decide) ?_
      have hP9 := hP.sub (ws' := []) [] rfl
      have hD9 := d_sub (ws' := []) hD [] (by decide +kernel) rfl
      have hK9 := hK.sub (tys' := []) [] rfl
      exact W.iret (v := (-2)) hx hb hr (fun t ht hW => ⟨⟨(-2), mkU [] [], rfl, (a_row_2 (Or.inr (Or.inl (out4_of gr_3)))), by rw [ht]; exact hP9, va_K.moved hW.alike hK9, by rw [hAe]; exact hD9⟩, by rw [hAe]; exact hS.F ht⟩) hS.2.2 dX10_row_27
  · subst er_1
    exact absurd gr_1 (by decide)
set_option maxHeartbeats 4000000 in
set_option maxRecDepth 100000 in
theorem m_ro3 {p : Program} {l : Launch} {e : Env} {R : Room} {s : State} {m : MethodId} {args : Array Value} {below : List Frame} {meth : Method} {c : Code} {cells slots : Nat} {Q : State → Prop} {D : va_G} {k : Nat → ClassId} {A : Nat → Prop} {H0 : Heap} {x0 x1 x2 x3 x4 x5 x6 x7 x8 x9 x10 x11 x12 x13 x14 x15 x16 x17 x18 x19 x20 x21 : Nat} {ga gb : Nat → Int32} {pa pb : Int32} (hx : p.tables.exec = Jvm.exec) (hb : c.code = cX10_row) (hT : ∀ w ∈ TB, w.before args s = true) (hown : s.vm.findClass RX10 = some m.cls) (hK : va_K D vwCl (KT k) s)
    (hend : ∀ (H : Heap) (locs : List Loc) (g : Nat → Int64) (ls : Array Slot), va_P D vwCl [(x0, .inr (10, [.int 0, .ref x1, .ref x2, .ref x3, .ref x4, .int 0, .ref x5, .int 0, .int 0, .int 0, .int 0, .int 0, .int 0, .int (-1), .ref x6, .ref x7, .ref x8, .ref x9, .ref x10, .ref x11, .int 0, .int 0, .int 0, .ref x12, .ref x13, .ref x14, .int 0, .int 0, .ref x15, .int 0, .ref x16, .int 0, .ref x17, .int 0, .ref x18, .ref x19, .ref x20, .ref x21])), (x18, .inl (k 0, 4, .inl ga)), (x19, .inl (k 0, 4, .inl gb)), (x20, .inl (k 2, 240, .inr (.inl g)))] H → va_D A [(x0, .inr (10, [.int 0, .ref x1, .ref x2, .ref x3, .ref x4, .int 0, .ref x5, .int 0, .int 0, .int 0, .int 0, .int 0, .int 0, .int (-1), .ref x6, .ref x7, .ref x8, .ref x9, .ref x10, .ref x11, .int 0, .int 0, .int 0, .ref x12, .ref x13, .ref x14, .int 0, .int 0, .ref x15, .int 0, .ref x16, .int 0, .ref x17, .int 0, .ref x18, .ref x19, .ref x20, .ref x21])), (x18, .inl (k 0, 4, .inl ga)), (x19, .inl (k 0, 4, .inl gb)), (x20, .inl (k 2, 240, .inr (.inl g)))] → va_S A H0 H locs → lv_has ls 5 [(4, .int (nI 60)), (0, .ref x0), (1, .int 3), (2, .int pa), (3, .int pb)] → W p l e R s m args below meth c H locs cells slots Q (F0 m 78 ls [])) :
    ∀ (n i : Nat), i ≤ 60 → 60 - i < n → ∀ (H : Heap) (locs : List Loc) (g : Nat → Int64) (ls : Array Slot), va_P D vwCl [(x0, .inr (10, [.int 0, .ref x1, .ref x2, .ref x3, .ref x4, .int 0, .ref x5, .int 0, .int 0, .int 0, .int 0, .int 0, .int 0, .int (-1), .ref x6, .ref x7, .ref x8, .ref x9, .ref x10, .ref x11, .int 0, .int 0, .int 0, .ref x12, .ref x13, .ref x14, .int 0, .int 0, .ref x15, .int 0, .ref x16, .int 0, .ref x17, .int 0, .ref x18, .ref x19, .ref x20, .ref x21])), (x18, .inl (k 0, 4, .inl ga)), (x19, .inl (k 0, 4, .inl gb)), (x20, .inl (k 2, 240, .inr (.inl g)))] H → va_D A [(x0, .inr (10, [.int 0, .ref x1, .ref x2, .ref x3, .ref x4, .int 0, .ref x5, .int 0, .int 0, .int 0, .int 0, .int 0, .int 0, .int (-1), .ref x6, .ref x7, .ref x8, .ref x9, .ref x10, .ref x11, .int 0, .int 0, .int 0, .ref x12, .ref x13, .ref x14, .int 0, .int 0, .ref x15, .int 0, .ref x16, .int 0, .ref x17, .int 0, .ref x18, .ref x19, .ref x20, .ref x21])), (x18, .inl (k 0, 4, .inl ga)), (x19, .inl (k 0, 4, .inl gb)), (x20, .inl (k 2, 240, .inr (.inl g)))] → va_S A H0 H locs → lv_has ls 5 [(4, .int (nI i)), (0, .ref x0), (1, .int 3), (2, .int pa), (3, .int pb)] → W p l e R s m args below meth c H locs cells slots Q (F0 m 52 ls []) := by
  intro n
  induction n with
  | zero => intro i _ h; omega
  | succ n ih =>
    intro i hi hn H locs g ls hP hD hS hl
    refine lv_iload hx hb dX10_row_52 (lv_at hl 0 rfl) ?_
    refine lv_bipush (v := nI 60) hx hb dX10_row_54 (by decide) ?_
    refine lv_icmp_ge (tgt := 78) hx hb dX10_row_56 (by decide) (fun c1 => ?_) (fun c1 => ?_)
    · have hiN : i = 60 := by
        rcases Nat.lt_or_ge i 60 with q | q
        · exact absurd c1 (nI_ge q (by decide))
        · omega
      subst hiN
      exact hend H locs g ls hP hD hS hl
    · have hlt : i < 60 := by
        rcases Nat.lt_or_ge i 60 with q | q
        · exact q
        · exact absurd (nI_le q (by omega)) c1
      have ei : (nI i).toNatClampNeg = i := nI_clamp (by omega)
      refine lv_aload_n hx hb dX10_row_59 rfl (lv_at hl 1 rfl) ?_
      refine va_get (D := D) (ci := 10) (v := .ref x20) (C := RX10) (T := TX10) (N := 38) hx hb hT in_X10 hown hK hP 0 rfl rfl 36 (by decide) (hT _ t1298) (fun _ h9 => h9) rfl dX10_row_60 ?_
      refine lv_bipush (v := 60) hx hb dX10_row_63 (by decide) ?_
      refine lv_iload_n hx hb dX10_row_65 rfl (lv_at hl 2 rfl) ?_
      refine lv_imul hx hb dX10_row_66 ?_
      refine k_top (y := nI 180) (by decide) ?_
      refine lv_iload hx hb dX10_row_67 (lv_at hl 0 rfl) ?_
      refine lv_iadd hx hb dX10_row_69 ?_
      refine k_top (y := nI (180 + i)) (nI_add _ _) ?_
      refine lv_lconst (v := 0) hx hb dX10_row_70 (by decide) ?_
      refine x_lst hx hb hK hP hD hS 3 2 rfl rfl (vp_in_nI (show 180 + i < 240 by omega) (by decide)) dX10_row_71 (fun g2 H locs hP hD hS => ?_)
      have hP : va_P D vwCl [(x0, .inr (10, [.int 0, .ref x1, .ref x2, .ref x3, .ref x4, .int 0, .ref x5, .int 0, .int 0, .int 0, .int 0, .int 0, .int 0, .int (-1), .ref x6, .ref x7, .ref x8, .ref x9, .ref x10, .ref x11, .int 0, .int 0, .int 0, .ref x12, .ref x13, .ref x14, .int 0, .int 0, .ref x15, .int 0, .ref x16, .int 0, .ref x17, .int 0, .ref x18, .ref x19, .ref x20, .ref x21])), (x18, .inl (k 0, 4, .inl ga)), (x19, .inl (k 0, 4, .inl gb)), (x20, .inl (k 2, 240, .inr (.inl g2)))] H := hP
      have hD : va_D A [(x0, .inr (10, [.int 0, .ref x1, .ref x2, .ref x3, .ref x4, .int 0, .ref x5, .int 0, .int 0, .int 0, .int 0, .int 0, .int 0, .int (-1), .ref x6, .ref x7, .ref x8, .ref x9, .ref x10, .ref x11, .int 0, .int 0, .int 0, .ref x12, .ref x13, .ref x14, .int 0, .int 0, .ref x15, .int 0, .ref x16, .int 0, .ref x17, .int 0, .ref x18, .ref x19, .ref x20, .ref x21])), (x18, .inl (k 0, 4, .inl ga)), (x19, .inl (k 0, 4, .inl gb)), (x20, .inl (k 2, 240, .inr (.inl g2)))] := hD
      refine lv_iinc (v := nI (i + 1)) (lv' := [(4, .int (nI (i + 1))), (0, .ref x0), (1, .int 3), (2, .int pa), (3, .int pb)]) hx hb dX10_row_72 hl (k := 0) rfl (nI_1 i) (by decide) rfl (fun ls hl => ?_)
      refine lv_goto (tgt := 52) hx hb dX10_row_75 (by decide) ?_
      exact ih (i + 1) hlt (by omega) H locs (g2) ls hP hD hS hl

set_option maxHeartbeats 4000000 in
set_option maxRecDepth 100000 in
theorem c_X10_rowW3 (l : Launch) (D : va_G) (k : Nat → ClassId) (x0 x1 x2 x3 x4 x5 x6 x7 x8 x9 x10 x11 x12 x13 x14 x15 x16 x17 x18 x19 x20 x21 : Nat) (g0 : Nat → Int32) (g1 : Nat → Int32) (g2 : Nat → Int64) (p1 p2 : Int32) (sz : Nat) : Met l yX10_row (.code yX10_row cX10_row 5 (some .int) :: TB) (rmw 3 0 0) (va_Pc [.ref x0, .int 3, .int p1, .int p2] (PW D k sz [(x0, .inr (10, [.int 0, .ref x1, .ref x2, .ref x3, .ref x4, .int 0, .ref x5, .int 0, .int 0, .int 0, .int 0, .int 0, .int 0, .int (-1), .ref x6, .ref x7, .ref x8, .ref x9, .ref x10, .ref x11, .int 0, .int 0, .int 0, .ref x12, .ref x13, .ref x14, .int 0, .int 0, .ref x15, .int 0, .ref x16, .int 0, .ref x17, .int 0, .ref x18, .ref x19, .ref x20, .ref x21])), (x18, .inl (k 0, 4, .inl g0)), (x19, .inl (k 0, 4, .inl g1)), (x20, .inl (k 2, 240, .inr (.inl g2)))])) (QI D (S := UT) (fun r u => r = a_row 3 p1 p2) (fun u => []) (fun _ => []) [(x0, .inr (10, [.int 0, .ref x1, .ref x2, .ref x3, .ref x4, .int 0, .ref x5, .int 0, .int 0, .int 0, .int 0, .int 0, .int 0, .int (-1), .ref x6, .ref x7, .ref x8, .ref x9, .ref x10, .ref x11, .int 0, .int 0, .int 0, .ref x12, .ref x13, .ref x14, .int 0, .int 0, .ref x15, .int 0, .ref x16, .int 0, .ref x17, .int 0, .ref x18, .ref x19, .ref x20, .ref x21])), (x18, .inl (k 0, 4, .inl g0)), (x19, .inl (k 0, 4, .inl g1)), (x20, .inl (k 2, 240, .inr (.inl g2)))] sz) 0 0 (va_A [(x0, .inr (10, [.int 0, .ref x1, .ref x2, .ref x3, .ref x4, .int 0, .ref x5, .int 0, .int 0, .int 0, .int 0, .int 0, .int 0, .int (-1), .ref x6, .ref x7, .ref x8, .ref x9, .ref x10, .ref x11, .int 0, .int 0, .int 0, .ref x12, .ref x13, .ref x14, .int 0, .int 0, .ref x15, .int 0, .ref x16, .int 0, .ref x17, .int 0, .ref x18, .ref x19, .ref x20, .ref x21])), (x18, .inl (k 0, 4, .inl g0)), (x19, .inl (k 0, 4, .inl g1)), (x20, .inl (k 2, 240, .inr (.inl g2)))] sz) := by
  refine Met.ofW (cc := cX10_row) (maxL := 5) (ret := (some .int)) (by decide) rfl ?_
  intro p e s m args below meth c s₁ B hml hv
  obtain ⟨rfl, hsz, hP, hK, hD0, hN⟩ := hv
  have hx := B.exec
  have hb := B.bytes
  have hr := B.returns
  have hT : ∀ w ∈ TB, w.before ([.ref x0, .int 3, .int p1, .int p2] : List Value).toArray s = true := fun w h => atoms_spec (ws := .code yX10_row cX10_row 5 (some .int) :: TB) B.pre w (List.mem_cons_of_mem _ h)
  have hown : s.vm.findClass RX10 = some m.cls := findClass_of_methodNamed B.named
  have S : CallFix p m c cX10_row 5 s _ TB RX10 := ⟨hx, hb, hml, hown, hT⟩
  subst hsz
  have hD := hD0.self (sz := s.heap.size)
  generalize hAe : va_A [(x0, .inr (10, [.int 0, .ref x1, .ref x2, .ref x3, .ref x4, .int 0, .ref x5, .int 0, .int 0, .int 0, .int 0, .int 0, .int 0, .int (-1), .ref x6, .ref x7, .ref x8, .ref x9, .ref x10, .ref x11, .int 0, .int 0, .int 0, .ref x12, .ref x13, .ref x14, .int 0, .int 0, .ref x15, .int 0, .ref x16, .int 0, .ref x17, .int 0, .ref x18, .ref x19, .ref x20, .ref x21])), (x18, .inl (k 0, 4, .inl g0)), (x19, .inl (k 0, 4, .inl g1)), (x20, .inl (k 2, 240, .inr (.inl g2)))] s.heap.size = A at hD ⊢
  have hA : ∀ q : Nat, s.heap.size ≤ q → A q := fun q h => by rw [← hAe]; exact Or.inr h
  have hS : va_S A s.heap s.heap [] := va_S.rf
  have hP : va_P D vwCl [(x0, .inr (10, [.int 0, .ref x1, .ref x2, .ref x3, .ref x4, .int 0, .ref x5, .int 0, .int 0, .int 0, .int 0, .int 0, .int 0, .int (-1), .ref x6, .ref x7, .ref x8, .ref x9, .ref x10, .ref x11, .int 0, .int 0, .int 0, .ref x12, .ref x13, .ref x14, .int 0, .int 0, .ref x15, .int 0, .ref x16, .int 0, .ref x17, .int 0, .ref x18, .ref x19, .ref x20, .ref x21])), (x18, .inl (k 0, 4, .inl g0)), (x19, .inl (k 0, 4, .inl g1)), (x20, .inl (k 2, 240, .inr (.inl g2)))] s.heap := hP
  have hl := lv_entry ([.ref x0, .int 3, .int p1, .int p2]) (n := 5) (Nat.le_of_ble_eq_true rfl)
  rw [lg_entry_eq]
  generalize (lg_sl ([.ref x0, .int 3, .int p1, .int p2]) ++ List.replicate (5 - (lg_sl ([.ref x0, .int 3, .int p1, .int p2])).length) Slot.unset).toArray = ls at hl ⊢
  have hl : lv_has ls 5 [(0, .ref x0), (1, .int 3), (2, .int p1), (3, .int p2)] := hl
  refine lv_iload_n hx hb dX10_row_0 rfl (lv_at hl 1 rfl) ?_
  refine ro_S (As := [.int 3]) (rest := []) S (c_X10_isSlotP l D k 3 _) lkX10_300 ok_X10_isSlot ⟨rfl, rfl, Nat.le_of_ble_eq_true rfl, Nat.le_of_ble_eq_true rfl⟩ (pw_S hK hN (hP.sub (ws' := []) [] rfl) ((d_sub (ws' := []) hD [] (by decide +kernel) rfl).weaken (fun _ _ _ _ => trivial))) rfl hl.1 rfl (Nat.le_of_ble_eq_true rfl) ⟨Nat.le_of_ble_eq_true rfl, Nat.le_of_ble_eq_true rfl⟩ dX10_row_1 (fun r_1 er_1 => ?_)
  rcases er_1 with ⟨er_1, gr_1⟩ | ⟨er_1, gr_1⟩
  · subst er_1
    refine lv_if_eq (tgt := 25) hx hb dX10_row_4 (by decide) (fun c_2 => ?_) (fun c_2 => ?_)
    · first | exact absurd c_2 (by decide) | exact absurd (by decide) c_2
    refine lv_iload_n hx hb dX10_row_7 rfl (lv_at hl 2 rfl) ?_
    refine lv_i2l (v := p1.toInt64) hx hb dX10_row_8 rfl ?_
    refine lv_lconst (v := 0) hx hb dX10_row_9 (by decide) ?_
    refine lv_ldc2 (v := 3) hx hb hown (hT _ t1665) dX10_row_10 ?_
    refine ro_S (As := [.long p1.toInt64, .long 0, .long 3]) (rest := []) S (c_X10_inP l D k p1.toInt64 0 3 _) lkX10_85 ok_X10_in ⟨rfl, rfl, Nat.le_of_ble_eq_true rfl, Nat.le_of_ble_eq_true rfl⟩ (pw_S hK hN (hP.sub (ws' := []) [] rfl) ((d_sub (ws' := []) hD [] (by decide +kernel) rfl).weaken (fun _ _ _ _ => trivial))) rfl hl.1 rfl (Nat.le_of_ble_eq_true rfl) ⟨Nat.le_of_ble_eq_true rfl, Nat.le_of_ble_eq_true rfl⟩ dX10_row_13 (fun r_3 er_3 => ?_)
    rcases er_3 with ⟨er_3, gr_3⟩ | ⟨er_3, gr_3⟩
    · subst er_3
      refine lv_if_eq (tgt := 25) hx hb dX10_row_16 (by decide) (fun c_4 => ?_) (fun c_4 => ?_)
      · first | exact absurd c_4 (by decide) | exact absurd (by decide) c_4
      refine lv_iload_n hx hb dX10_row_19 rfl (lv_at hl 3 rfl) ?_
      refine lv_bipush (v := 60) hx hb dX10_row_20 (by decide) ?_
      refine lv_icmp_le (tgt := 28) hx hb dX10_row_22 (by decide) (fun c_5 => ?_) (fun c_5 => ?_)
      · skip
        refine lv_iload_n hx hb dX10_row_28 rfl (lv_at hl 3 rfl) ?_
        refine lv_if_ge (tgt := 35) hx hb dX10_row_29 (by decide) (fun c_6 => ?_) (fun c_6 => ?_)
        · skip
          refine lv_aload_n hx hb dX10_row_35 rfl (lv_at hl 0 rfl) ?_
          refine va_get (D := D) (ci := 10) (v := .ref x18) (C := RX10) (T := TX10) (N := 38) hx hb hT in_X10 hown hK hP 0 rfl rfl 34 (by decide) (hT _ t1296) (fun _ h9 => h9) rfl dX10_row_36 ?_
          refine lv_iload_n hx hb dX10_row_39 rfl (lv_at hl 1 rfl) ?_
          refine lv_iload_n hx hb dX10_row_40 rfl (lv_at hl 3 rfl) ?_
          refine x_ist hx hb hK hP hD hS 1 0 rfl rfl (by unfold vp_in; decide) dX10_row_41 (fun f41_1 H locs hP9 hD9 hS9 => ?_)
          clear hP hD hS
          have hS := hS9
          have hP := hP9
          have hD := hD9
          clear hP9 hD9 hS9
          replace hP : va_P D vwCl [(x0, .inr (10, [.int 0, .ref x1, .ref x2, .ref x3, .ref x4, .int 0, .ref x5, .int 0, .int 0, .int 0, .int 0, .int 0, .int 0, .int (-1), .ref x6, .ref x7, .ref x8, .ref x9, .ref x10, .ref x11, .int 0, .int 0, .int 0, .ref x12, .ref x13, .ref x14, .int 0, .int 0, .ref x15, .int 0, .ref x16, .int 0, .ref x17, .int 0, .ref x18, .ref x19, .ref x20, .ref x21])), (x18, .inl (k 0, 4, .inl f41_1)), (x19, .inl (k 0, 4, .inl g1)), (x20, .inl (k 2, 240, .inr (.inl g2)))] H := hP
          replace hD : va_D A [(x0, .inr (10, [.int 0, .ref x1, .ref x2, .ref x3, .ref x4, .int 0, .ref x5, .int 0, .int 0, .int 0, .int 0, .int 0, .int 0, .int (-1), .ref x6, .ref x7, .ref x8, .ref x9, .ref x10, .ref x11, .int 0, .int 0, .int 0, .ref x12, .ref x13, .ref x14, .int 0, .int 0, .ref x15, .int 0, .ref x16, .int 0, .ref x17, .int 0, .ref x18, .ref x19, .ref x20, .ref x21])), (x18, .inl (k 0, 4, .inl f41_1)), (x19, .inl (k 0, 4, .inl g1)), (x20, .inl (k 2, 240, .inr (.inl g2)))] := hD
          refine lv_aload_n hx hb dX10_row_42 rfl (lv_at hl 0 rfl) ?_
          refine va_get (D := D) (ci := 10) (v := .ref x19) (C := RX10) (T := TX10) (N := 38) hx hb hT in_X10 hown hK hP 0 rfl rfl 35 (by decide) (hT _ t1297) (fun _ h9 => h9) rfl dX10_row_43 ?_
          refine lv_iload_n hx hb dX10_row_46 rfl (lv_at hl 1 rfl) ?_
          refine lv_iload_n hx hb dX10_row_47 rfl (lv_at hl 2 rfl) ?_
          refine x_ist hx hb hK hP hD hS 2 0 rfl rfl (by unfold vp_in; decide) dX10_row_48 (fun f48_2 H locs hP9 hD9 hS9 => ?_)
          clear hP hD hS
          have hS := hS9
          have hP := hP9
          have hD := hD9
          clear hP9 hD9 hS9
          replace hP : va_P D vwCl [(x0, .inr (10, [.int 0, .ref x1, .ref x2, .ref x3, .ref x4, .int 0, .ref x5, .int 0, .int 0, .int 0, .int 0, .int 0, .int 0, .int (-1), .ref x6, .ref x7, .ref x8, .ref x9, .ref x10, .ref x11, .int 0, .int 0, .int 0, .ref x12, .ref x13, .ref x14, .int 0, .int 0, .ref x15, .int 0, .ref x16, .int 0, .ref x17, .int 0, .ref x18, .ref x19, .ref x20, .ref x21])), (x18, .inl (k 0, 4, .inl f41_1)), (x19, .inl (k 0, 4, .inl f48_2)), (x20, .inl (k 2, 240, .inr (.inl g2)))] H := hP
          replace hD : va_D A [(x0, .inr (10, [.int 0, .ref x1, .ref x2, .ref x3, .ref x4, .int 0, .ref x5, .int 0, .int 0, .int 0, .int 0, .int 0, .int 0, .int (-1), .ref x6, .ref x7, .ref x8, .ref x9, .ref x10, .ref x11, .int 0, .int 0, .int 0, .ref x12, .ref x13, .ref x14, .int 0, .int 0, .ref x15, .int 0, .ref x16, .int 0, .ref x17, .int 0, .ref x18, .ref x19, .ref x20, .ref x21])), (x18, .inl (k 0, 4, .inl f41_1)), (x19, .inl (k 0, 4, .inl f48_2)), (x20, .inl (k 2, 240, .inr (.inl g2)))] := hD
          refine lv_iconst (v := 0) hx hb dX10_row_49 (by decide) ?_
          refine lv_istore (lv' := [(4, .int 0), (0, .ref x0), (1, .int 3), (2, .int p1), (3, .int p2)]) hx hb dX10_row_50 hl (by decide) rfl (fun ls hl => ?_)
          refine m_ro3  hx hb hT hown hK (fun H locs gr3 ls hP hD hS hl => ?_) 61 0 (Nat.zero_le _) (by decide) _ _ g2 ls hP hD hS (lv_sub hl [0, 1, 2, 3, 4] rfl)
          refine lv_iconst (v := 0) hx hb dX10_row_78 (by decide) ?_
          have hP9 := hP.sub (ws' := []) [] rfl
          have hD9 := d_sub (ws' := []) hD [] (by decide +kernel) rfl
          have hK9 := hK.sub (tys' := []) [] rfl
          exact W.iret (v := 0) hx hb hr (fun t ht hW => ⟨⟨0, mkU [] [], rfl, (a_row_0 (show in4 3 from ⟨by decide, by decide⟩) (in4_of gr_3) c_5 (Int32.not_lt.mpr c_6)), by rw [ht]; exact hP9, va_K.moved hW.alike hK9, by rw [hAe]; exact hD9⟩, by rw [hAe]; exact hS.F ht⟩) hS.2.2 dX10_row_79
        · skip
          refine lv_bipush (v := (-3)) hx hb dX10_row_32 (by decide) ?_
          have hP9 := hP.sub (ws' := []) [] rfl
          have hD9 := d_sub (ws' := []) hD [] (by decide +kernel) rfl
          have hK9 := hK.sub (tys' := []) [] rfl
          exact W.iret (v := (-3)) hx hb hr (fun t ht hW => ⟨⟨(-3), mkU [] [], rfl, (a_row_3 (show in4 3 from ⟨by decide, by decide⟩) (in4_of gr_3) c_5 (Int32.not_le.mp c_6)), by rw [ht]; exact hP9, va_K.moved hW.alike hK9, by rw [hAe]; exact hD9⟩, by rw [hAe]; exact hS.F ht⟩) hS.2.2 dX10_row_34
      · skip
        refine lv_bipush (v := (-2)) hx hb dX10_row_25 (by decide) ?_
        have hP9 := hP.sub (ws' := []) [] rfl
        have hD9 := d_sub (ws' := []) hD [] (by decide +kernel) rfl
        have hK9 := hK.sub (tys' := []) [] rfl
        exact W.iret (v := (-2)) hx hb hr (fun t ht hW => ⟨⟨(-2), mkU [] [], rfl, (a_row_2 (Or.inr (Or.inr (Int32.not_le.mp c_5)))), by rw [ht]; exact hP9, va_K.moved hW.alike hK9, by rw [hAe]; exact hD9⟩, by rw [hAe]; exact hS.F ht⟩) hS.2.2 dX10_row_27
    · subst er_3
      refine lv_if_eq (tgt := 25) hx hb dX10_row_16 (by decide) (fun c_7 => ?_) (fun c_7 => ?_)
      rotate_left
      · first | exact absurd c_7 (by decide) | exact absurd (by decide) c_7
      refine lv_bipush (v := (-2)) hx hb dX10_row_25 (by decide) ?_
      have hP9 := hP.sub (ws' := []) [] rfl
      have hD9 := d_sub (ws' := []) hD [] (by decide +kernel) rfl
      have hK9 := hK.sub (tys' := []) [] rfl
      exact W.iret (v := (-2)) hx hb hr (fun t ht hW => ⟨⟨(-2), mkU [] [], rfl, (a_row_2 (Or.inr (Or.inl (out4_of gr_3)))), by rw [ht]; exact hP9, va_K.moved hW.alike hK9, by rw [hAe]; exact hD9⟩, by rw [hAe]; exact hS.F ht⟩) hS.2.2 dX10_row_27
  · subst er_1
    exact absurd gr_1 (by decide)
set_option maxHeartbeats 4000000 in
set_option maxRecDepth 100000 in
theorem c_X10_rowWN (l : Launch) (D : va_G) (k : Nat → ClassId) (x0 x1 x2 x3 x4 x5 x6 x7 x8 x9 x10 x11 x12 x13 x14 x15 x16 x17 x18 x19 x20 x21 : Nat) (p0 p1 p2 : Int32) (hp : p0 < 0 ∨ 4 ≤ p0) (sz : Nat) : Met l yX10_row (.code yX10_row cX10_row 5 (some .int) :: TB) (rmw 3 0 0) (va_Pc [.ref x0, .int p0, .int p1, .int p2] (PW D k sz [(x0, .inr (10, [.int 0, .ref x1, .ref x2, .ref x3, .ref x4, .int 0, .ref x5, .int 0, .int 0, .int 0, .int 0, .int 0, .int 0, .int (-1), .ref x6, .ref x7, .ref x8, .ref x9, .ref x10, .ref x11, .int 0, .int 0, .int 0, .ref x12, .ref x13, .ref x14, .int 0, .int 0, .ref x15, .int 0, .ref x16, .int 0, .ref x17, .int 0, .ref x18, .ref x19, .ref x20, .ref x21]))])) (QI D (S := UT) (fun r u => r = a_row p0 p1 p2) (fun u => []) (fun _ => []) [(x0, .inr (10, [.int 0, .ref x1, .ref x2, .ref x3, .ref x4, .int 0, .ref x5, .int 0, .int 0, .int 0, .int 0, .int 0, .int 0, .int (-1), .ref x6, .ref x7, .ref x8, .ref x9, .ref x10, .ref x11, .int 0, .int 0, .int 0, .ref x12, .ref x13, .ref x14, .int 0, .int 0, .ref x15, .int 0, .ref x16, .int 0, .ref x17, .int 0, .ref x18, .ref x19, .ref x20, .ref x21]))] sz) 0 0 (va_A [(x0, .inr (10, [.int 0, .ref x1, .ref x2, .ref x3, .ref x4, .int 0, .ref x5, .int 0, .int 0, .int 0, .int 0, .int 0, .int 0, .int (-1), .ref x6, .ref x7, .ref x8, .ref x9, .ref x10, .ref x11, .int 0, .int 0, .int 0, .ref x12, .ref x13, .ref x14, .int 0, .int 0, .ref x15, .int 0, .ref x16, .int 0, .ref x17, .int 0, .ref x18, .ref x19, .ref x20, .ref x21]))] sz) := by
  refine Met.ofW (cc := cX10_row) (maxL := 5) (ret := (some .int)) (by decide) rfl ?_
  intro p e s m args below meth c s₁ B hml hv
  obtain ⟨rfl, hsz, hP, hK, hD0, hN⟩ := hv
  have hx := B.exec
  have hb := B.bytes
  have hr := B.returns
  have hT : ∀ w ∈ TB, w.before ([.ref x0, .int p0, .int p1, .int p2] : List Value).toArray s = true := fun w h => atoms_spec (ws := .code yX10_row cX10_row 5 (some .int) :: TB) B.pre w (List.mem_cons_of_mem _ h)
  have hown : s.vm.findClass RX10 = some m.cls := findClass_of_methodNamed B.named
  have S : CallFix p m c cX10_row 5 s _ TB RX10 := ⟨hx, hb, hml, hown, hT⟩
  subst hsz
  have hD := hD0.self (sz := s.heap.size)
  generalize hAe : va_A [(x0, .inr (10, [.int 0, .ref x1, .ref x2, .ref x3, .ref x4, .int 0, .ref x5, .int 0, .int 0, .int 0, .int 0, .int 0, .int 0, .int (-1), .ref x6, .ref x7, .ref x8, .ref x9, .ref x10, .ref x11, .int 0, .int 0, .int 0, .ref x12, .ref x13, .ref x14, .int 0, .int 0, .ref x15, .int 0, .ref x16, .int 0, .ref x17, .int 0, .ref x18, .ref x19, .ref x20, .ref x21]))] s.heap.size = A at hD ⊢
  have hA : ∀ q : Nat, s.heap.size ≤ q → A q := fun q h => by rw [← hAe]; exact Or.inr h
  have hS : va_S A s.heap s.heap [] := va_S.rf
  have hP : va_P D vwCl [(x0, .inr (10, [.int 0, .ref x1, .ref x2, .ref x3, .ref x4, .int 0, .ref x5, .int 0, .int 0, .int 0, .int 0, .int 0, .int 0, .int (-1), .ref x6, .ref x7, .ref x8, .ref x9, .ref x10, .ref x11, .int 0, .int 0, .int 0, .ref x12, .ref x13, .ref x14, .int 0, .int 0, .ref x15, .int 0, .ref x16, .int 0, .ref x17, .int 0, .ref x18, .ref x19, .ref x20, .ref x21]))] s.heap := hP
  have hl := lv_entry ([.ref x0, .int p0, .int p1, .int p2]) (n := 5) (Nat.le_of_ble_eq_true rfl)
  rw [lg_entry_eq]
  generalize (lg_sl ([.ref x0, .int p0, .int p1, .int p2]) ++ List.replicate (5 - (lg_sl ([.ref x0, .int p0, .int p1, .int p2])).length) Slot.unset).toArray = ls at hl ⊢
  have hl : lv_has ls 5 [(0, .ref x0), (1, .int p0), (2, .int p1), (3, .int p2)] := hl
  refine lv_iload_n hx hb dX10_row_0 rfl (lv_at hl 1 rfl) ?_
  refine ro_S (As := [.int p0]) (rest := []) S (c_X10_isSlotP l D k p0 _) lkX10_300 ok_X10_isSlot ⟨rfl, rfl, Nat.le_of_ble_eq_true rfl, Nat.le_of_ble_eq_true rfl⟩ (pw_S hK hN (hP.sub (ws' := []) [] rfl) ((d_sub (ws' := []) hD [] (by decide +kernel) rfl).weaken (fun _ _ _ _ => trivial))) rfl hl.1 rfl (Nat.le_of_ble_eq_true rfl) ⟨Nat.le_of_ble_eq_true rfl, Nat.le_of_ble_eq_true rfl⟩ dX10_row_1 (fun r_1 er_1 => ?_)
  rcases er_1 with ⟨er_1, gr_1⟩ | ⟨er_1, gr_1⟩
  · subst er_1
    exact absurd hp (fun z9 => z9.elim gr_1.1 (Int32.not_le.mpr gr_1.2))
  · subst er_1
    refine lv_if_eq (tgt := 25) hx hb dX10_row_4 (by decide) (fun c_2 => ?_) (fun c_2 => ?_)
    rotate_left
    · first | exact absurd c_2 (by decide) | exact absurd (by decide) c_2
    refine lv_bipush (v := (-2)) hx hb dX10_row_25 (by decide) ?_
    have hP9 := hP.sub (ws' := []) [] rfl
    have hD9 := d_sub (ws' := []) hD [] (by decide +kernel) rfl
    have hK9 := hK.sub (tys' := []) [] rfl
    exact W.iret (v := (-2)) hx hb hr (fun t ht hW => ⟨⟨(-2), mkU [] [], rfl, (a_row_2 (Or.inl hp)), by rw [ht]; exact hP9, va_K.moved hW.alike hK9, by rw [hAe]; exact hD9⟩, by rw [hAe]; exact hS.F ht⟩) hS.2.2 dX10_row_27
