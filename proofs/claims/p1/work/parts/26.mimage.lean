set_option maxHeartbeats 4000000 in
set_option maxRecDepth 100000 in
theorem m_im0 {p : Program} {l : Launch} {e : Env} {R : Room} {s : State} {m : MethodId} {args : Array Value} {below : List Frame} {meth : Method} {c : Code} {cells slots : Nat} {Q : State → Prop} {D : va_G} {k : Nat → ClassId} {A : Nat → Prop} {H0 : Heap} {x0 x1 x2 x3 x4 x5 x6 x7 x8 x9 x10 x11 x12 x13 x14 x15 x16 x17 x18 x19 x20 x21 : Nat} {gw gh : Nat → Int32} (hx : p.tables.exec = Jvm.exec) (hb : c.code = cX10_image) (hT : ∀ w ∈ TB, w.before args s = true) (hown : s.vm.findClass RX10 = some m.cls) (hK : va_K D vwCl (KT k) s)
    (hend : ∀ (H : Heap) (locs : List Loc) (g : Nat → Int32) (ls : Array Slot), va_P D vwCl [(x0, .inr (10, [.int 0, .ref x1, .ref x2, .ref x3, .ref x4, .int 0, .ref x5, .int 0, .int 0, .int 0, .int 0, .int 0, .int 0, .int (-1), .ref x6, .ref x7, .ref x8, .ref x9, .ref x10, .ref x11, .int 0, .int 0, .int 0, .ref x12, .ref x13, .ref x14, .int 0, .int 0, .ref x15, .int 0, .ref x16, .int 0, .ref x17, .int 0, .ref x18, .ref x19, .ref x20, .ref x21])), (x1, .inl (k 0, 168, .inl gw)), (x2, .inl (k 0, 504, .inl g)), (x3, .inl (k 3, 3, .inl gh))] H → va_D A [(x0, .inr (10, [.int 0, .ref x1, .ref x2, .ref x3, .ref x4, .int 0, .ref x5, .int 0, .int 0, .int 0, .int 0, .int 0, .int 0, .int (-1), .ref x6, .ref x7, .ref x8, .ref x9, .ref x10, .ref x11, .int 0, .int 0, .int 0, .ref x12, .ref x13, .ref x14, .int 0, .int 0, .ref x15, .int 0, .ref x16, .int 0, .ref x17, .int 0, .ref x18, .ref x19, .ref x20, .ref x21])), (x1, .inl (k 0, 168, .inl gw)), (x2, .inl (k 0, 504, .inl g)), (x3, .inl (k 3, 3, .inl gh))] → va_S A H0 H locs → lv_has ls 3 [(2, .int (nI 168)), (0, .ref x0), (1, .int 0)] → W p l e R s m args below meth c H locs cells slots Q (F0 m 48 ls [])) :
    ∀ (n i : Nat), i ≤ 168 → 168 - i < n → ∀ (H : Heap) (locs : List Loc) (g : Nat → Int32) (ls : Array Slot), va_P D vwCl [(x0, .inr (10, [.int 0, .ref x1, .ref x2, .ref x3, .ref x4, .int 0, .ref x5, .int 0, .int 0, .int 0, .int 0, .int 0, .int 0, .int (-1), .ref x6, .ref x7, .ref x8, .ref x9, .ref x10, .ref x11, .int 0, .int 0, .int 0, .ref x12, .ref x13, .ref x14, .int 0, .int 0, .ref x15, .int 0, .ref x16, .int 0, .ref x17, .int 0, .ref x18, .ref x19, .ref x20, .ref x21])), (x1, .inl (k 0, 168, .inl gw)), (x2, .inl (k 0, 504, .inl g)), (x3, .inl (k 3, 3, .inl gh))] H → va_D A [(x0, .inr (10, [.int 0, .ref x1, .ref x2, .ref x3, .ref x4, .int 0, .ref x5, .int 0, .int 0, .int 0, .int 0, .int 0, .int 0, .int (-1), .ref x6, .ref x7, .ref x8, .ref x9, .ref x10, .ref x11, .int 0, .int 0, .int 0, .ref x12, .ref x13, .ref x14, .int 0, .int 0, .ref x15, .int 0, .ref x16, .int 0, .ref x17, .int 0, .ref x18, .ref x19, .ref x20, .ref x21])), (x1, .inl (k 0, 168, .inl gw)), (x2, .inl (k 0, 504, .inl g)), (x3, .inl (k 3, 3, .inl gh))] → va_S A H0 H locs → lv_has ls 3 [(2, .int (nI i)), (0, .ref x0), (1, .int 0)] → W p l e R s m args below meth c H locs cells slots Q (F0 m 17 ls []) := by
  intro n
  induction n with
  | zero => intro i _ h; omega
  | succ n ih =>
    intro i hi hn H locs g ls hP hD hS hl
    refine lv_iload_n hx hb dX10_image_17 rfl (lv_at hl 0 rfl) ?_
    refine lv_sipush (v := nI 168) hx hb dX10_image_18 (by decide) ?_
    refine lv_icmp_ge (tgt := 48) hx hb dX10_image_21 (by decide) (fun c1 => ?_) (fun c1 => ?_)
    · have hiN : i = 168 := by
        rcases Nat.lt_or_ge i 168 with q | q
        · exact absurd c1 (nI_ge q (by decide))
        · omega
      subst hiN
      exact hend H locs g ls hP hD hS hl
    · have hlt : i < 168 := by
        rcases Nat.lt_or_ge i 168 with q | q
        · exact q
        · exact absurd (nI_le q (by omega)) c1
      have ei : (nI i).toNatClampNeg = i := nI_clamp (by omega)
      refine lv_aload_n hx hb dX10_image_24 rfl (lv_at hl 1 rfl) ?_
      refine va_get (D := D) (ci := 10) (v := .ref x2) (C := RX10) (T := TX10) (N := 38) hx hb hT in_X10 hown hK hP 0 rfl rfl 2 (by decide) (hT _ t1264) (fun _ h9 => h9) rfl dX10_image_25 ?_
      refine lv_sipush (v := 168) hx hb dX10_image_28 (by decide) ?_
      refine lv_iload_n hx hb dX10_image_31 rfl (lv_at hl 2 rfl) ?_
      refine lv_imul hx hb dX10_image_32 ?_
      refine k_top (y := nI 0) (by decide) ?_
      refine lv_iload_n hx hb dX10_image_33 rfl (lv_at hl 0 rfl) ?_
      refine lv_iadd hx hb dX10_image_34 ?_
      refine k_top (y := nI (0 + i)) (nI_add _ _) ?_
      refine lv_aload_n hx hb dX10_image_35 rfl (lv_at hl 1 rfl) ?_
      refine va_get (D := D) (ci := 10) (v := .ref x1) (C := RX10) (T := TX10) (N := 38) hx hb hT in_X10 hown hK hP 0 rfl rfl 1 (by decide) (hT _ t1263) (fun _ h9 => h9) rfl dX10_image_36 ?_
      refine lv_iload_n hx hb dX10_image_39 rfl (lv_at hl 0 rfl) ?_
      refine va_iald hx hb hK hP 1 0 rfl rfl (vp_in_nI hlt (by decide)) dX10_image_40 ?_
      refine lv_topi (fun z ez => ?_)
      clear ez
      refine x_ist hx hb hK hP hD hS 2 0 rfl rfl (vp_in_nI (show 0 + i < 504 by omega) (by decide)) dX10_image_41 (fun g2 H locs hP hD hS => ?_)
      have hP : va_P D vwCl [(x0, .inr (10, [.int 0, .ref x1, .ref x2, .ref x3, .ref x4, .int 0, .ref x5, .int 0, .int 0, .int 0, .int 0, .int 0, .int 0, .int (-1), .ref x6, .ref x7, .ref x8, .ref x9, .ref x10, .ref x11, .int 0, .int 0, .int 0, .ref x12, .ref x13, .ref x14, .int 0, .int 0, .ref x15, .int 0, .ref x16, .int 0, .ref x17, .int 0, .ref x18, .ref x19, .ref x20, .ref x21])), (x1, .inl (k 0, 168, .inl gw)), (x2, .inl (k 0, 504, .inl g2)), (x3, .inl (k 3, 3, .inl gh))] H := hP
      have hD : va_D A [(x0, .inr (10, [.int 0, .ref x1, .ref x2, .ref x3, .ref x4, .int 0, .ref x5, .int 0, .int 0, .int 0, .int 0, .int 0, .int 0, .int (-1), .ref x6, .ref x7, .ref x8, .ref x9, .ref x10, .ref x11, .int 0, .int 0, .int 0, .ref x12, .ref x13, .ref x14, .int 0, .int 0, .ref x15, .int 0, .ref x16, .int 0, .ref x17, .int 0, .ref x18, .ref x19, .ref x20, .ref x21])), (x1, .inl (k 0, 168, .inl gw)), (x2, .inl (k 0, 504, .inl g2)), (x3, .inl (k 3, 3, .inl gh))] := hD
      refine lv_iinc (v := nI (i + 1)) (lv' := [(2, .int (nI (i + 1))), (0, .ref x0), (1, .int 0)]) hx hb dX10_image_42 hl (k := 0) rfl (nI_1 i) (by decide) rfl (fun ls hl => ?_)
      refine lv_goto (tgt := 17) hx hb dX10_image_45 (by decide) ?_
      exact ih (i + 1) hlt (by omega) H locs (g2) ls hP hD hS hl

set_option maxHeartbeats 4000000 in
set_option maxRecDepth 100000 in
theorem c_X10_imageW0 (l : Launch) (D : va_G) (k : Nat → ClassId) (x0 x1 x2 x3 x4 x5 x6 x7 x8 x9 x10 x11 x12 x13 x14 x15 x16 x17 x18 x19 x20 x21 : Nat) (g0 : Nat → Int32) (g1 : Nat → Int32) (g2 : Nat → Int32) (sz : Nat) : Met l yX10_image (.code yX10_image cX10_image 3 (some .int) :: TB) (rmw 2 0 0) (va_Pc [.ref x0, .int 0] (PW D k sz [(x0, .inr (10, [.int 0, .ref x1, .ref x2, .ref x3, .ref x4, .int 0, .ref x5, .int 0, .int 0, .int 0, .int 0, .int 0, .int 0, .int (-1), .ref x6, .ref x7, .ref x8, .ref x9, .ref x10, .ref x11, .int 0, .int 0, .int 0, .ref x12, .ref x13, .ref x14, .int 0, .int 0, .ref x15, .int 0, .ref x16, .int 0, .ref x17, .int 0, .ref x18, .ref x19, .ref x20, .ref x21])), (x1, .inl (k 0, 168, .inl g0)), (x2, .inl (k 0, 504, .inl g1)), (x3, .inl (k 3, 3, .inl g2))])) (QI D (S := UT) (fun r u => r = 0) (fun u => []) (fun _ => []) [(x0, .inr (10, [.int 0, .ref x1, .ref x2, .ref x3, .ref x4, .int 0, .ref x5, .int 0, .int 0, .int 0, .int 0, .int 0, .int 0, .int (-1), .ref x6, .ref x7, .ref x8, .ref x9, .ref x10, .ref x11, .int 0, .int 0, .int 0, .ref x12, .ref x13, .ref x14, .int 0, .int 0, .ref x15, .int 0, .ref x16, .int 0, .ref x17, .int 0, .ref x18, .ref x19, .ref x20, .ref x21])), (x1, .inl (k 0, 168, .inl g0)), (x2, .inl (k 0, 504, .inl g1)), (x3, .inl (k 3, 3, .inl g2))] sz) 0 0 (va_A [(x0, .inr (10, [.int 0, .ref x1, .ref x2, .ref x3, .ref x4, .int 0, .ref x5, .int 0, .int 0, .int 0, .int 0, .int 0, .int 0, .int (-1), .ref x6, .ref x7, .ref x8, .ref x9, .ref x10, .ref x11, .int 0, .int 0, .int 0, .ref x12, .ref x13, .ref x14, .int 0, .int 0, .ref x15, .int 0, .ref x16, .int 0, .ref x17, .int 0, .ref x18, .ref x19, .ref x20, .ref x21])), (x1, .inl (k 0, 168, .inl g0)), (x2, .inl (k 0, 504, .inl g1)), (x3, .inl (k 3, 3, .inl g2))] sz) := by
  refine Met.ofW (cc := cX10_image) (maxL := 3) (ret := (some .int)) (by decide) rfl ?_
  intro p e s m args below meth c s₁ B hml hv
  obtain ⟨rfl, hsz, hP, hK, hD0, hN⟩ := hv
  have hx := B.exec
  have hb := B.bytes
  have hr := B.returns
  have hT : ∀ w ∈ TB, w.before ([.ref x0, .int 0] : List Value).toArray s = true := fun w h => atoms_spec (ws := .code yX10_image cX10_image 3 (some .int) :: TB) B.pre w (List.mem_cons_of_mem _ h)
  have hown : s.vm.findClass RX10 = some m.cls := findClass_of_methodNamed B.named
  have S : CallFix p m c cX10_image 3 s _ TB RX10 := ⟨hx, hb, hml, hown, hT⟩
  subst hsz
  have hD := hD0.self (sz := s.heap.size)
  generalize hAe : va_A [(x0, .inr (10, [.int 0, .ref x1, .ref x2, .ref x3, .ref x4, .int 0, .ref x5, .int 0, .int 0, .int 0, .int 0, .int 0, .int 0, .int (-1), .ref x6, .ref x7, .ref x8, .ref x9, .ref x10, .ref x11, .int 0, .int 0, .int 0, .ref x12, .ref x13, .ref x14, .int 0, .int 0, .ref x15, .int 0, .ref x16, .int 0, .ref x17, .int 0, .ref x18, .ref x19, .ref x20, .ref x21])), (x1, .inl (k 0, 168, .inl g0)), (x2, .inl (k 0, 504, .inl g1)), (x3, .inl (k 3, 3, .inl g2))] s.heap.size = A at hD ⊢
  have hA : ∀ q : Nat, s.heap.size ≤ q → A q := fun q h => by rw [← hAe]; exact Or.inr h
  have hS : va_S A s.heap s.heap [] := va_S.rf
  have hP : va_P D vwCl [(x0, .inr (10, [.int 0, .ref x1, .ref x2, .ref x3, .ref x4, .int 0, .ref x5, .int 0, .int 0, .int 0, .int 0, .int 0, .int 0, .int (-1), .ref x6, .ref x7, .ref x8, .ref x9, .ref x10, .ref x11, .int 0, .int 0, .int 0, .ref x12, .ref x13, .ref x14, .int 0, .int 0, .ref x15, .int 0, .ref x16, .int 0, .ref x17, .int 0, .ref x18, .ref x19, .ref x20, .ref x21])), (x1, .inl (k 0, 168, .inl g0)), (x2, .inl (k 0, 504, .inl g1)), (x3, .inl (k 3, 3, .inl g2))] s.heap := hP
  have hl := lv_entry ([.ref x0, .int 0]) (n := 3) (Nat.le_of_ble_eq_true rfl)
  rw [lg_entry_eq]
  generalize (lg_sl ([.ref x0, .int 0]) ++ List.replicate (3 - (lg_sl ([.ref x0, .int 0])).length) Slot.unset).toArray = ls at hl ⊢
  have hl : lv_has ls 3 [(0, .ref x0), (1, .int 0)] := hl
  refine lv_iload_n hx hb dX10_image_0 rfl (lv_at hl 1 rfl) ?_
  refine lv_i2l (v := 0) hx hb dX10_image_1 (by decide) ?_
  refine lv_lconst (v := 0) hx hb dX10_image_2 (by decide) ?_
  refine lv_ldc2 (v := 2) hx hb hown (hT _ t1381) dX10_image_3 ?_
  refine ro_S (As := [.long 0, .long 0, .long 2]) (rest := []) S (c_X10_inP l D k 0 0 2 _) lkX10_85 ok_X10_in ⟨rfl, rfl, Nat.le_of_ble_eq_true rfl, Nat.le_of_ble_eq_true rfl⟩ (pw_S hK hN (hP.sub (ws' := []) [] rfl) ((d_sub (ws' := []) hD [] (by decide +kernel) rfl).weaken (fun _ _ _ _ => trivial))) rfl hl.1 rfl (Nat.le_of_ble_eq_true rfl) ⟨Nat.le_of_ble_eq_true rfl, Nat.le_of_ble_eq_true rfl⟩ dX10_image_6 (fun r_1 er_1 => ?_)
  rcases er_1 with ⟨er_1, gr_1⟩ | ⟨er_1, gr_1⟩
  · subst er_1
    refine lv_if_ne (tgt := 15) hx hb dX10_image_9 (by decide) (fun c_2 => ?_) (fun c_2 => ?_)
    rotate_left
    · first | exact absurd c_2 (by decide) | exact absurd (by decide) c_2
    refine lv_iconst (v := 0) hx hb dX10_image_15 (by decide) ?_
    refine lv_istore_n (lv' := [(2, .int 0), (0, .ref x0), (1, .int 0)]) hx hb dX10_image_16 rfl hl (by decide) rfl (fun ls hl => ?_)
    refine m_im0  hx hb hT hown hK (fun H locs gi1 ls hP hD hS hl => ?_) 169 0 (Nat.zero_le _) (by decide) _ _ g1 ls hP hD hS (lv_sub hl [0, 1, 2] rfl)
    refine lv_aload_n hx hb dX10_image_48 rfl (lv_at hl 1 rfl) ?_
    refine va_get (D := D) (ci := 10) (v := .ref x3) (C := RX10) (T := TX10) (N := 38) hx hb hT in_X10 hown hK hP 0 rfl rfl 3 (by decide) (hT _ t1265) (fun _ h9 => h9) rfl dX10_image_49 ?_
    refine lv_iload_n hx hb dX10_image_52 rfl (lv_at hl 2 rfl) ?_
    refine lv_iconst (v := 1) hx hb dX10_image_53 (by decide) ?_
    refine x_zst hx hb hK hP hD hS 3 3 rfl rfl (by unfold vp_in; decide) dX10_image_54 (fun f54_2 H locs hP9 hD9 hS9 => ?_)
    clear hP hD hS
    have hS := hS9
    have hP := hP9
    have hD := hD9
    clear hP9 hD9 hS9
    replace hP : va_P D vwCl [(x0, .inr (10, [.int 0, .ref x1, .ref x2, .ref x3, .ref x4, .int 0, .ref x5, .int 0, .int 0, .int 0, .int 0, .int 0, .int 0, .int (-1), .ref x6, .ref x7, .ref x8, .ref x9, .ref x10, .ref x11, .int 0, .int 0, .int 0, .ref x12, .ref x13, .ref x14, .int 0, .int 0, .ref x15, .int 0, .ref x16, .int 0, .ref x17, .int 0, .ref x18, .ref x19, .ref x20, .ref x21])), (x1, .inl (k 0, 168, .inl g0)), (x2, .inl (k 0, 504, .inl gi1)), (x3, .inl (k 3, 3, .inl f54_2))] H := hP
    replace hD : va_D A [(x0, .inr (10, [.int 0, .ref x1, .ref x2, .ref x3, .ref x4, .int 0, .ref x5, .int 0, .int 0, .int 0, .int 0, .int 0, .int 0, .int (-1), .ref x6, .ref x7, .ref x8, .ref x9, .ref x10, .ref x11, .int 0, .int 0, .int 0, .ref x12, .ref x13, .ref x14, .int 0, .int 0, .ref x15, .int 0, .ref x16, .int 0, .ref x17, .int 0, .ref x18, .ref x19, .ref x20, .ref x21])), (x1, .inl (k 0, 168, .inl g0)), (x2, .inl (k 0, 504, .inl gi1)), (x3, .inl (k 3, 3, .inl f54_2))] := hD
    refine lv_iconst (v := 0) hx hb dX10_image_55 (by decide) ?_
    have hP9 := hP.sub (ws' := []) [] rfl
    have hD9 := d_sub (ws' := []) hD [] (by decide +kernel) rfl
    have hK9 := hK.sub (tys' := []) [] rfl
    exact W.iret (v := 0) hx hb hr (fun t ht hW => ⟨⟨0, mkU [] [], rfl, rfl, by rw [ht]; exact hP9, va_K.moved hW.alike hK9, by rw [hAe]; exact hD9⟩, by rw [hAe]; exact hS.F ht⟩) hS.2.2 dX10_image_56
  · subst er_1
    exact absurd (And.intro (by decide) (by decide)) gr_1
set_option maxHeartbeats 4000000 in
set_option maxRecDepth 100000 in
theorem m_im1 {p : Program} {l : Launch} {e : Env} {R : Room} {s : State} {m : MethodId} {args : Array Value} {below : List Frame} {meth : Method} {c : Code} {cells slots : Nat} {Q : State → Prop} {D : va_G} {k : Nat → ClassId} {A : Nat → Prop} {H0 : Heap} {x0 x1 x2 x3 x4 x5 x6 x7 x8 x9 x10 x11 x12 x13 x14 x15 x16 x17 x18 x19 x20 x21 : Nat} {gw gh : Nat → Int32} (hx : p.tables.exec = Jvm.exec) (hb : c.code = cX10_image) (hT : ∀ w ∈ TB, w.before args s = true) (hown : s.vm.findClass RX10 = some m.cls) (hK : va_K D vwCl (KT k) s)
    (hend : ∀ (H : Heap) (locs : List Loc) (g : Nat → Int32) (ls : Array Slot), va_P D vwCl [(x0, .inr (10, [.int 0, .ref x1, .ref x2, .ref x3, .ref x4, .int 0, .ref x5, .int 0, .int 0, .int 0, .int 0, .int 0, .int 0, .int (-1), .ref x6, .ref x7, .ref x8, .ref x9, .ref x10, .ref x11, .int 0, .int 0, .int 0, .ref x12, .ref x13, .ref x14, .int 0, .int 0, .ref x15, .int 0, .ref x16, .int 0, .ref x17, .int 0, .ref x18, .ref x19, .ref x20, .ref x21])), (x1, .inl (k 0, 168, .inl gw)), (x2, .inl (k 0, 504, .inl g)), (x3, .inl (k 3, 3, .inl gh))] H → va_D A [(x0, .inr (10, [.int 0, .ref x1, .ref x2, .ref x3, .ref x4, .int 0, .ref x5, .int 0, .int 0, .int 0, .int 0, .int 0, .int 0, .int (-1), .ref x6, .ref x7, .ref x8, .ref x9, .ref x10, .ref x11, .int 0, .int 0, .int 0, .ref x12, .ref x13, .ref x14, .int 0, .int 0, .ref x15, .int 0, .ref x16, .int 0, .ref x17, .int 0, .ref x18, .ref x19, .ref x20, .ref x21])), (x1, .inl (k 0, 168, .inl gw)), (x2, .inl (k 0, 504, .inl g)), (x3, .inl (k 3, 3, .inl gh))] → va_S A H0 H locs → lv_has ls 3 [(2, .int (nI 168)), (0, .ref x0), (1, .int 1)] → W p l e R s m args below meth c H locs cells slots Q (F0 m 48 ls [])) :
    ∀ (n i : Nat), i ≤ 168 → 168 - i < n → ∀ (H : Heap) (locs : List Loc) (g : Nat → Int32) (ls : Array Slot), va_P D vwCl [(x0, .inr (10, [.int 0, .ref x1, .ref x2, .ref x3, .ref x4, .int 0, .ref x5, .int 0, .int 0, .int 0, .int 0, .int 0, .int 0, .int (-1), .ref x6, .ref x7, .ref x8, .ref x9, .ref x10, .ref x11, .int 0, .int 0, .int 0, .ref x12, .ref x13, .ref x14, .int 0, .int 0, .ref x15, .int 0, .ref x16, .int 0, .ref x17, .int 0, .ref x18, .ref x19, .ref x20, .ref x21])), (x1, .inl (k 0, 168, .inl gw)), (x2, .inl (k 0, 504, .inl g)), (x3, .inl (k 3, 3, .inl gh))] H → va_D A [(x0, .inr (10, [.int 0, .ref x1, .ref x2, .ref x3, .ref x4, .int 0, .ref x5, .int 0, .int 0, .int 0, .int 0, .int 0, .int 0, .int (-1), .ref x6, .ref x7, .ref x8, .ref x9, .ref x10, .ref x11, .int 0, .int 0, .int 0, .ref x12, .ref x13, .ref x14, .int 0, .int 0, .ref x15, .int 0, .ref x16, .int 0, .ref x17, .int 0, .ref x18, .ref x19, .ref x20, .ref x21])), (x1, .inl (k 0, 168, .inl gw)), (x2, .inl (k 0, 504, .inl g)), (x3, .inl (k 3, 3, .inl gh))] → va_S A H0 H locs → lv_has ls 3 [(2, .int (nI i)), (0, .ref x0), (1, .int 1)] → W p l e R s m args below meth c H locs cells slots Q (F0 m 17 ls []) := by
  intro n
  induction n with
  | zero => intro i _ h; omega
  | succ n ih =>
    intro i hi hn H locs g ls hP hD hS hl
    refine lv_iload_n hx hb dX10_image_17 rfl (lv_at hl 0 rfl) ?_
    refine lv_sipush (v := nI 168) hx hb dX10_image_18 (by decide) ?_
    refine lv_icmp_ge (tgt := 48) hx hb dX10_image_21 (by decide) (fun c1 => ?_) (fun c1 => ?_)
    · have hiN : i = 168 := by
        rcases Nat.lt_or_ge i 168 with q | q
        · exact absurd c1 (nI_ge q (by decide))
        · omega
      subst hiN
      exact hend H locs g ls hP hD hS hl
    · have hlt : i < 168 := by
        rcases Nat.lt_or_ge i 168 with q | q
        · exact q
        · exact absurd (nI_le q (by omega)) c1
      have ei : (nI i).toNatClampNeg = i := nI_clamp (by omega)
      refine lv_aload_n hx hb dX10_image_24 rfl (lv_at hl 1 rfl) ?_
      refine va_get (D := D) (ci := 10) (v := .ref x2) (C := RX10) (T := TX10) (N := 38) hx hb hT in_X10 hown hK hP 0 rfl rfl 2 (by decide) (hT _ t1264) (fun _ h9 => h9) rfl dX10_image_25 ?_
      refine lv_sipush (v := 168) hx hb dX10_image_28 (by decide) ?_
      refine lv_iload_n hx hb dX10_image_31 rfl (lv_at hl 2 rfl) ?_
      refine lv_imul hx hb dX10_image_32 ?_
      refine k_top (y := nI 168) (by decide) ?_
      refine lv_iload_n hx hb dX10_image_33 rfl (lv_at hl 0 rfl) ?_
      refine lv_iadd hx hb dX10_image_34 ?_
      refine k_top (y := nI (168 + i)) (nI_add _ _) ?_
      refine lv_aload_n hx hb dX10_image_35 rfl (lv_at hl 1 rfl) ?_
      refine va_get (D := D) (ci := 10) (v := .ref x1) (C := RX10) (T := TX10) (N := 38) hx hb hT in_X10 hown hK hP 0 rfl rfl 1 (by decide) (hT _ t1263) (fun _ h9 => h9) rfl dX10_image_36 ?_
      refine lv_iload_n hx hb dX10_image_39 rfl (lv_at hl 0 rfl) ?_
      refine va_iald hx hb hK hP 1 0 rfl rfl (vp_in_nI hlt (by decide)) dX10_image_40 ?_
      refine lv_topi (fun z ez => ?_)
      clear ez
      refine x_ist hx hb hK hP hD hS 2 0 rfl rfl (vp_in_nI (show 168 + i < 504 by omega) (by decide)) dX10_image_41 (fun g2 H locs hP hD hS => ?_)
      have hP : va_P D vwCl [(x0, .inr (10, [.int 0, .ref x1, .ref x2, .ref x3, .ref x4, .int 0, .ref x5, .int 0, .int 0, .int 0, .int 0, .int 0, .int 0, .int (-1), .ref x6, .ref x7, .ref x8, .ref x9, .ref x10, .ref x11, .int 0, .int 0, .int 0, .ref x12, .ref x13, .ref x14, .int 0, .int 0, .ref x15, .int 0, .ref x16, .int 0, .ref x17, .int 0, .ref x18, .ref x19, .ref x20, .ref x21])), (x1, .inl (k 0, 168, .inl gw)), (x2, .inl (k 0, 504, .inl g2)), (x3, .inl (k 3, 3, .inl gh))] H := hP
      have hD : va_D A [(x0, .inr (10, [.int 0, .ref x1, .ref x2, .ref x3, .ref x4, .int 0, .ref x5, .int 0, .int 0, .int 0, .int 0, .int 0, .int 0, .int (-1), .ref x6, .ref x7, .ref x8, .ref x9, .ref x10, .ref x11, .int 0, .int 0, .int 0, .ref x12, .ref x13, .ref x14, .int 0, .int 0, .ref x15, .int 0, .ref x16, .int 0, .ref x17, .int 0, .ref x18, .ref x19, .ref x20, .ref x21])), (x1, .inl (k 0, 168, .inl gw)), (x2, .inl (k 0, 504, .inl g2)), (x3, .inl (k 3, 3, .inl gh))] := hD
      refine lv_iinc (v := nI (i + 1)) (lv' := [(2, .int (nI (i + 1))), (0, .ref x0), (1, .int 1)]) hx hb dX10_image_42 hl (k := 0) rfl (nI_1 i) (by decide) rfl (fun ls hl => ?_)
      refine lv_goto (tgt := 17) hx hb dX10_image_45 (by decide) ?_
      exact ih (i + 1) hlt (by omega) H locs (g2) ls hP hD hS hl

set_option maxHeartbeats 4000000 in
set_option maxRecDepth 100000 in
theorem c_X10_imageW1 (l : Launch) (D : va_G) (k : Nat → ClassId) (x0 x1 x2 x3 x4 x5 x6 x7 x8 x9 x10 x11 x12 x13 x14 x15 x16 x17 x18 x19 x20 x21 : Nat) (g0 : Nat → Int32) (g1 : Nat → Int32) (g2 : Nat → Int32) (sz : Nat) : Met l yX10_image (.code yX10_image cX10_image 3 (some .int) :: TB) (rmw 2 0 0) (va_Pc [.ref x0, .int 1] (PW D k sz [(x0, .inr (10, [.int 0, .ref x1, .ref x2, .ref x3, .ref x4, .int 0, .ref x5, .int 0, .int 0, .int 0, .int 0, .int 0, .int 0, .int (-1), .ref x6, .ref x7, .ref x8, .ref x9, .ref x10, .ref x11, .int 0, .int 0, .int 0, .ref x12, .ref x13, .ref x14, .int 0, .int 0, .ref x15, .int 0, .ref x16, .int 0, .ref x17, .int 0, .ref x18, .ref x19, .ref x20, .ref x21])), (x1, .inl (k 0, 168, .inl g0)), (x2, .inl (k 0, 504, .inl g1)), (x3, .inl (k 3, 3, .inl g2))])) (QI D (S := UT) (fun r u => r = 0) (fun u => []) (fun _ => []) [(x0, .inr (10, [.int 0, .ref x1, .ref x2, .ref x3, .ref x4, .int 0, .ref x5, .int 0, .int 0, .int 0, .int 0, .int 0, .int 0, .int (-1), .ref x6, .ref x7, .ref x8, .ref x9, .ref x10, .ref x11, .int 0, .int 0, .int 0, .ref x12, .ref x13, .ref x14, .int 0, .int 0, .ref x15, .int 0, .ref x16, .int 0, .ref x17, .int 0, .ref x18, .ref x19, .ref x20, .ref x21])), (x1, .inl (k 0, 168, .inl g0)), (x2, .inl (k 0, 504, .inl g1)), (x3, .inl (k 3, 3, .inl g2))] sz) 0 0 (va_A [(x0, .inr (10, [.int 0, .ref x1, .ref x2, .ref x3, .ref x4, .int 0, .ref x5, .int 0, .int 0, .int 0, .int 0, .int 0, .int 0, .int (-1), .ref x6, .ref x7, .ref x8, .ref x9, .ref x10, .ref x11, .int 0, .int 0, .int 0, .ref x12, .ref x13, .ref x14, .int 0, .int 0, .ref x15, .int 0, .ref x16, .int 0, .ref x17, .int 0, .ref x18, .ref x19, .ref x20, .ref x21])), (x1, .inl (k 0, 168, .inl g0)), (x2, .inl (k 0, 504, .inl g1)), (x3, .inl (k 3, 3, .inl g2))] sz) := by
  refine Met.ofW (cc := cX10_image) (maxL := 3) (ret := (some .int)) (by decide) rfl ?_
  intro p e s m args below meth c s₁ B hml hv
  obtain ⟨rfl, hsz, hP, hK, hD0, hN⟩ := hv
  have hx := B.exec
  have hb := B.bytes
  have hr := B.returns
  have hT : ∀ w ∈ TB, w.before ([.ref x0, .int 1] : List Value).toArray s = true := fun w h => atoms_spec (ws := .code yX10_image cX10_image 3 (some .int) :: TB) B.pre w (List.mem_cons_of_mem _ h)
  have hown : s.vm.findClass RX10 = some m.cls := findClass_of_methodNamed B.named
  have S : CallFix p m c cX10_image 3 s _ TB RX10 := ⟨hx, hb, hml, hown, hT⟩
  subst hsz
  have hD := hD0.self (sz := s.heap.size)
  generalize hAe : va_A [(x0, .inr (10, [.int 0, .ref x1, .ref x2, .ref x3, .ref x4, .int 0, .ref x5, .int 0, .int 0, .int 0, .int 0, .int 0, .int 0, .int (-1), .ref x6, .ref x7, .ref x8, .ref x9, .ref x10, .ref x11, .int 0, .int 0, .int 0, .ref x12, .ref x13, .ref x14, .int 0, .int 0, .ref x15, .int 0, .ref x16, .int 0, .ref x17, .int 0, .ref x18, .ref x19, .ref x20, .ref x21])), (x1, .inl (k 0, 168, .inl g0)), (x2, .inl (k 0, 504, .inl g1)), (x3, .inl (k 3, 3, .inl g2))] s.heap.size = A at hD ⊢
  have hA : ∀ q : Nat, s.heap.size ≤ q → A q := fun q h => by rw [← hAe]; exact Or.inr h
  have hS : va_S A s.heap s.heap [] := va_S.rf
  have hP : va_P D vwCl [(x0, .inr (10, [.int 0, .ref x1, .ref x2, .ref x3, .ref x4, .int 0, .ref x5, .int 0, .int 0, .int 0, .int 0, .int 0, .int 0, .int (-1), .ref x6, .ref x7, .ref x8, .ref x9, .ref x10, .ref x11, .int 0, .int 0, .int 0, .ref x12, .ref x13, .ref x14, .int 0, .int 0, .ref x15, .int 0, .ref x16, .int 0, .ref x17, .int 0, .ref x18, .ref x19, .ref x20, .ref x21])), (x1, .inl (k 0, 168, .inl g0)), (x2, .inl (k 0, 504, .inl g1)), (x3, .inl (k 3, 3, .inl g2))] s.heap := hP
  have hl := lv_entry ([.ref x0, .int 1]) (n := 3) (Nat.le_of_ble_eq_true rfl)
  rw [lg_entry_eq]
  generalize (lg_sl ([.ref x0, .int 1]) ++ List.replicate (3 - (lg_sl ([.ref x0, .int 1])).length) Slot.unset).toArray = ls at hl ⊢
  have hl : lv_has ls 3 [(0, .ref x0), (1, .int 1)] := hl
  refine lv_iload_n hx hb dX10_image_0 rfl (lv_at hl 1 rfl) ?_
  refine lv_i2l (v := 1) hx hb dX10_image_1 (by decide) ?_
  refine lv_lconst (v := 0) hx hb dX10_image_2 (by decide) ?_
  refine lv_ldc2 (v := 2) hx hb hown (hT _ t1381) dX10_image_3 ?_
  refine ro_S (As := [.long 1, .long 0, .long 2]) (rest := []) S (c_X10_inP l D k 1 0 2 _) lkX10_85 ok_X10_in ⟨rfl, rfl, Nat.le_of_ble_eq_true rfl, Nat.le_of_ble_eq_true rfl⟩ (pw_S hK hN (hP.sub (ws' := []) [] rfl) ((d_sub (ws' := []) hD [] (by decide +kernel) rfl).weaken (fun _ _ _ _ => trivial))) rfl hl.1 rfl (Nat.le_of_ble_eq_true rfl) ⟨Nat.le_of_ble_eq_true rfl, Nat.le_of_ble_eq_true rfl⟩ dX10_image_6 (fun r_1 er_1 => ?_)
  rcases er_1 with ⟨er_1, gr_1⟩ | ⟨er_1, gr_1⟩
  · subst er_1
    refine lv_if_ne (tgt := 15) hx hb dX10_image_9 (by decide) (fun c_2 => ?_) (fun c_2 => ?_)
    rotate_left
    · first | exact absurd c_2 (by decide) | exact absurd (by decide) c_2
    refine lv_iconst (v := 0) hx hb dX10_image_15 (by decide) ?_
    refine lv_istore_n (lv' := [(2, .int 0), (0, .ref x0), (1, .int 1)]) hx hb dX10_image_16 rfl hl (by decide) rfl (fun ls hl => ?_)
    refine m_im1  hx hb hT hown hK (fun H locs gi1 ls hP hD hS hl => ?_) 169 0 (Nat.zero_le _) (by decide) _ _ g1 ls hP hD hS (lv_sub hl [0, 1, 2] rfl)
    refine lv_aload_n hx hb dX10_image_48 rfl (lv_at hl 1 rfl) ?_
    refine va_get (D := D) (ci := 10) (v := .ref x3) (C := RX10) (T := TX10) (N := 38) hx hb hT in_X10 hown hK hP 0 rfl rfl 3 (by decide) (hT _ t1265) (fun _ h9 => h9) rfl dX10_image_49 ?_
    refine lv_iload_n hx hb dX10_image_52 rfl (lv_at hl 2 rfl) ?_
    refine lv_iconst (v := 1) hx hb dX10_image_53 (by decide) ?_
    refine x_zst hx hb hK hP hD hS 3 3 rfl rfl (by unfold vp_in; decide) dX10_image_54 (fun f54_2 H locs hP9 hD9 hS9 => ?_)
    clear hP hD hS
    have hS := hS9
    have hP := hP9
    have hD := hD9
    clear hP9 hD9 hS9
    replace hP : va_P D vwCl [(x0, .inr (10, [.int 0, .ref x1, .ref x2, .ref x3, .ref x4, .int 0, .ref x5, .int 0, .int 0, .int 0, .int 0, .int 0, .int 0, .int (-1), .ref x6, .ref x7, .ref x8, .ref x9, .ref x10, .ref x11, .int 0, .int 0, .int 0, .ref x12, .ref x13, .ref x14, .int 0, .int 0, .ref x15, .int 0, .ref x16, .int 0, .ref x17, .int 0, .ref x18, .ref x19, .ref x20, .ref x21])), (x1, .inl (k 0, 168, .inl g0)), (x2, .inl (k 0, 504, .inl gi1)), (x3, .inl (k 3, 3, .inl f54_2))] H := hP
    replace hD : va_D A [(x0, .inr (10, [.int 0, .ref x1, .ref x2, .ref x3, .ref x4, .int 0, .ref x5, .int 0, .int 0, .int 0, .int 0, .int 0, .int 0, .int (-1), .ref x6, .ref x7, .ref x8, .ref x9, .ref x10, .ref x11, .int 0, .int 0, .int 0, .ref x12, .ref x13, .ref x14, .int 0, .int 0, .ref x15, .int 0, .ref x16, .int 0, .ref x17, .int 0, .ref x18, .ref x19, .ref x20, .ref x21])), (x1, .inl (k 0, 168, .inl g0)), (x2, .inl (k 0, 504, .inl gi1)), (x3, .inl (k 3, 3, .inl f54_2))] := hD
    refine lv_iconst (v := 0) hx hb dX10_image_55 (by decide) ?_
    have hP9 := hP.sub (ws' := []) [] rfl
    have hD9 := d_sub (ws' := []) hD [] (by decide +kernel) rfl
    have hK9 := hK.sub (tys' := []) [] rfl
    exact W.iret (v := 0) hx hb hr (fun t ht hW => ⟨⟨0, mkU [] [], rfl, rfl, by rw [ht]; exact hP9, va_K.moved hW.alike hK9, by rw [hAe]; exact hD9⟩, by rw [hAe]; exact hS.F ht⟩) hS.2.2 dX10_image_56
  · subst er_1
    exact absurd (And.intro (by decide) (by decide)) gr_1
set_option maxHeartbeats 4000000 in
set_option maxRecDepth 100000 in
theorem m_im2 {p : Program} {l : Launch} {e : Env} {R : Room} {s : State} {m : MethodId} {args : Array Value} {below : List Frame} {meth : Method} {c : Code} {cells slots : Nat} {Q : State → Prop} {D : va_G} {k : Nat → ClassId} {A : Nat → Prop} {H0 : Heap} {x0 x1 x2 x3 x4 x5 x6 x7 x8 x9 x10 x11 x12 x13 x14 x15 x16 x17 x18 x19 x20 x21 : Nat} {gw gh : Nat → Int32} (hx : p.tables.exec = Jvm.exec) (hb : c.code = cX10_image) (hT : ∀ w ∈ TB, w.before args s = true) (hown : s.vm.findClass RX10 = some m.cls) (hK : va_K D vwCl (KT k) s)
    (hend : ∀ (H : Heap) (locs : List Loc) (g : Nat → Int32) (ls : Array Slot), va_P D vwCl [(x0, .inr (10, [.int 0, .ref x1, .ref x2, .ref x3, .ref x4, .int 0, .ref x5, .int 0, .int 0, .int 0, .int 0, .int 0, .int 0, .int (-1), .ref x6, .ref x7, .ref x8, .ref x9, .ref x10, .ref x11, .int 0, .int 0, .int 0, .ref x12, .ref x13, .ref x14, .int 0, .int 0, .ref x15, .int 0, .ref x16, .int 0, .ref x17, .int 0, .ref x18, .ref x19, .ref x20, .ref x21])), (x1, .inl (k 0, 168, .inl gw)), (x2, .inl (k 0, 504, .inl g)), (x3, .inl (k 3, 3, .inl gh))] H → va_D A [(x0, .inr (10, [.int 0, .ref x1, .ref x2, .ref x3, .ref x4, .int 0, .ref x5, .int 0, .int 0, .int 0, .int 0, .int 0, .int 0, .int (-1), .ref x6, .ref x7, .ref x8, .ref x9, .ref x10, .ref x11, .int 0, .int 0, .int 0, .ref x12, .ref x13, .ref x14, .int 0, .int 0, .ref x15, .int 0, .ref x16, .int 0, .ref x17, .int 0, .ref x18, .ref x19, .ref x20, .ref x21])), (x1, .inl (k 0, 168, .inl gw)), (x2, .inl (k 0, 504, .inl g)), (x3, .inl (k 3, 3, .inl gh))] → va_S A H0 H locs → lv_has ls 3 [(2, .int (nI 168)), (0, .ref x0), (1, .int 2)] → W p l e R s m args below meth c H locs cells slots Q (F0 m 48 ls [])) :
    ∀ (n i : Nat), i ≤ 168 → 168 - i < n → ∀ (H : Heap) (locs : List Loc) (g : Nat → Int32) (ls : Array Slot), va_P D vwCl [(x0, .inr (10, [.int 0, .ref x1, .ref x2, .ref x3, .ref x4, .int 0, .ref x5, .int 0, .int 0, .int 0, .int 0, .int 0, .int 0, .int (-1), .ref x6, .ref x7, .ref x8, .ref x9, .ref x10, .ref x11, .int 0, .int 0, .int 0, .ref x12, .ref x13, .ref x14, .int 0, .int 0, .ref x15, .int 0, .ref x16, .int 0, .ref x17, .int 0, .ref x18, .ref x19, .ref x20, .ref x21])), (x1, .inl (k 0, 168, .inl gw)), (x2, .inl (k 0, 504, .inl g)), (x3, .inl (k 3, 3, .inl gh))] H → va_D A [(x0, .inr (10, [.int 0, .ref x1, .ref x2, .ref x3, .ref x4, .int 0, .ref x5, .int 0, .int 0, .int 0, .int 0, .int 0, .int 0, .int (-1), .ref x6, .ref x7, .ref x8, .ref x9, .ref x10, .ref x11, .int 0, .int 0, .int 0, .ref x12, .ref x13, .ref x14, .int 0, .int 0, .ref x15, .int 0, .ref x16, .int 0, .ref x17, .int 0, .ref x18, .ref x19, .ref x20, .ref x21])), (x1, .inl (k 0, 168, .inl gw)), (x2, .inl (k 0, 504, .inl g)), (x3, .inl (k 3, 3, .inl gh))] → va_S A H0 H locs → lv_has ls 3 [(2, .int (nI i)), (0, .ref x0), (1, .int 2)] → W p l e R s m args below meth c H locs cells slots Q (F0 m 17 ls []) := by
  intro n
  induction n with
  | zero => intro i _ h; omega
  | succ n ih =>
    intro i hi hn H locs g ls hP hD hS hl
    refine lv_iload_n hx hb dX10_image_17 rfl (lv_at hl 0 rfl) ?_
    refine lv_sipush (v := nI 168) hx hb dX10_image_18 (by decide) ?_
    refine lv_icmp_ge (tgt := 48) hx hb dX10_image_21 (by decide) (fun c1 => ?_) (fun c1 => ?_)
    · have hiN : i = 168 := by
        rcases Nat.lt_or_ge i 168 with q | q
        · exact absurd c1 (nI_ge q (by decide))
        · omega
      subst hiN
      exact hend H locs g ls hP hD hS hl
    · have hlt : i < 168 := by
        rcases Nat.lt_or_ge i 168 with q | q
        · exact q
        · exact absurd (nI_le q (by omega)) c1
      have ei : (nI i).toNatClampNeg = i := nI_clamp (by omega)
      refine lv_aload_n hx hb dX10_image_24 rfl (lv_at hl 1 rfl) ?_
      refine va_get (D := D) (ci := 10) (v := .ref x2) (C := RX10) (T := TX10) (N := 38) hx hb hT in_X10 hown hK hP 0 rfl rfl 2 (by decide) (hT _ t1264) (fun _ h9 => h9) rfl dX10_image_25 ?_
      refine lv_sipush (v := 168) hx hb dX10_image_28 (by decide) ?_
      refine lv_iload_n hx hb dX10_image_31 rfl (lv_at hl 2 rfl) ?_
      refine lv_imul hx hb dX10_image_32 ?_
      refine k_top (y := nI 336) (by decide) ?_
      refine lv_iload_n hx hb dX10_image_33 rfl (lv_at hl 0 rfl) ?_
      refine lv_iadd hx hb dX10_image_34 ?_
      refine k_top (y := nI (336 + i)) (nI_add _ _) ?_
      refine lv_aload_n hx hb dX10_image_35 rfl (lv_at hl 1 rfl) ?_
      refine va_get (D := D) (ci := 10) (v := .ref x1) (C := RX10) (T := TX10) (N := 38) hx hb hT in_X10 hown hK hP 0 rfl rfl 1 (by decide) (hT _ t1263) (fun _ h9 => h9) rfl dX10_image_36 ?_
      refine lv_iload_n hx hb dX10_image_39 rfl (lv_at hl 0 rfl) ?_
      refine va_iald hx hb hK hP 1 0 rfl rfl (vp_in_nI hlt (by decide)) dX10_image_40 ?_
      refine lv_topi (fun z ez => ?_)
      clear ez
      refine x_ist hx hb hK hP hD hS 2 0 rfl rfl (vp_in_nI (show 336 + i < 504 by omega) (by decide)) dX10_image_41 (fun g2 H locs hP hD hS => ?_)
      have hP : va_P D vwCl [(x0, .inr (10, [.int 0, .ref x1, .ref x2, .ref x3, .ref x4, .int 0, .ref x5, .int 0, .int 0, .int 0, .int 0, .int 0, .int 0, .int (-1), .ref x6, .ref x7, .ref x8, .ref x9, .ref x10, .ref x11, .int 0, .int 0, .int 0, .ref x12, .ref x13, .ref x14, .int 0, .int 0, .ref x15, .int 0, .ref x16, .int 0, .ref x17, .int 0, .ref x18, .ref x19, .ref x20, .ref x21])), (x1, .inl (k 0, 168, .inl gw)), (x2, .inl (k 0, 504, .inl g2)), (x3, .inl (k 3, 3, .inl gh))] H := hP
      have hD : va_D A [(x0, .inr (10, [.int 0, .ref x1, .ref x2, .ref x3, .ref x4, .int 0, .ref x5, .int 0, .int 0, .int 0, .int 0, .int 0, .int 0, .int (-1), .ref x6, .ref x7, .ref x8, .ref x9, .ref x10, .ref x11, .int 0, .int 0, .int 0, .ref x12, .ref x13, .ref x14, .int 0, .int 0, .ref x15, .int 0, .ref x16, .int 0, .ref x17, .int 0, .ref x18, .ref x19, .ref x20, .ref x21])), (x1, .inl (k 0, 168, .inl gw)), (x2, .inl (k 0, 504, .inl g2)), (x3, .inl (k 3, 3, .inl gh))] := hD
      refine lv_iinc (v := nI (i + 1)) (lv' := [(2, .int (nI (i + 1))), (0, .ref x0), (1, .int 2)]) hx hb dX10_image_42 hl (k := 0) rfl (nI_1 i) (by decide) rfl (fun ls hl => ?_)
      refine lv_goto (tgt := 17) hx hb dX10_image_45 (by decide) ?_
      exact ih (i + 1) hlt (by omega) H locs (g2) ls hP hD hS hl

set_option maxHeartbeats 4000000 in
set_option maxRecDepth 100000 in
theorem c_X10_imageW2 (l : Launch) (D : va_G) (k : Nat → ClassId) (x0 x1 x2 x3 x4 x5 x6 x7 x8 x9 x10 x11 x12 x13 x14 x15 x16 x17 x18 x19 x20 x21 : Nat) (g0 : Nat → Int32) (g1 : Nat → Int32) (g2 : Nat → Int32) (sz : Nat) : Met l yX10_image (.code yX10_image cX10_image 3 (some .int) :: TB) (rmw 2 0 0) (va_Pc [.ref x0, .int 2] (PW D k sz [(x0, .inr (10, [.int 0, .ref x1, .ref x2, .ref x3, .ref x4, .int 0, .ref x5, .int 0, .int 0, .int 0, .int 0, .int 0, .int 0, .int (-1), .ref x6, .ref x7, .ref x8, .ref x9, .ref x10, .ref x11, .int 0, .int 0, .int 0, .ref x12, .ref x13, .ref x14, .int 0, .int 0, .ref x15, .int 0, .ref x16, .int 0, .ref x17, .int 0, .ref x18, .ref x19, .ref x20, .ref x21])), (x1, .inl (k 0, 168, .inl g0)), (x2, .inl (k 0, 504, .inl g1)), (x3, .inl (k 3, 3, .inl g2))])) (QI D (S := UT) (fun r u => r = 0) (fun u => []) (fun _ => []) [(x0, .inr (10, [.int 0, .ref x1, .ref x2, .ref x3, .ref x4, .int 0, .ref x5, .int 0, .int 0, .int 0, .int 0, .int 0, .int 0, .int (-1), .ref x6, .ref x7, .ref x8, .ref x9, .ref x10, .ref x11, .int 0, .int 0, .int 0, .ref x12, .ref x13, .ref x14, .int 0, .int 0, .ref x15, .int 0, .ref x16, .int 0, .ref x17, .int 0, .ref x18, .ref x19, .ref x20, .ref x21])), (x1, .inl (k 0, 168, .inl g0)), (x2, .inl (k 0, 504, .inl g1)), (x3, .inl (k 3, 3, .inl g2))] sz) 0 0 (va_A [(x0, .inr (10, [.int 0, .ref x1, .ref x2, .ref x3, .ref x4, .int 0, .ref x5, .int 0, .int 0, .int 0, .int 0, .int 0, .int 0, .int (-1), .ref x6, .ref x7, .ref x8, .ref x9, .ref x10, .ref x11, .int 0, .int 0, .int 0, .ref x12, .ref x13, .ref x14, .int 0, .int 0, .ref x15, .int 0, .ref x16, .int 0, .ref x17, .int 0, .ref x18, .ref x19, .ref x20, .ref x21])), (x1, .inl (k 0, 168, .inl g0)), (x2, .inl (k 0, 504, .inl g1)), (x3, .inl (k 3, 3, .inl g2))] sz) := by
  refine Met.ofW (cc := cX10_image) (maxL := 3) (ret := (some .int)) (by decide) rfl ?_
  intro p e s m args below meth c s₁ B hml hv
  obtain ⟨rfl, hsz, hP, hK, hD0, hN⟩ := hv
  have hx := B.exec
  have hb := B.bytes
  have hr := B.returns
  have hT : ∀ w ∈ TB, w.before ([.ref x0, .int 2] : List Value).toArray s = true := fun w h => atoms_spec (ws := .code yX10_image cX10_image 3 (some .int) :: TB) B.pre w (List.mem_cons_of_mem _ h)
  have hown : s.vm.findClass RX10 = some m.cls := findClass_of_methodNamed B.named
  have S : CallFix p m c cX10_image 3 s _ TB RX10 := ⟨hx, hb, hml, hown, hT⟩
  subst hsz
  have hD := hD0.self (sz := s.heap.size)
  generalize hAe : va_A [(x0, .inr (10, [.int 0, .ref x1, .ref x2, .ref x3, .ref x4, .int 0, .ref x5, .int 0, .int 0, .int 0, .int 0, .int 0, .int 0, .int (-1), .ref x6, .ref x7, .ref x8, .ref x9, .ref x10, .ref x11, .int 0, .int 0, .int 0, .ref x12, .ref x13, .ref x14, .int 0, .int 0, .ref x15, .int 0, .ref x16, .int 0, .ref x17, .int 0, .ref x18, .ref x19, .ref x20, .ref x21])), (x1, .inl (k 0, 168, .inl g0)), (x2, .inl (k 0, 504, .inl g1)), (x3, .inl (k 3, 3, .inl g2))] s.heap.size = A at hD ⊢
  have hA : ∀ q : Nat, s.heap.size ≤ q → A q := fun q h => by rw [← hAe]; exact Or.inr h
  have hS : va_S A s.heap s.heap [] := va_S.rf
  have hP : va_P D vwCl [(x0, .inr (10, [.int 0, .ref x1, .ref x2, .ref x3, .ref x4, .int 0, .ref x5, .int 0, .int 0, .int 0, .int 0, .int 0, .int 0, .int (-1), .ref x6, .ref x7, .ref x8, .ref x9, .ref x10, .ref x11, .int 0, .int 0, .int 0, .ref x12, .ref x13, .ref x14, .int 0, .int 0, .ref x15, .int 0, .ref x16, .int 0, .ref x17, .int 0, .ref x18, .ref x19, .ref x20, .ref x21])), (x1, .inl (k 0, 168, .inl g0)), (x2, .inl (k 0, 504, .inl g1)), (x3, .inl (k 3, 3, .inl g2))] s.heap := hP
  have hl := lv_entry ([.ref x0, .int 2]) (n := 3) (Nat.le_of_ble_eq_true rfl)
  rw [lg_entry_eq]
  generalize (lg_sl ([.ref x0, .int 2]) ++ List.replicate (3 - (lg_sl ([.ref x0, .int 2])).length) Slot.unset).toArray = ls at hl ⊢
  have hl : lv_has ls 3 [(0, .ref x0), (1, .int 2)] := hl
  refine lv_iload_n hx hb dX10_image_0 rfl (lv_at hl 1 rfl) ?_
  refine lv_i2l (v := 2) hx hb dX10_image_1 (by decide) ?_
  refine lv_lconst (v := 0) hx hb dX10_image_2 (by decide) ?_
  refine lv_ldc2 (v := 2) hx hb hown (hT _ t1381) dX10_image_3 ?_
  refine ro_S (As := [.long 2, .long 0, .long 2]) (rest := []) S (c_X10_inP l D k 2 0 2 _) lkX10_85 ok_X10_in ⟨rfl, rfl, Nat.le_of_ble_eq_true rfl, Nat.le_of_ble_eq_true rfl⟩ (pw_S hK hN (hP.sub (ws' := []) [] rfl) ((d_sub (ws' := []) hD [] (by decide +kernel) rfl).weaken (fun _ _ _ _ => trivial))) rfl hl.1 rfl (Nat.le_of_ble_eq_true rfl) ⟨Nat.le_of_ble_eq_true rfl, Nat.le_of_ble_eq_true rfl⟩ dX10_image_6 (fun r_1 er_1 => ?_)
  rcases er_1 with ⟨er_1, gr_1⟩ | ⟨er_1, gr_1⟩
  · subst er_1
    refine lv_if_ne (tgt := 15) hx hb dX10_image_9 (by decide) (fun c_2 => ?_) (fun c_2 => ?_)
    rotate_left
    · first | exact absurd c_2 (by decide) | exact absurd (by decide) c_2
    refine lv_iconst (v := 0) hx hb dX10_image_15 (by decide) ?_
    refine lv_istore_n (lv' := [(2, .int 0), (0, .ref x0), (1, .int 2)]) hx hb dX10_image_16 rfl hl (by decide) rfl (fun ls hl => ?_)
    refine m_im2  hx hb hT hown hK (fun H locs gi1 ls hP hD hS hl => ?_) 169 0 (Nat.zero_le _) (by decide) _ _ g1 ls hP hD hS (lv_sub hl [0, 1, 2] rfl)
    refine lv_aload_n hx hb dX10_image_48 rfl (lv_at hl 1 rfl) ?_
    refine va_get (D := D) (ci := 10) (v := .ref x3) (C := RX10) (T := TX10) (N := 38) hx hb hT in_X10 hown hK hP 0 rfl rfl 3 (by decide) (hT _ t1265) (fun _ h9 => h9) rfl dX10_image_49 ?_
    refine lv_iload_n hx hb dX10_image_52 rfl (lv_at hl 2 rfl) ?_
    refine lv_iconst (v := 1) hx hb dX10_image_53 (by decide) ?_
    refine x_zst hx hb hK hP hD hS 3 3 rfl rfl (by unfold vp_in; decide) dX10_image_54 (fun f54_2 H locs hP9 hD9 hS9 => ?_)
    clear hP hD hS
    have hS := hS9
    have hP := hP9
    have hD := hD9
    clear hP9 hD9 hS9
    replace hP : va_P D vwCl [(x0, .inr (10, [.int 0, .ref x1, .ref x2, .ref x3, .ref x4, .int 0, .ref x5, .int 0, .int 0, .int 0, .int 0, .int 0, .int 0, .int (-1), .ref x6, .ref x7, .ref x8, .ref x9, .ref x10, .ref x11, .int 0, .int 0, .int 0, .ref x12, .ref x13, .ref x14, .int 0, .int 0, .ref x15, .int 0, .ref x16, .int 0, .ref x17, .int 0, .ref x18, .ref x19, .ref x20, .ref x21])), (x1, .inl (k 0, 168, .inl g0)), (x2, .inl (k 0, 504, .inl gi1)), (x3, .inl (k 3, 3, .inl f54_2))] H := hP
    replace hD : va_D A [(x0, .inr (10, [.int 0, .ref x1, .ref x2, .ref x3, .ref x4, .int 0, .ref x5, .int 0, .int 0, .int 0, .int 0, .int 0, .int 0, .int (-1), .ref x6, .ref x7, .ref x8, .ref x9, .ref x10, .ref x11, .int 0, .int 0, .int 0, .ref x12, .ref x13, .ref x14, .int 0, .int 0, .ref x15, .int 0, .ref x16, .int 0, .ref x17, .int 0, .ref x18, .ref x19, .ref x20, .ref x21])), (x1, .inl (k 0, 168, .inl g0)), (x2, .inl (k 0, 504, .inl gi1)), (x3, .inl (k 3, 3, .inl f54_2))] := hD
    refine lv_iconst (v := 0) hx hb dX10_image_55 (by decide) ?_
    have hP9 := hP.sub (ws' := []) [] rfl
    have hD9 := d_sub (ws' := []) hD [] (by decide +kernel) rfl
    have hK9 := hK.sub (tys' := []) [] rfl
    exact W.iret (v := 0) hx hb hr (fun t ht hW => ⟨⟨0, mkU [] [], rfl, rfl, by rw [ht]; exact hP9, va_K.moved hW.alike hK9, by rw [hAe]; exact hD9⟩, by rw [hAe]; exact hS.F ht⟩) hS.2.2 dX10_image_56
  · subst er_1
    exact absurd (And.intro (by decide) (by decide)) gr_1
set_option maxHeartbeats 4000000 in
set_option maxRecDepth 100000 in
theorem c_X10_imageWN (l : Launch) (D : va_G) (k : Nat → ClassId) (x0 x1 x2 x3 x4 x5 x6 x7 x8 x9 x10 x11 x12 x13 x14 x15 x16 x17 x18 x19 x20 x21 : Nat) (p0 : Int32) (hp : p0 < 0 ∨ 3 ≤ p0) (sz : Nat) : Met l yX10_image (.code yX10_image cX10_image 3 (some .int) :: TB) (rmw 2 0 0) (va_Pc [.ref x0, .int p0] (PW D k sz [(x0, .inr (10, [.int 0, .ref x1, .ref x2, .ref x3, .ref x4, .int 0, .ref x5, .int 0, .int 0, .int 0, .int 0, .int 0, .int 0, .int (-1), .ref x6, .ref x7, .ref x8, .ref x9, .ref x10, .ref x11, .int 0, .int 0, .int 0, .ref x12, .ref x13, .ref x14, .int 0, .int 0, .ref x15, .int 0, .ref x16, .int 0, .ref x17, .int 0, .ref x18, .ref x19, .ref x20, .ref x21]))])) (QI D (S := UT) (fun r u => r = -2) (fun u => []) (fun _ => []) [(x0, .inr (10, [.int 0, .ref x1, .ref x2, .ref x3, .ref x4, .int 0, .ref x5, .int 0, .int 0, .int 0, .int 0, .int 0, .int 0, .int (-1), .ref x6, .ref x7, .ref x8, .ref x9, .ref x10, .ref x11, .int 0, .int 0, .int 0, .ref x12, .ref x13, .ref x14, .int 0, .int 0, .ref x15, .int 0, .ref x16, .int 0, .ref x17, .int 0, .ref x18, .ref x19, .ref x20, .ref x21]))] sz) 0 0 (va_A [(x0, .inr (10, [.int 0, .ref x1, .ref x2, .ref x3, .ref x4, .int 0, .ref x5, .int 0, .int 0, .int 0, .int 0, .int 0, .int 0, .int (-1), .ref x6, .ref x7, .ref x8, .ref x9, .ref x10, .ref x11, .int 0, .int 0, .int 0, .ref x12, .ref x13, .ref x14, .int 0, .int 0, .ref x15, .int 0, .ref x16, .int 0, .ref x17, .int 0, .ref x18, .ref x19, .ref x20, .ref x21]))] sz) := by
  refine Met.ofW (cc := cX10_image) (maxL := 3) (ret := (some .int)) (by decide) rfl ?_
  intro p e s m args below meth c s₁ B hml hv
  obtain ⟨rfl, hsz, hP, hK, hD0, hN⟩ := hv
  have hx := B.exec
  have hb := B.bytes
  have hr := B.returns
  have hT : ∀ w ∈ TB, w.before ([.ref x0, .int p0] : List Value).toArray s = true := fun w h => atoms_spec (ws := .code yX10_image cX10_image 3 (some .int) :: TB) B.pre w (List.mem_cons_of_mem _ h)
  have hown : s.vm.findClass RX10 = some m.cls := findClass_of_methodNamed B.named
  have S : CallFix p m c cX10_image 3 s _ TB RX10 := ⟨hx, hb, hml, hown, hT⟩
  subst hsz
  have hD := hD0.self (sz := s.heap.size)
  generalize hAe : va_A [(x0, .inr (10, [.int 0, .ref x1, .ref x2, .ref x3, .ref x4, .int 0, .ref x5, .int 0, .int 0, .int 0, .int 0, .int 0, .int 0, .int (-1), .ref x6, .ref x7, .ref x8, .ref x9, .ref x10, .ref x11, .int 0, .int 0, .int 0, .ref x12, .ref x13, .ref x14, .int 0, .int 0, .ref x15, .int 0, .ref x16, .int 0, .ref x17, .int 0, .ref x18, .ref x19, .ref x20, .ref x21]))] s.heap.size = A at hD ⊢
  have hA : ∀ q : Nat, s.heap.size ≤ q → A q := fun q h => by rw [← hAe]; exact Or.inr h
  have hS : va_S A s.heap s.heap [] := va_S.rf
  have hP : va_P D vwCl [(x0, .inr (10, [.int 0, .ref x1, .ref x2, .ref x3, .ref x4, .int 0, .ref x5, .int 0, .int 0, .int 0, .int 0, .int 0, .int 0, .int (-1), .ref x6, .ref x7, .ref x8, .ref x9, .ref x10, .ref x11, .int 0, .int 0, .int 0, .ref x12, .ref x13, .ref x14, .int 0, .int 0, .ref x15, .int 0, .ref x16, .int 0, .ref x17, .int 0, .ref x18, .ref x19, .ref x20, .ref x21]))] s.heap := hP
  have hl := lv_entry ([.ref x0, .int p0]) (n := 3) (Nat.le_of_ble_eq_true rfl)
  rw [lg_entry_eq]
  generalize (lg_sl ([.ref x0, .int p0]) ++ List.replicate (3 - (lg_sl ([.ref x0, .int p0])).length) Slot.unset).toArray = ls at hl ⊢
  have hl : lv_has ls 3 [(0, .ref x0), (1, .int p0)] := hl
  refine lv_iload_n hx hb dX10_image_0 rfl (lv_at hl 1 rfl) ?_
  refine lv_i2l (v := p0.toInt64) hx hb dX10_image_1 rfl ?_
  refine lv_lconst (v := 0) hx hb dX10_image_2 (by decide) ?_
  refine lv_ldc2 (v := 2) hx hb hown (hT _ t1381) dX10_image_3 ?_
  refine ro_S (As := [.long p0.toInt64, .long 0, .long 2]) (rest := []) S (c_X10_inP l D k p0.toInt64 0 2 _) lkX10_85 ok_X10_in ⟨rfl, rfl, Nat.le_of_ble_eq_true rfl, Nat.le_of_ble_eq_true rfl⟩ (pw_S hK hN (hP.sub (ws' := []) [] rfl) ((d_sub (ws' := []) hD [] (by decide +kernel) rfl).weaken (fun _ _ _ _ => trivial))) rfl hl.1 rfl (Nat.le_of_ble_eq_true rfl) ⟨Nat.le_of_ble_eq_true rfl, Nat.le_of_ble_eq_true rfl⟩ dX10_image_6 (fun r_1 er_1 => ?_)
  rcases er_1 with ⟨er_1, gr_1⟩ | ⟨er_1, gr_1⟩
  · subst er_1
    exact absurd hp (fun z9 => z9.elim (in3_of gr_1).1 (Int32.not_le.mpr (in3_of gr_1).2))
  · subst er_1
    refine lv_if_ne (tgt := 15) hx hb dX10_image_9 (by decide) (fun c_2 => ?_) (fun c_2 => ?_)
    · first | exact absurd c_2 (by decide) | exact absurd (by decide) c_2
    refine lv_bipush (v := (-2)) hx hb dX10_image_12 (by decide) ?_
    have hP9 := hP.sub (ws' := []) [] rfl
    have hD9 := d_sub (ws' := []) hD [] (by decide +kernel) rfl
    have hK9 := hK.sub (tys' := []) [] rfl
    exact W.iret (v := (-2)) hx hb hr (fun t ht hW => ⟨⟨(-2), mkU [] [], rfl, rfl, by rw [ht]; exact hP9, va_K.moved hW.alike hK9, by rw [hAe]; exact hD9⟩, by rw [hAe]; exact hS.F ht⟩) hS.2.2 dX10_image_14
