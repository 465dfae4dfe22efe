set_option maxHeartbeats 4000000 in
set_option maxRecDepth 100000 in
theorem c_X3_init (l : Launch) (D : va_G) (k : Nat → ClassId) (h0 sz : Nat) : Met l yX3_init (.code yX3_init cX3_init 2 none :: TB) (rmw 3 35 480) (va_Pc [.ref h0] (PW D k sz [(h0, .inr (3, [.null, .null, .null, .null, .null, .int 0, .int 0, .int 0, .int 0, .int 0]))])) (QV D (S := UT) (fun u => True) (fun u => []) (fun _ => []) [(h0, .inr (3, [.null, .null, .null, .null, .null, .int 0, .int 0, .int 0, .int 0, .int 0]))] sz) 35 480 (va_A [(h0, .inr (3, [.null, .null, .null, .null, .null, .int 0, .int 0, .int 0, .int 0, .int 0]))] sz) := by
  refine Met.ofW (cc := cX3_init) (maxL := 2) (ret := none) (by decide) rfl ?_
  intro p e s m args below meth c s₁ B hml hv
  obtain ⟨rfl, hsz, hP, hK, hD0, hN⟩ := hv
  have hx := B.exec
  have hb := B.bytes
  have hr := B.returns
  have hT : ∀ w ∈ TB, w.before ([.ref h0] : List Value).toArray s = true := fun w h => atoms_spec (ws := .code yX3_init cX3_init 2 none :: TB) B.pre w (List.mem_cons_of_mem _ h)
  have hown : s.vm.findClass RX3 = some m.cls := findClass_of_methodNamed B.named
  have S : CallFix p m c cX3_init 2 s _ TB RX3 := ⟨hx, hb, hml, hown, hT⟩
  have hin : meth.name = "<init>" := (name_of_methodNamed B.named B.method).1
  subst hsz
  have hD := hD0.self (sz := s.heap.size)
  generalize hAe : va_A [(h0, .inr (3, [.null, .null, .null, .null, .null, .int 0, .int 0, .int 0, .int 0, .int 0]))] s.heap.size = A at hD ⊢
  have hA : ∀ q : Nat, s.heap.size ≤ q → A q := fun q h => by rw [← hAe]; exact Or.inr h
  have hS : va_S A s.heap s.heap [] := va_S.rf
  have hP : va_P D vwCl [(h0, .inr (3, [.null, .null, .null, .null, .null, .int 0, .int 0, .int 0, .int 0, .int 0]))] s.heap := hP
  have hl := lv_entry ([.ref h0]) (n := 2) (Nat.le_of_ble_eq_true rfl)
  rw [lg_entry_eq]
  generalize (lg_sl ([.ref h0]) ++ List.replicate (2 - (lg_sl ([.ref h0])).length) Slot.unset).toArray = ls at hl ⊢
  have hl : lv_has ls 2 [(0, .ref h0)] := hl
  refine lv_aload_n hx hb dX3_init_0 rfl (lv_at hl 0 rfl) ?_
  refine W.objInit hx hb hown (hT _ t396) (hT _ t129) (hT _ t130) rfl (by rw [hml]; exact hl.1) rfl dX3_init_1 (Nat.le_of_ble_eq_true rfl) (Nat.le_of_ble_eq_true rfl) ?_
  refine W.eq (g2 := F0 m 4 ls []) rfl ?_
  refine lv_aload_n hx hb dX3_init_4 rfl (lv_at hl 0 rfl) ?_
  refine lv_bipush (v := 6) hx hb dX3_init_5 (by decide) ?_
  refine n_newa (atype := .int) (ty := .int) (cT := k 0) (N' := 6) (a0 := (6, .inl (fun _ => 0))) 0 ra_int rfl hx hb (hT _ t194) rfl hK hP hD hS hA (fun _ => rfl) (by decide) (by decide) (Nat.le_of_ble_eq_true rfl) (Nat.le_of_ble_eq_true rfl) (Nat.le_of_ble_eq_true rfl) dX3_init_7 (fun q7_1 H hP9 hD9 hS9 => ?_)
  clear hP hD hS
  have hS := hS9
  have hP := hP9
  have hD := hD9
  clear hP9 hD9 hS9
  replace hP : va_P D vwCl [(h0, .inr (3, [.null, .null, .null, .null, .null, .int 0, .int 0, .int 0, .int 0, .int 0])), (q7_1, .inl (k 0, 6, .inl (fun _ => 0)))] H := hP
  replace hD : va_D A [(h0, .inr (3, [.null, .null, .null, .null, .null, .int 0, .int 0, .int 0, .int 0, .int 0])), (q7_1, .inl (k 0, 6, .inl (fun _ => 0)))] := hD
  refine W.widen (k := 1) (n := 6) (Nat.le_of_ble_eq_true rfl) (Nat.le_of_ble_eq_true rfl) ?_
  refine va_putF (D := D) (ci := 3) (v := .ref q7_1) (ty := .array .int) (C := RX3) (T := TX3) (N := 10) hx hb hT in_X3 tyX3 tyX3_ok nmX3 hown hK hP hD hS 0 rfl rfl 1 (by decide) (hT _ t401) (fun _ h9 => h9) rfl hin rfl (by decide +kernel) rfl rfl (Nat.le_of_ble_eq_true rfl) dX3_init_9 (fun H locs hP9 hD9 hS9 => ?_)
  clear hP hD hS
  have hS := hS9
  have hP := hP9
  have hD := hD9
  clear hP9 hD9 hS9
  replace hP : va_P D vwCl [(h0, .inr (3, [.null, .ref q7_1, .null, .null, .null, .int 0, .int 0, .int 0, .int 0, .int 0])), (q7_1, .inl (k 0, 6, .inl (fun _ => 0)))] H := hP
  replace hD : va_D A [(h0, .inr (3, [.null, .ref q7_1, .null, .null, .null, .int 0, .int 0, .int 0, .int 0, .int 0])), (q7_1, .inl (k 0, 6, .inl (fun _ => 0)))] := hD
  refine lv_aload_n hx hb dX3_init_12 rfl (lv_at hl 0 rfl) ?_
  refine lv_bipush (v := 6) hx hb dX3_init_13 (by decide) ?_
  refine n_newa (atype := .int) (ty := .int) (cT := k 0) (N' := 6) (a0 := (6, .inl (fun _ => 0))) 0 ra_int rfl hx hb (hT _ t194) rfl hK hP hD hS hA (fun _ => rfl) (by decide) (by decide) (Nat.le_of_ble_eq_true rfl) (Nat.le_of_ble_eq_true rfl) (Nat.le_of_ble_eq_true rfl) dX3_init_15 (fun q15_2 H hP9 hD9 hS9 => ?_)
  clear hP hD hS
  have hS := hS9
  have hP := hP9
  have hD := hD9
  clear hP9 hD9 hS9
  replace hP : va_P D vwCl [(h0, .inr (3, [.null, .ref q7_1, .null, .null, .null, .int 0, .int 0, .int 0, .int 0, .int 0])), (q7_1, .inl (k 0, 6, .inl (fun _ => 0))), (q15_2, .inl (k 0, 6, .inl (fun _ => 0)))] H := hP
  replace hD : va_D A [(h0, .inr (3, [.null, .ref q7_1, .null, .null, .null, .int 0, .int 0, .int 0, .int 0, .int 0])), (q7_1, .inl (k 0, 6, .inl (fun _ => 0))), (q15_2, .inl (k 0, 6, .inl (fun _ => 0)))] := hD
  refine W.widen (k := 2) (n := 12) (Nat.le_of_ble_eq_true rfl) (Nat.le_of_ble_eq_true rfl) ?_
  refine va_putF (D := D) (ci := 3) (v := .ref q15_2) (ty := .array .int) (C := RX3) (T := TX3) (N := 10) hx hb hT in_X3 tyX3 tyX3_ok nmX3 hown hK hP hD hS 0 rfl rfl 2 (by decide) (hT _ t403) (fun _ h9 => h9) rfl hin rfl (by decide +kernel) rfl rfl (Nat.le_of_ble_eq_true rfl) dX3_init_17 (fun H locs hP9 hD9 hS9 => ?_)
  clear hP hD hS
  have hS := hS9
  have hP := hP9
  have hD := hD9
  clear hP9 hD9 hS9
  replace hP : va_P D vwCl [(h0, .inr (3, [.null, .ref q7_1, .ref q15_2, .null, .null, .int 0, .int 0, .int 0, .int 0, .int 0])), (q7_1, .inl (k 0, 6, .inl (fun _ => 0))), (q15_2, .inl (k 0, 6, .inl (fun _ => 0)))] H := hP
  replace hD : va_D A [(h0, .inr (3, [.null, .ref q7_1, .ref q15_2, .null, .null, .int 0, .int 0, .int 0, .int 0, .int 0])), (q7_1, .inl (k 0, 6, .inl (fun _ => 0))), (q15_2, .inl (k 0, 6, .inl (fun _ => 0)))] := hD
  refine lv_aload_n hx hb dX3_init_20 rfl (lv_at hl 0 rfl) ?_
  refine lv_iconst (v := 4) hx hb dX3_init_21 (by decide) ?_
  refine n_newa (atype := .int) (ty := .int) (cT := k 0) (N' := 4) (a0 := (4, .inl (fun _ => 0))) 0 ra_int rfl hx hb (hT _ t194) rfl hK hP hD hS hA (fun _ => rfl) (by decide) (by decide) (Nat.le_of_ble_eq_true rfl) (Nat.le_of_ble_eq_true rfl) (Nat.le_of_ble_eq_true rfl) dX3_init_22 (fun q22_3 H hP9 hD9 hS9 => ?_)
  clear hP hD hS
  have hS := hS9
  have hP := hP9
  have hD := hD9
  clear hP9 hD9 hS9
  replace hP : va_P D vwCl [(h0, .inr (3, [.null, .ref q7_1, .ref q15_2, .null, .null, .int 0, .int 0, .int 0, .int 0, .int 0])), (q7_1, .inl (k 0, 6, .inl (fun _ => 0))), (q15_2, .inl (k 0, 6, .inl (fun _ => 0))), (q22_3, .inl (k 0, 4, .inl (fun _ => 0)))] H := hP
  replace hD : va_D A [(h0, .inr (3, [.null, .ref q7_1, .ref q15_2, .null, .null, .int 0, .int 0, .int 0, .int 0, .int 0])), (q7_1, .inl (k 0, 6, .inl (fun _ => 0))), (q15_2, .inl (k 0, 6, .inl (fun _ => 0))), (q22_3, .inl (k 0, 4, .inl (fun _ => 0)))] := hD
  refine W.widen (k := 3) (n := 16) (Nat.le_of_ble_eq_true rfl) (Nat.le_of_ble_eq_true rfl) ?_
  refine va_putF (D := D) (ci := 3) (v := .ref q22_3) (ty := .array .int) (C := RX3) (T := TX3) (N := 10) hx hb hT in_X3 tyX3 tyX3_ok nmX3 hown hK hP hD hS 0 rfl rfl 3 (by decide) (hT _ t404) (fun _ h9 => h9) rfl hin rfl (by decide +kernel) rfl rfl (Nat.le_of_ble_eq_true rfl) dX3_init_24 (fun H locs hP9 hD9 hS9 => ?_)
  clear hP hD hS
  have hS := hS9
  have hP := hP9
  have hD := hD9
  clear hP9 hD9 hS9
  replace hP : va_P D vwCl [(h0, .inr (3, [.null, .ref q7_1, .ref q15_2, .ref q22_3, .null, .int 0, .int 0, .int 0, .int 0, .int 0])), (q7_1, .inl (k 0, 6, .inl (fun _ => 0))), (q15_2, .inl (k 0, 6, .inl (fun _ => 0))), (q22_3, .inl (k 0, 4, .inl (fun _ => 0)))] H := hP
  replace hD : va_D A [(h0, .inr (3, [.null, .ref q7_1, .ref q15_2, .ref q22_3, .null, .int 0, .int 0, .int 0, .int 0, .int 0])), (q7_1, .inl (k 0, 6, .inl (fun _ => 0))), (q15_2, .inl (k 0, 6, .inl (fun _ => 0))), (q22_3, .inl (k 0, 4, .inl (fun _ => 0)))] := hD
  refine lv_aload_n hx hb dX3_init_27 rfl (lv_at hl 0 rfl) ?_
  refine lv_iconst (v := 4) hx hb dX3_init_28 (by decide) ?_
  refine n_newa (atype := .int) (ty := .int) (cT := k 0) (N' := 4) (a0 := (4, .inl (fun _ => 0))) 0 ra_int rfl hx hb (hT _ t194) rfl hK hP hD hS hA (fun _ => rfl) (by decide) (by decide) (Nat.le_of_ble_eq_true rfl) (Nat.le_of_ble_eq_true rfl) (Nat.le_of_ble_eq_true rfl) dX3_init_29 (fun q29_4 H hP9 hD9 hS9 => ?_)
  clear hP hD hS
  have hS := hS9
  have hP := hP9
  have hD := hD9
  clear hP9 hD9 hS9
  replace hP : va_P D vwCl [(h0, .inr (3, [.null, .ref q7_1, .ref q15_2, .ref q22_3, .null, .int 0, .int 0, .int 0, .int 0, .int 0])), (q7_1, .inl (k 0, 6, .inl (fun _ => 0))), (q15_2, .inl (k 0, 6, .inl (fun _ => 0))), (q22_3, .inl (k 0, 4, .inl (fun _ => 0))), (q29_4, .inl (k 0, 4, .inl (fun _ => 0)))] H := hP
  replace hD : va_D A [(h0, .inr (3, [.null, .ref q7_1, .ref q15_2, .ref q22_3, .null, .int 0, .int 0, .int 0, .int 0, .int 0])), (q7_1, .inl (k 0, 6, .inl (fun _ => 0))), (q15_2, .inl (k 0, 6, .inl (fun _ => 0))), (q22_3, .inl (k 0, 4, .inl (fun _ => 0))), (q29_4, .inl (k 0, 4, .inl (fun _ => 0)))] := hD
  refine W.widen (k := 4) (n := 20) (Nat.le_of_ble_eq_true rfl) (Nat.le_of_ble_eq_true rfl) ?_
  refine va_putF (D := D) (ci := 3) (v := .ref q29_4) (ty := .array .int) (C := RX3) (T := TX3) (N := 10) hx hb hT in_X3 tyX3 tyX3_ok nmX3 hown hK hP hD hS 0 rfl rfl 4 (by decide) (hT _ t405) (fun _ h9 => h9) rfl hin rfl (by decide +kernel) rfl rfl (Nat.le_of_ble_eq_true rfl) dX3_init_31 (fun H locs hP9 hD9 hS9 => ?_)
  clear hP hD hS
  have hS := hS9
  have hP := hP9
  have hD := hD9
  clear hP9 hD9 hS9
  replace hP : va_P D vwCl [(h0, .inr (3, [.null, .ref q7_1, .ref q15_2, .ref q22_3, .ref q29_4, .int 0, .int 0, .int 0, .int 0, .int 0])), (q7_1, .inl (k 0, 6, .inl (fun _ => 0))), (q15_2, .inl (k 0, 6, .inl (fun _ => 0))), (q22_3, .inl (k 0, 4, .inl (fun _ => 0))), (q29_4, .inl (k 0, 4, .inl (fun _ => 0)))] H := hP
  replace hD : va_D A [(h0, .inr (3, [.null, .ref q7_1, .ref q15_2, .ref q22_3, .ref q29_4, .int 0, .int 0, .int 0, .int 0, .int 0])), (q7_1, .inl (k 0, 6, .inl (fun _ => 0))), (q15_2, .inl (k 0, 6, .inl (fun _ => 0))), (q22_3, .inl (k 0, 4, .inl (fun _ => 0))), (q29_4, .inl (k 0, 4, .inl (fun _ => 0)))] := hD
  refine lv_aload_n hx hb dX3_init_34 rfl (lv_at hl 0 rfl) ?_
  refine lv_iconst (v := 5) hx hb dX3_init_35 (by decide) ?_
  refine n_newq (cT := k 5) (N' := 5) 5 rfl hx hb hown (hT _ t397) hN.2.2.1 hK hP hD hS hA (by decide) (by decide) (Nat.le_of_ble_eq_true rfl) (Nat.le_of_ble_eq_true rfl) (Nat.le_of_ble_eq_true rfl) dX3_init_36 (fun q36_5 H hP9 hD9 hS9 => ?_)
  clear hP hD hS
  have hS := hS9
  have hP := hP9
  have hD := hD9
  clear hP9 hD9 hS9
  replace hP : va_P D vwCl [(h0, .inr (3, [.null, .ref q7_1, .ref q15_2, .ref q22_3, .ref q29_4, .int 0, .int 0, .int 0, .int 0, .int 0])), (q7_1, .inl (k 0, 6, .inl (fun _ => 0))), (q15_2, .inl (k 0, 6, .inl (fun _ => 0))), (q22_3, .inl (k 0, 4, .inl (fun _ => 0))), (q29_4, .inl (k 0, 4, .inl (fun _ => 0))), (q36_5, .inl (k 5, 5, .inr (.inr (.inr (.inr (fun _ => none))))))] H := hP
  replace hD : va_D A [(h0, .inr (3, [.null, .ref q7_1, .ref q15_2, .ref q22_3, .ref q29_4, .int 0, .int 0, .int 0, .int 0, .int 0])), (q7_1, .inl (k 0, 6, .inl (fun _ => 0))), (q15_2, .inl (k 0, 6, .inl (fun _ => 0))), (q22_3, .inl (k 0, 4, .inl (fun _ => 0))), (q29_4, .inl (k 0, 4, .inl (fun _ => 0))), (q36_5, .inl (k 5, 5, .inr (.inr (.inr (.inr (fun _ => none))))))] := hD
  refine W.widen (k := 5) (n := 25) (Nat.le_of_ble_eq_true rfl) (Nat.le_of_ble_eq_true rfl) ?_
  refine va_putF (D := D) (ci := 3) (v := .ref q36_5) (ty := .array (.object "WheelMemory$State")) (C := RX3) (T := TX3) (N := 10) hx hb hT in_X3 tyX3 tyX3_ok nmX3 hown hK hP hD hS 0 rfl rfl 0 (by decide) (hT _ t400) (fun _ h9 => h9) rfl hin rfl (by decide +kernel) rfl rfl (Nat.le_of_ble_eq_true rfl) dX3_init_39 (fun H locs hP9 hD9 hS9 => ?_)
  clear hP hD hS
  have hS := hS9
  have hP := hP9
  have hD := hD9
  clear hP9 hD9 hS9
  replace hP : va_P D vwCl [(h0, .inr (3, [.ref q36_5, .ref q7_1, .ref q15_2, .ref q22_3, .ref q29_4, .int 0, .int 0, .int 0, .int 0, .int 0])), (q7_1, .inl (k 0, 6, .inl (fun _ => 0))), (q15_2, .inl (k 0, 6, .inl (fun _ => 0))), (q22_3, .inl (k 0, 4, .inl (fun _ => 0))), (q29_4, .inl (k 0, 4, .inl (fun _ => 0))), (q36_5, .inl (k 5, 5, .inr (.inr (.inr (.inr (fun _ => none))))))] H := hP
  replace hD : va_D A [(h0, .inr (3, [.ref q36_5, .ref q7_1, .ref q15_2, .ref q22_3, .ref q29_4, .int 0, .int 0, .int 0, .int 0, .int 0])), (q7_1, .inl (k 0, 6, .inl (fun _ => 0))), (q15_2, .inl (k 0, 6, .inl (fun _ => 0))), (q22_3, .inl (k 0, 4, .inl (fun _ => 0))), (q29_4, .inl (k 0, 4, .inl (fun _ => 0))), (q36_5, .inl (k 5, 5, .inr (.inr (.inr (.inr (fun _ => none))))))] := hD
  refine lv_iconst (v := 0) hx hb dX3_init_42 (by decide) ?_
  refine lv_istore_n (lv' := [(1, .int 0), (0, .ref h0)]) hx hb dX3_init_43 rfl hl (by decide) rfl (fun ls hl => ?_)
  refine lv_iload_n hx hb dX3_init_44 rfl (lv_at hl 0 rfl) ?_
  refine lv_iconst (v := 4) hx hb dX3_init_45 (by decide) ?_
  refine lv_icmp_gt (tgt := 68) hx hb dX3_init_46 (by decide) (fun c_1 => ?_) (fun c_1 => ?_)
  · first | exact absurd c_1 (by decide) | exact absurd (by decide) c_1
  refine lv_aload_n hx hb dX3_init_49 rfl (lv_at hl 1 rfl) ?_
  refine va_get (D := D) (ci := 3) (v := .ref q36_5) (C := RX3) (T := TX3) (N := 10) hx hb hT in_X3 hown hK hP 0 rfl rfl 0 (by decide) (hT _ t400) (fun _ h9 => h9) rfl dX3_init_50 ?_
  refine lv_iload_n hx hb dX3_init_53 rfl (lv_at hl 0 rfl) ?_
  refine va_new (ci := 5) (fs := [.null, .null, .null, .null, .null]) (C := RX5) (T := TX5) (N := 5) hx hb hT in_X5 tyX5 tyX5_ok hown (hT _ t397) (hT _ t159) (hT _ t108) hK hP hD hS hA rfl (fun j hj => by rcases (show j = 0 ∨ j = 1 ∨ j = 2 ∨ j = 3 ∨ j = 4 by omega) with rfl | rfl | rfl | rfl | rfl <;> rfl) (Nat.le_of_ble_eq_true rfl) (Nat.le_of_ble_eq_true rfl) dX3_init_54 (fun q54_6 H hP9 hD9 hS9 => ?_)
  clear hP hD hS
  have hS := hS9
  have hP := hP9
  have hD := hD9
  clear hP9 hD9 hS9
  replace hP : va_P D vwCl [(h0, .inr (3, [.ref q36_5, .ref q7_1, .ref q15_2, .ref q22_3, .ref q29_4, .int 0, .int 0, .int 0, .int 0, .int 0])), (q7_1, .inl (k 0, 6, .inl (fun _ => 0))), (q15_2, .inl (k 0, 6, .inl (fun _ => 0))), (q22_3, .inl (k 0, 4, .inl (fun _ => 0))), (q29_4, .inl (k 0, 4, .inl (fun _ => 0))), (q36_5, .inl (k 5, 5, .inr (.inr (.inr (.inr (fun _ => none)))))), (q54_6, .inr (5, [.null, .null, .null, .null, .null]))] H := hP
  replace hD : va_D A [(h0, .inr (3, [.ref q36_5, .ref q7_1, .ref q15_2, .ref q22_3, .ref q29_4, .int 0, .int 0, .int 0, .int 0, .int 0])), (q7_1, .inl (k 0, 6, .inl (fun _ => 0))), (q15_2, .inl (k 0, 6, .inl (fun _ => 0))), (q22_3, .inl (k 0, 4, .inl (fun _ => 0))), (q29_4, .inl (k 0, 4, .inl (fun _ => 0))), (q36_5, .inl (k 5, 5, .inr (.inr (.inr (.inr (fun _ => none)))))), (q54_6, .inr (5, [.null, .null, .null, .null, .null]))] := hD
  refine W.widen (k := 6) (n := 30) (Nat.le_of_ble_eq_true rfl) (Nat.le_of_ble_eq_true rfl) ?_
  refine lv_dup hx hb dX3_init_57 rfl ?_
  refine rw_v (wc := [(q54_6, .inr (5, [.null, .null, .null, .null, .null]))]) (wr := [(h0, .inr (3, [.ref q36_5, .ref q7_1, .ref q15_2, .ref q22_3, .ref q29_4, .int 0, .int 0, .int 0, .int 0, .int 0])), (q7_1, .inl (k 0, 6, .inl (fun _ => 0))), (q15_2, .inl (k 0, 6, .inl (fun _ => 0))), (q22_3, .inl (k 0, 4, .inl (fun _ => 0))), (q29_4, .inl (k 0, 4, .inl (fun _ => 0))), (q36_5, .inl (k 5, 5, .inr (.inr (.inr (.inr (fun _ => none))))))]) [6] [0, 1, 2, 3, 4, 5] rfl rfl (by decide +kernel) (by decide +kernel) (by decide +kernel) hP hD hS hA (fun hPc hDc => run_I (C := RX5) (As := []) (rest := [.ref q54_6, .int 0, .ref q36_5]) S (c_X5_init l D k q54_6 _) (gdC t162) t399 t161 t108 rfl ok_X5_init ⟨rfl, rfl, Nat.le_of_ble_eq_true rfl, Nat.le_of_ble_eq_true rfl⟩ (pw_S hK hN hPc hDc) rfl hl.1 rfl (Nat.le_of_ble_eq_true rfl) ⟨Nat.le_of_ble_eq_true rfl, Nat.le_of_ble_eq_true rfl⟩ dX3_init_58) (fun u58_7 H locs hu58_7 hKu58_7 hP9 hD9 hS9 => ?_)
  clear hP hD hS
  have hS := hS9
  have hP := hP9
  have hD := hD9
  clear hP9 hD9 hS9
  replace hP : va_P D vwCl [(h0, .inr (3, [.ref q36_5, .ref q7_1, .ref q15_2, .ref q22_3, .ref q29_4, .int 0, .int 0, .int 0, .int 0, .int 0])), (q7_1, .inl (k 0, 6, .inl (fun _ => 0))), (q15_2, .inl (k 0, 6, .inl (fun _ => 0))), (q22_3, .inl (k 0, 4, .inl (fun _ => 0))), (q29_4, .inl (k 0, 4, .inl (fun _ => 0))), (q36_5, .inl (k 5, 5, .inr (.inr (.inr (.inr (fun _ => none)))))), (q54_6, .inr (5, [.ref (u58_7.1 0), .ref (u58_7.1 1), .ref (u58_7.1 2), .ref (u58_7.1 3), .ref (u58_7.1 4)])), (u58_7.1 0, .inl (k 0, 64, .inl (fun _ => 0))), (u58_7.1 1, .inl (k 0, 8, .inl (fun _ => 0))), (u58_7.1 2, .inl (k 0, 8, .inl (u58_7.2 0))), (u58_7.1 3, .inl (k 0, 3, .inl (fun _ => 0))), (u58_7.1 4, .inl (k 0, 3, .inl (fun _ => 0)))] H := hP
  replace hD : va_D A [(h0, .inr (3, [.ref q36_5, .ref q7_1, .ref q15_2, .ref q22_3, .ref q29_4, .int 0, .int 0, .int 0, .int 0, .int 0])), (q7_1, .inl (k 0, 6, .inl (fun _ => 0))), (q15_2, .inl (k 0, 6, .inl (fun _ => 0))), (q22_3, .inl (k 0, 4, .inl (fun _ => 0))), (q29_4, .inl (k 0, 4, .inl (fun _ => 0))), (q36_5, .inl (k 5, 5, .inr (.inr (.inr (.inr (fun _ => none)))))), (q54_6, .inr (5, [.ref (u58_7.1 0), .ref (u58_7.1 1), .ref (u58_7.1 2), .ref (u58_7.1 3), .ref (u58_7.1 4)])), (u58_7.1 0, .inl (k 0, 64, .inl (fun _ => 0))), (u58_7.1 1, .inl (k 0, 8, .inl (fun _ => 0))), (u58_7.1 2, .inl (k 0, 8, .inl (u58_7.2 0))), (u58_7.1 3, .inl (k 0, 3, .inl (fun _ => 0))), (u58_7.1 4, .inl (k 0, 3, .inl (fun _ => 0)))] := hD
  refine W.widen (k := 11) (n := 116) (Nat.le_of_ble_eq_true rfl) (Nat.le_of_ble_eq_true rfl) ?_
  refine va_astq hx hb hK hP hD hS 5 5 6 5 rfl rfl rfl rfl (by unfold vp_in; decide) dX3_init_61 (fun H locs hP9 hD9 hS9 => ?_)
  clear hP hD hS
  have hS := hS9
  have hP := hP9
  have hD := hD9
  clear hP9 hD9 hS9
  rw [show ((0 : Int32)).toNatClampNeg = 0 from by decide] at hP hD
  replace hP : va_P D vwCl [(h0, .inr (3, [.ref q36_5, .ref q7_1, .ref q15_2, .ref q22_3, .ref q29_4, .int 0, .int 0, .int 0, .int 0, .int 0])), (q7_1, .inl (k 0, 6, .inl (fun _ => 0))), (q15_2, .inl (k 0, 6, .inl (fun _ => 0))), (q22_3, .inl (k 0, 4, .inl (fun _ => 0))), (q29_4, .inl (k 0, 4, .inl (fun _ => 0))), (q36_5, .inl (k 5, 5, .inr (.inr (.inr (.inr (va_up (fun _ => none) 0 (some q54_6))))))), (q54_6, .inr (5, [.ref (u58_7.1 0), .ref (u58_7.1 1), .ref (u58_7.1 2), .ref (u58_7.1 3), .ref (u58_7.1 4)])), (u58_7.1 0, .inl (k 0, 64, .inl (fun _ => 0))), (u58_7.1 1, .inl (k 0, 8, .inl (fun _ => 0))), (u58_7.1 2, .inl (k 0, 8, .inl (u58_7.2 0))), (u58_7.1 3, .inl (k 0, 3, .inl (fun _ => 0))), (u58_7.1 4, .inl (k 0, 3, .inl (fun _ => 0)))] H := hP
  replace hD : va_D A [(h0, .inr (3, [.ref q36_5, .ref q7_1, .ref q15_2, .ref q22_3, .ref q29_4, .int 0, .int 0, .int 0, .int 0, .int 0])), (q7_1, .inl (k 0, 6, .inl (fun _ => 0))), (q15_2, .inl (k 0, 6, .inl (fun _ => 0))), (q22_3, .inl (k 0, 4, .inl (fun _ => 0))), (q29_4, .inl (k 0, 4, .inl (fun _ => 0))), (q36_5, .inl (k 5, 5, .inr (.inr (.inr (.inr (va_up (fun _ => none) 0 (some q54_6))))))), (q54_6, .inr (5, [.ref (u58_7.1 0), .ref (u58_7.1 1), .ref (u58_7.1 2), .ref (u58_7.1 3), .ref (u58_7.1 4)])), (u58_7.1 0, .inl (k 0, 64, .inl (fun _ => 0))), (u58_7.1 1, .inl (k 0, 8, .inl (fun _ => 0))), (u58_7.1 2, .inl (k 0, 8, .inl (u58_7.2 0))), (u58_7.1 3, .inl (k 0, 3, .inl (fun _ => 0))), (u58_7.1 4, .inl (k 0, 3, .inl (fun _ => 0)))] := hD
  replace hP := hP.sub (ws' := [(h0, .inr (3, [.ref q36_5, .ref q7_1, .ref q15_2, .ref q22_3, .ref q29_4, .int 0, .int 0, .int 0, .int 0, .int 0])), (q36_5, .inl (k 5, 5, .inr (.inr (.inr (.inr (va_up (fun _ => none) 0 (some q54_6)))))))]) [0, 5] rfl
  replace hD := d_sub (ws' := [(h0, .inr (3, [.ref q36_5, .ref q7_1, .ref q15_2, .ref q22_3, .ref q29_4, .int 0, .int 0, .int 0, .int 0, .int 0])), (q36_5, .inl (k 5, 5, .inr (.inr (.inr (.inr (va_up (fun _ => none) 0 (some q54_6)))))))]) hD [0, 5] (by decide +kernel) rfl
  refine lv_iinc (v := 1) (lv' := [(1, .int 1), (0, .ref h0)]) hx hb dX3_init_62 hl (k := 0) rfl (by decide) (by decide) rfl (fun ls hl => ?_)
  refine lv_goto (tgt := 44) hx hb dX3_init_65 (by decide) ?_
  refine lv_iload_n hx hb dX3_init_44 rfl (lv_at hl 0 rfl) ?_
  refine lv_iconst (v := 4) hx hb dX3_init_45 (by decide) ?_
  refine lv_icmp_gt (tgt := 68) hx hb dX3_init_46 (by decide) (fun c_2 => ?_) (fun c_2 => ?_)
  · first | exact absurd c_2 (by decide) | exact absurd (by decide) c_2
  refine lv_aload_n hx hb dX3_init_49 rfl (lv_at hl 1 rfl) ?_
  refine va_get (D := D) (ci := 3) (v := .ref q36_5) (C := RX3) (T := TX3) (N := 10) hx hb hT in_X3 hown hK hP 0 rfl rfl 0 (by decide) (hT _ t400) (fun _ h9 => h9) rfl dX3_init_50 ?_
  refine lv_iload_n hx hb dX3_init_53 rfl (lv_at hl 0 rfl) ?_
  refine va_new (ci := 5) (fs := [.null, .null, .null, .null, .null]) (C := RX5) (T := TX5) (N := 5) hx hb hT in_X5 tyX5 tyX5_ok hown (hT _ t397) (hT _ t159) (hT _ t108) hK hP hD hS hA rfl (fun j hj => by rcases (show j = 0 ∨ j = 1 ∨ j = 2 ∨ j = 3 ∨ j = 4 by omega) with rfl | rfl | rfl | rfl | rfl <;> rfl) (Nat.le_of_ble_eq_true rfl) (Nat.le_of_ble_eq_true rfl) dX3_init_54 (fun q54_8 H hP9 hD9 hS9 => ?_)
  clear hP hD hS
  have hS := hS9
  have hP := hP9
  have hD := hD9
  clear hP9 hD9 hS9
  replace hP : va_P D vwCl [(h0, .inr (3, [.ref q36_5, .ref q7_1, .ref q15_2, .ref q22_3, .ref q29_4, .int 0, .int 0, .int 0, .int 0, .int 0])), (q36_5, .inl (k 5, 5, .inr (.inr (.inr (.inr (va_up (fun _ => none) 0 (some q54_6))))))), (q54_8, .inr (5, [.null, .null, .null, .null, .null]))] H := hP
  replace hD : va_D A [(h0, .inr (3, [.ref q36_5, .ref q7_1, .ref q15_2, .ref q22_3, .ref q29_4, .int 0, .int 0, .int 0, .int 0, .int 0])), (q36_5, .inl (k 5, 5, .inr (.inr (.inr (.inr (va_up (fun _ => none) 0 (some q54_6))))))), (q54_8, .inr (5, [.null, .null, .null, .null, .null]))] := hD
  refine W.widen (k := 12) (n := 121) (Nat.le_of_ble_eq_true rfl) (Nat.le_of_ble_eq_true rfl) ?_
  refine lv_dup hx hb dX3_init_57 rfl ?_
  refine rw_v (wc := [(q54_8, .inr (5, [.null, .null, .null, .null, .null]))]) (wr := [(h0, .inr (3, [.ref q36_5, .ref q7_1, .ref q15_2, .ref q22_3, .ref q29_4, .int 0, .int 0, .int 0, .int 0, .int 0])), (q36_5, .inl (k 5, 5, .inr (.inr (.inr (.inr (va_up (fun _ => none) 0 (some q54_6)))))))]) [2] [0, 1] rfl rfl (by decide +kernel) (by decide +kernel) (by decide +kernel) hP hD hS hA (fun hPc hDc => run_I (C := RX5) (As := []) (rest := [.ref q54_8, .int 1, .ref q36_5]) S (c_X5_init l D k q54_8 _) (gdC t162) t399 t161 t108 rfl ok_X5_init ⟨rfl, rfl, Nat.le_of_ble_eq_true rfl, Nat.le_of_ble_eq_true rfl⟩ (pw_S hK hN hPc hDc) rfl hl.1 rfl (Nat.le_of_ble_eq_true rfl) ⟨Nat.le_of_ble_eq_true rfl, Nat.le_of_ble_eq_true rfl⟩ dX3_init_58) (fun u58_9 H locs hu58_9 hKu58_9 hP9 hD9 hS9 => ?_)
  clear hP hD hS
  have hS := hS9
  have hP := hP9
  have hD := hD9
  clear hP9 hD9 hS9
  replace hP : va_P D vwCl [(h0, .inr (3, [.ref q36_5, .ref q7_1, .ref q15_2, .ref q22_3, .ref q29_4, .int 0, .int 0, .int 0, .int 0, .int 0])), (q36_5, .inl (k 5, 5, .inr (.inr (.inr (.inr (va_up (fun _ => none) 0 (some q54_6))))))), (q54_8, .inr (5, [.ref (u58_9.1 0), .ref (u58_9.1 1), .ref (u58_9.1 2), .ref (u58_9.1 3), .ref (u58_9.1 4)])), (u58_9.1 0, .inl (k 0, 64, .inl (fun _ => 0))), (u58_9.1 1, .inl (k 0, 8, .inl (fun _ => 0))), (u58_9.1 2, .inl (k 0, 8, .inl (u58_9.2 0))), (u58_9.1 3, .inl (k 0, 3, .inl (fun _ => 0))), (u58_9.1 4, .inl (k 0, 3, .inl (fun _ => 0)))] H := hP
  replace hD : va_D A [(h0, .inr (3, [.ref q36_5, .ref q7_1, .ref q15_2, .ref q22_3, .ref q29_4, .int 0, .int 0, .int 0, .int 0, .int 0])), (q36_5, .inl (k 5, 5, .inr (.inr (.inr (.inr (va_up (fun _ => none) 0 (some q54_6))))))), (q54_8, .inr (5, [.ref (u58_9.1 0), .ref (u58_9.1 1), .ref (u58_9.1 2), .ref (u58_9.1 3), .ref (u58_9.1 4)])), (u58_9.1 0, .inl (k 0, 64, .inl (fun _ => 0))), (u58_9.1 1, .inl (k 0, 8, .inl (fun _ => 0))), (u58_9.1 2, .inl (k 0, 8, .inl (u58_9.2 0))), (u58_9.1 3, .inl (k 0, 3, .inl (fun _ => 0))), (u58_9.1 4, .inl (k 0, 3, .inl (fun _ => 0)))] := hD
  refine W.widen (k := 17) (n := 207) (Nat.le_of_ble_eq_true rfl) (Nat.le_of_ble_eq_true rfl) ?_
  refine va_astq hx hb hK hP hD hS 1 5 2 5 rfl rfl rfl rfl (by unfold vp_in; decide) dX3_init_61 (fun H locs hP9 hD9 hS9 => ?_)
  clear hP hD hS
  have hS := hS9
  have hP := hP9
  have hD := hD9
  clear hP9 hD9 hS9
  rw [show ((1 : Int32)).toNatClampNeg = 1 from by decide] at hP hD
  replace hP : va_P D vwCl [(h0, .inr (3, [.ref q36_5, .ref q7_1, .ref q15_2, .ref q22_3, .ref q29_4, .int 0, .int 0, .int 0, .int 0, .int 0])), (q36_5, .inl (k 5, 5, .inr (.inr (.inr (.inr (va_up (va_up (fun _ => none) 0 (some q54_6)) 1 (some q54_8))))))), (q54_8, .inr (5, [.ref (u58_9.1 0), .ref (u58_9.1 1), .ref (u58_9.1 2), .ref (u58_9.1 3), .ref (u58_9.1 4)])), (u58_9.1 0, .inl (k 0, 64, .inl (fun _ => 0))), (u58_9.1 1, .inl (k 0, 8, .inl (fun _ => 0))), (u58_9.1 2, .inl (k 0, 8, .inl (u58_9.2 0))), (u58_9.1 3, .inl (k 0, 3, .inl (fun _ => 0))), (u58_9.1 4, .inl (k 0, 3, .inl (fun _ => 0)))] H := hP
  replace hD : va_D A [(h0, .inr (3, [.ref q36_5, .ref q7_1, .ref q15_2, .ref q22_3, .ref q29_4, .int 0, .int 0, .int 0, .int 0, .int 0])), (q36_5, .inl (k 5, 5, .inr (.inr (.inr (.inr (va_up (va_up (fun _ => none) 0 (some q54_6)) 1 (some q54_8))))))), (q54_8, .inr (5, [.ref (u58_9.1 0), .ref (u58_9.1 1), .ref (u58_9.1 2), .ref (u58_9.1 3), .ref (u58_9.1 4)])), (u58_9.1 0, .inl (k 0, 64, .inl (fun _ => 0))), (u58_9.1 1, .inl (k 0, 8, .inl (fun _ => 0))), (u58_9.1 2, .inl (k 0, 8, .inl (u58_9.2 0))), (u58_9.1 3, .inl (k 0, 3, .inl (fun _ => 0))), (u58_9.1 4, .inl (k 0, 3, .inl (fun _ => 0)))] := hD
  replace hP := hP.sub (ws' := [(h0, .inr (3, [.ref q36_5, .ref q7_1, .ref q15_2, .ref q22_3, .ref q29_4, .int 0, .int 0, .int 0, .int 0, .int 0])), (q36_5, .inl (k 5, 5, .inr (.inr (.inr (.inr (va_up (va_up (fun _ => none) 0 (some q54_6)) 1 (some q54_8)))))))]) [0, 1] rfl
  replace hD := d_sub (ws' := [(h0, .inr (3, [.ref q36_5, .ref q7_1, .ref q15_2, .ref q22_3, .ref q29_4, .int 0, .int 0, .int 0, .int 0, .int 0])), (q36_5, .inl (k 5, 5, .inr (.inr (.inr (.inr (va_up (va_up (fun _ => none) 0 (some q54_6)) 1 (some q54_8)))))))]) hD [0, 1] (by decide +kernel) rfl
  refine lv_iinc (v := 2) (lv' := [(1, .int 2), (0, .ref h0)]) hx hb dX3_init_62 hl (k := 0) rfl (by decide) (by decide) rfl (fun ls hl => ?_)
  refine lv_goto (tgt := 44) hx hb dX3_init_65 (by decide) ?_
  refine lv_iload_n hx hb dX3_init_44 rfl (lv_at hl 0 rfl) ?_
  refine lv_iconst (v := 4) hx hb dX3_init_45 (by decide) ?_
  refine lv_icmp_gt (tgt := 68) hx hb dX3_init_46 (by decide) (fun c_3 => ?_) (fun c_3 => ?_)
  · first | exact absurd c_3 (by decide) | exact absurd (by decide) c_3
  refine lv_aload_n hx hb dX3_init_49 rfl (lv_at hl 1 rfl) ?_
  refine va_get (D := D) (ci := 3) (v := .ref q36_5) (C := RX3) (T := TX3) (N := 10) hx hb hT in_X3 hown hK hP 0 rfl rfl 0 (by decide) (hT _ t400) (fun _ h9 => h9) rfl dX3_init_50 ?_
  refine lv_iload_n hx hb dX3_init_53 rfl (lv_at hl 0 rfl) ?_
  refine va_new (ci := 5) (fs := [.null, .null, .null, .null, .null]) (C := RX5) (T := TX5) (N := 5) hx hb hT in_X5 tyX5 tyX5_ok hown (hT _ t397) (hT _ t159) (hT _ t108) hK hP hD hS hA rfl (fun j hj => by rcases (show j = 0 ∨ j = 1 ∨ j = 2 ∨ j = 3 ∨ j = 4 by omega) with rfl | rfl | rfl | rfl | rfl <;> rfl) (Nat.le_of_ble_eq_true rfl) (Nat.le_of_ble_eq_true rfl) dX3_init_54 (fun q54_10 H hP9 hD9 hS9 => ?_)
  clear hP hD hS
  have hS := hS9
  have hP := hP9
  have hD := hD9
  clear hP9 hD9 hS9
  replace hP : va_P D vwCl [(h0, .inr (3, [.ref q36_5, .ref q7_1, .ref q15_2, .ref q22_3, .ref q29_4, .int 0, .int 0, .int 0, .int 0, .int 0])), (q36_5, .inl (k 5, 5, .inr (.inr (.inr (.inr (va_up (va_up (fun _ => none) 0 (some q54_6)) 1 (some q54_8))))))), (q54_10, .inr (5, [.null, .null, .null, .null, .null]))] H := hP
  replace hD : va_D A [(h0, .inr (3, [.ref q36_5, .ref q7_1, .ref q15_2, .ref q22_3, .ref q29_4, .int 0, .int 0, .int 0, .int 0, .int 0])), (q36_5, .inl (k 5, 5, .inr (.inr (.inr (.inr (va_up (va_up (fun _ => none) 0 (some q54_6)) 1 (some q54_8))))))), (q54_10, .inr (5, [.null, .null, .null, .null, .null]))] := hD
  refine W.widen (k := 18) (n := 212) (Nat.le_of_ble_eq_true rfl) (Nat.le_of_ble_eq_true rfl) ?_
  refine lv_dup hx hb dX3_init_57 rfl ?_
  refine rw_v (wc := [(q54_10, .inr (5, [.null, .null, .null, .null, .null]))]) (wr := [(h0, .inr (3, [.ref q36_5, .ref q7_1, .ref q15_2, .ref q22_3, .ref q29_4, .int 0, .int 0, .int 0, .int 0, .int 0])), (q36_5, .inl (k 5, 5, .inr (.inr (.inr (.inr (va_up (va_up (fun _ => none) 0 (some q54_6)) 1 (some q54_8)))))))]) [2] [0, 1] rfl rfl (by decide +kernel) (by decide +kernel) (by decide +kernel) hP hD hS hA (fun hPc hDc => run_I (C := RX5) (As := []) (rest := [.ref q54_10, .int 2, .ref q36_5]) S (c_X5_init l D k q54_10 _) (gdC t162) t399 t161 t108 rfl ok_X5_init ⟨rfl, rfl, Nat.le_of_ble_eq_true rfl, Nat.le_of_ble_eq_true rfl⟩ (pw_S hK hN hPc hDc) rfl hl.1 rfl (Nat.le_of_ble_eq_true rfl) ⟨Nat.le_of_ble_eq_true rfl, Nat.le_of_ble_eq_true rfl⟩ dX3_init_58) (fun u58_11 H locs hu58_11 hKu58_11 hP9 hD9 hS9 => ?_)
  clear hP hD hS
  have hS := hS9
  have hP := hP9
  have hD := hD9
  clear hP9 hD9 hS9
  replace hP : va_P D vwCl [(h0, .inr (3, [.ref q36_5, .ref q7_1, .ref q15_2, .ref q22_3, .ref q29_4, .int 0, .int 0, .int 0, .int 0, .int 0])), (q36_5, .inl (k 5, 5, .inr (.inr (.inr (.inr (va_up (va_up (fun _ => none) 0 (some q54_6)) 1 (some q54_8))))))), (q54_10, .inr (5, [.ref (u58_11.1 0), .ref (u58_11.1 1), .ref (u58_11.1 2), .ref (u58_11.1 3), .ref (u58_11.1 4)])), (u58_11.1 0, .inl (k 0, 64, .inl (fun _ => 0))), (u58_11.1 1, .inl (k 0, 8, .inl (fun _ => 0))), (u58_11.1 2, .inl (k 0, 8, .inl (u58_11.2 0))), (u58_11.1 3, .inl (k 0, 3, .inl (fun _ => 0))), (u58_11.1 4, .inl (k 0, 3, .inl (fun _ => 0)))] H := hP
  replace hD : va_D A [(h0, .inr (3, [.ref q36_5, .ref q7_1, .ref q15_2, .ref q22_3, .ref q29_4, .int 0, .int 0, .int 0, .int 0, .int 0])), (q36_5, .inl (k 5, 5, .inr (.inr (.inr (.inr (va_up (va_up (fun _ => none) 0 (some q54_6)) 1 (some q54_8))))))), (q54_10, .inr (5, [.ref (u58_11.1 0), .ref (u58_11.1 1), .ref (u58_11.1 2), .ref (u58_11.1 3), .ref (u58_11.1 4)])), (u58_11.1 0, .inl (k 0, 64, .inl (fun _ => 0))), (u58_11.1 1, .inl (k 0, 8, .inl (fun _ => 0))), (u58_11.1 2, .inl (k 0, 8, .inl (u58_11.2 0))), (u58_11.1 3, .inl (k 0, 3, .inl (fun _ => 0))), (u58_11.1 4, .inl (k 0, 3, .inl (fun _ => 0)))] := hD
  refine W.widen (k := 23) (n := 298) (Nat.le_of_ble_eq_true rfl) (Nat.le_of_ble_eq_true rfl) ?_
  refine va_astq hx hb hK hP hD hS 1 5 2 5 rfl rfl rfl rfl (by unfold vp_in; decide) dX3_init_61 (fun H locs hP9 hD9 hS9 => ?_)
  clear hP hD hS
  have hS := hS9
  have hP := hP9
  have hD := hD9
  clear hP9 hD9 hS9
  rw [show ((2 : Int32)).toNatClampNeg = 2 from by decide] at hP hD
  replace hP : va_P D vwCl [(h0, .inr (3, [.ref q36_5, .ref q7_1, .ref q15_2, .ref q22_3, .ref q29_4, .int 0, .int 0, .int 0, .int 0, .int 0])), (q36_5, .inl (k 5, 5, .inr (.inr (.inr (.inr (va_up (va_up (va_up (fun _ => none) 0 (some q54_6)) 1 (some q54_8)) 2 (some q54_10))))))), (q54_10, .inr (5, [.ref (u58_11.1 0), .ref (u58_11.1 1), .ref (u58_11.1 2), .ref (u58_11.1 3), .ref (u58_11.1 4)])), (u58_11.1 0, .inl (k 0, 64, .inl (fun _ => 0))), (u58_11.1 1, .inl (k 0, 8, .inl (fun _ => 0))), (u58_11.1 2, .inl (k 0, 8, .inl (u58_11.2 0))), (u58_11.1 3, .inl (k 0, 3, .inl (fun _ => 0))), (u58_11.1 4, .inl (k 0, 3, .inl (fun _ => 0)))] H := hP
  replace hD : va_D A [(h0, .inr (3, [.ref q36_5, .ref q7_1, .ref q15_2, .ref q22_3, .ref q29_4, .int 0, .int 0, .int 0, .int 0, .int 0])), (q36_5, .inl (k 5, 5, .inr (.inr (.inr (.inr (va_up (va_up (va_up (fun _ => none) 0 (some q54_6)) 1 (some q54_8)) 2 (some q54_10))))))), (q54_10, .inr (5, [.ref (u58_11.1 0), .ref (u58_11.1 1), .ref (u58_11.1 2), .ref (u58_11.1 3), .ref (u58_11.1 4)])), (u58_11.1 0, .inl (k 0, 64, .inl (fun _ => 0))), (u58_11.1 1, .inl (k 0, 8, .inl (fun _ => 0))), (u58_11.1 2, .inl (k 0, 8, .inl (u58_11.2 0))), (u58_11.1 3, .inl (k 0, 3, .inl (fun _ => 0))), (u58_11.1 4, .inl (k 0, 3, .inl (fun _ => 0)))] := hD
  replace hP := hP.sub (ws' := [(h0, .inr (3, [.ref q36_5, .ref q7_1, .ref q15_2, .ref q22_3, .ref q29_4, .int 0, .int 0, .int 0, .int 0, .int 0])), (q36_5, .inl (k 5, 5, .inr (.inr (.inr (.inr (va_up (va_up (va_up (fun _ => none) 0 (some q54_6)) 1 (some q54_8)) 2 (some q54_10)))))))]) [0, 1] rfl
  replace hD := d_sub (ws' := [(h0, .inr (3, [.ref q36_5, .ref q7_1, .ref q15_2, .ref q22_3, .ref q29_4, .int 0, .int 0, .int 0, .int 0, .int 0])), (q36_5, .inl (k 5, 5, .inr (.inr (.inr (.inr (va_up (va_up (va_up (fun _ => none) 0 (some q54_6)) 1 (some q54_8)) 2 (some q54_10)))))))]) hD [0, 1] (by decide +kernel) rfl
  refine lv_iinc (v := 3) (lv' := [(1, .int 3), (0, .ref h0)]) hx hb dX3_init_62 hl (k := 0) rfl (by decide) (by decide) rfl (fun ls hl => ?_)
  refine lv_goto (tgt := 44) hx hb dX3_init_65 (by decide) ?_
  refine lv_iload_n hx hb dX3_init_44 rfl (lv_at hl 0 rfl) ?_
  refine lv_iconst (v := 4) hx hb dX3_init_45 (by decide) ?_
  refine lv_icmp_gt (tgt := 68) hx hb dX3_init_46 (by decide) (fun c_4 => ?_) (fun c_4 => ?_)
  · first | exact absurd c_4 (by decide) | exact absurd (by decide) c_4
  refine lv_aload_n hx hb dX3_init_49 rfl (lv_at hl 1 rfl) ?_
  refine va_get (D := D) (ci := 3) (v := .ref q36_5) (C := RX3) (T := TX3) (N := 10) hx hb hT in_X3 hown hK hP 0 rfl rfl 0 (by decide) (hT _ t400) (fun _ h9 => h9) rfl dX3_init_50 ?_
  refine lv_iload_n hx hb dX3_init_53 rfl (lv_at hl 0 rfl) ?_
  refine va_new (ci := 5) (fs := [.null, .null, .null, .null, .null]) (C := RX5) (T := TX5) (N := 5) hx hb hT in_X5 tyX5 tyX5_ok hown (hT _ t397) (hT _ t159) (hT _ t108) hK hP hD hS hA rfl (fun j hj => by rcases (show j = 0 ∨ j = 1 ∨ j = 2 ∨ j = 3 ∨ j = 4 by omega) with rfl | rfl | rfl | rfl | rfl <;> rfl) (Nat.le_of_ble_eq_true rfl) (Nat.le_of_ble_eq_true rfl) dX3_init_54 (fun q54_12 H hP9 hD9 hS9 => ?_)
  clear hP hD hS
  have hS := hS9
  have hP := hP9
  have hD := hD9
  clear hP9 hD9 hS9
  replace hP : va_P D vwCl [(h0, .inr (3, [.ref q36_5, .ref q7_1, .ref q15_2, .ref q22_3, .ref q29_4, .int 0, .int 0, .int 0, .int 0, .int 0])), (q36_5, .inl (k 5, 5, .inr (.inr (.inr (.inr (va_up (va_up (va_up (fun _ => none) 0 (some q54_6)) 1 (some q54_8)) 2 (some q54_10))))))), (q54_12, .inr (5, [.null, .null, .null, .null, .null]))] H := hP
  replace hD : va_D A [(h0, .inr (3, [.ref q36_5, .ref q7_1, .ref q15_2, .ref q22_3, .ref q29_4, .int 0, .int 0, .int 0, .int 0, .int 0])), (q36_5, .inl (k 5, 5, .inr (.inr (.inr (.inr (va_up (va_up (va_up (fun _ => none) 0 (some q54_6)) 1 (some q54_8)) 2 (some q54_10))))))), (q54_12, .inr (5, [.null, .null, .null, .null, .null]))] := hD
  refine W.widen (k := 24) (n := 303) (Nat.le_of_ble_eq_true rfl) (Nat.le_of_ble_eq_true rfl) ?_
  refine lv_dup hx hb dX3_init_57 rfl ?_
  refine rw_v (wc := [(q54_12, .inr (5, [.null, .null, .null, .null, .null]))]) (wr := [(h0, .inr (3, [.ref q36_5, .ref q7_1, .ref q15_2, .ref q22_3, .ref q29_4, .int 0, .int 0, .int 0, .int 0, .int 0])), (q36_5, .inl (k 5, 5, .inr (.inr (.inr (.inr (va_up (va_up (va_up (fun _ => none) 0 (some q54_6)) 1 (some q54_8)) 2 (some q54_10)))))))]) [2] [0, 1] rfl rfl (by decide +kernel) (by decide +kernel) (by decide +kernel) hP hD hS hA (fun hPc hDc => run_I (C := RX5) (As := []) (rest := [.ref q54_12, .int 3, .ref q36_5]) S (c_X5_init l D k q54_12 _) (gdC t162) t399 t161 t108 rfl ok_X5_init ⟨rfl, rfl, Nat.le_of_ble_eq_true rfl, Nat.le_of_ble_eq_true rfl⟩ (pw_S hK hN hPc hDc) rfl hl.1 rfl (Nat.le_of_ble_eq_true rfl) ⟨Nat.le_of_ble_eq_true rfl, Nat.le_of_ble_eq_true rfl⟩ dX3_init_58) (fun u58_13 H locs hu58_13 hKu58_13 hP9 hD9 hS9 => ?_)
  clear hP hD hS
  have hS := hS9
  have hP := hP9
  have hD := hD9
  clear hP9 hD9 hS9
  replace hP : va_P D vwCl [(h0, .inr (3, [.ref q36_5, .ref q7_1, .ref q15_2, .ref q22_3, .ref q29_4, .int 0, .int 0, .int 0, .int 0, .int 0])), (q36_5, .inl (k 5, 5, .inr (.inr (.inr (.inr (va_up (va_up (va_up (fun _ => none) 0 (some q54_6)) 1 (some q54_8)) 2 (some q54_10))))))), (q54_12, .inr (5, [.ref (u58_13.1 0), .ref (u58_13.1 1), .ref (u58_13.1 2), .ref (u58_13.1 3), .ref (u58_13.1 4)])), (u58_13.1 0, .inl (k 0, 64, .inl (fun _ => 0))), (u58_13.1 1, .inl (k 0, 8, .inl (fun _ => 0))), (u58_13.1 2, .inl (k 0, 8, .inl (u58_13.2 0))), (u58_13.1 3, .inl (k 0, 3, .inl (fun _ => 0))), (u58_13.1 4, .inl (k 0, 3, .inl (fun _ => 0)))] H := hP
  replace hD : va_D A [(h0, .inr (3, [.ref q36_5, .ref q7_1, .ref q15_2, .ref q22_3, .ref q29_4, .int 0, .int 0, .int 0, .int 0, .int 0])), (q36_5, .inl (k 5, 5, .inr (.inr (.inr (.inr (va_up (va_up (va_up (fun _ => none) 0 (some q54_6)) 1 (some q54_8)) 2 (some q54_10))))))), (q54_12, .inr (5, [.ref (u58_13.1 0), .ref (u58_13.1 1), .ref (u58_13.1 2), .ref (u58_13.1 3), .ref (u58_13.1 4)])), (u58_13.1 0, .inl (k 0, 64, .inl (fun _ => 0))), (u58_13.1 1, .inl (k 0, 8, .inl (fun _ => 0))), (u58_13.1 2, .inl (k 0, 8, .inl (u58_13.2 0))), (u58_13.1 3, .inl (k 0, 3, .inl (fun _ => 0))), (u58_13.1 4, .inl (k 0, 3, .inl (fun _ => 0)))] := hD
  refine W.widen (k := 29) (n := 389) (Nat.le_of_ble_eq_true rfl) (Nat.le_of_ble_eq_true rfl) ?_
  refine va_astq hx hb hK hP hD hS 1 5 2 5 rfl rfl rfl rfl (by unfold vp_in; decide) dX3_init_61 (fun H locs hP9 hD9 hS9 => ?_)
  clear hP hD hS
  have hS := hS9
  have hP := hP9
  have hD := hD9
  clear hP9 hD9 hS9
  rw [show ((3 : Int32)).toNatClampNeg = 3 from by decide] at hP hD
  replace hP : va_P D vwCl [(h0, .inr (3, [.ref q36_5, .ref q7_1, .ref q15_2, .ref q22_3, .ref q29_4, .int 0, .int 0, .int 0, .int 0, .int 0])), (q36_5, .inl (k 5, 5, .inr (.inr (.inr (.inr (va_up (va_up (va_up (va_up (fun _ => none) 0 (some q54_6)) 1 (some q54_8)) 2 (some q54_10)) 3 (some q54_12))))))), (q54_12, .inr (5, [.ref (u58_13.1 0), .ref (u58_13.1 1), .ref (u58_13.1 2), .ref (u58_13.1 3), .ref (u58_13.1 4)])), (u58_13.1 0, .inl (k 0, 64, .inl (fun _ => 0))), (u58_13.1 1, .inl (k 0, 8, .inl (fun _ => 0))), (u58_13.1 2, .inl (k 0, 8, .inl (u58_13.2 0))), (u58_13.1 3, .inl (k 0, 3, .inl (fun _ => 0))), (u58_13.1 4, .inl (k 0, 3, .inl (fun _ => 0)))] H := hP
  replace hD : va_D A [(h0, .inr (3, [.ref q36_5, .ref q7_1, .ref q15_2, .ref q22_3, .ref q29_4, .int 0, .int 0, .int 0, .int 0, .int 0])), (q36_5, .inl (k 5, 5, .inr (.inr (.inr (.inr (va_up (va_up (va_up (va_up (fun _ => none) 0 (some q54_6)) 1 (some q54_8)) 2 (some q54_10)) 3 (some q54_12))))))), (q54_12, .inr (5, [.ref (u58_13.1 0), .ref (u58_13.1 1), .ref (u58_13.1 2), .ref (u58_13.1 3), .ref (u58_13.1 4)])), (u58_13.1 0, .inl (k 0, 64, .inl (fun _ => 0))), (u58_13.1 1, .inl (k 0, 8, .inl (fun _ => 0))), (u58_13.1 2, .inl (k 0, 8, .inl (u58_13.2 0))), (u58_13.1 3, .inl (k 0, 3, .inl (fun _ => 0))), (u58_13.1 4, .inl (k 0, 3, .inl (fun _ => 0)))] := hD
  replace hP := hP.sub (ws' := [(h0, .inr (3, [.ref q36_5, .ref q7_1, .ref q15_2, .ref q22_3, .ref q29_4, .int 0, .int 0, .int 0, .int 0, .int 0])), (q36_5, .inl (k 5, 5, .inr (.inr (.inr (.inr (va_up (va_up (va_up (va_up (fun _ => none) 0 (some q54_6)) 1 (some q54_8)) 2 (some q54_10)) 3 (some q54_12)))))))]) [0, 1] rfl
  replace hD := d_sub (ws' := [(h0, .inr (3, [.ref q36_5, .ref q7_1, .ref q15_2, .ref q22_3, .ref q29_4, .int 0, .int 0, .int 0, .int 0, .int 0])), (q36_5, .inl (k 5, 5, .inr (.inr (.inr (.inr (va_up (va_up (va_up (va_up (fun _ => none) 0 (some q54_6)) 1 (some q54_8)) 2 (some q54_10)) 3 (some q54_12)))))))]) hD [0, 1] (by decide +kernel) rfl
  refine lv_iinc (v := 4) (lv' := [(1, .int 4), (0, .ref h0)]) hx hb dX3_init_62 hl (k := 0) rfl (by decide) (by decide) rfl (fun ls hl => ?_)
  refine lv_goto (tgt := 44) hx hb dX3_init_65 (by decide) ?_
  refine lv_iload_n hx hb dX3_init_44 rfl (lv_at hl 0 rfl) ?_
  refine lv_iconst (v := 4) hx hb dX3_init_45 (by decide) ?_
  refine lv_icmp_gt (tgt := 68) hx hb dX3_init_46 (by decide) (fun c_5 => ?_) (fun c_5 => ?_)
  · first | exact absurd c_5 (by decide) | exact absurd (by decide) c_5
  refine lv_aload_n hx hb dX3_init_49 rfl (lv_at hl 1 rfl) ?_
  refine va_get (D := D) (ci := 3) (v := .ref q36_5) (C := RX3) (T := TX3) (N := 10) hx hb hT in_X3 hown hK hP 0 rfl rfl 0 (by decide) (hT _ t400) (fun _ h9 => h9) rfl dX3_init_50 ?_
  refine lv_iload_n hx hb dX3_init_53 rfl (lv_at hl 0 rfl) ?_
  refine va_new (ci := 5) (fs := [.null, .null, .null, .null, .null]) (C := RX5) (T := TX5) (N := 5) hx hb hT in_X5 tyX5 tyX5_ok hown (hT _ t397) (hT _ t159) (hT _ t108) hK hP hD hS hA rfl (fun j hj => by rcases (show j = 0 ∨ j = 1 ∨ j = 2 ∨ j = 3 ∨ j = 4 by omega) with rfl | rfl | rfl | rfl | rfl <;> rfl) (Nat.le_of_ble_eq_true rfl) (Nat.le_of_ble_eq_true rfl) dX3_init_54 (fun q54_14 H hP9 hD9 hS9 => ?_)
  clear hP hD hS
  have hS := hS9
  have hP := hP9
  have hD := hD9
  clear hP9 hD9 hS9
  replace hP : va_P D vwCl [(h0, .inr (3, [.ref q36_5, .ref q7_1, .ref q15_2, .ref q22_3, .ref q29_4, .int 0, .int 0, .int 0, .int 0, .int 0])), (q36_5, .inl (k 5, 5, .inr (.inr (.inr (.inr (va_up (va_up (va_up (va_up (fun _ => none) 0 (some q54_6)) 1 (some q54_8)) 2 (some q54_10)) 3 (some q54_12))))))), (q54_14, .inr (5, [.null, .null, .null, .null, .null]))] H := hP
  replace hD : va_D A [(h0, .inr (3, [.ref q36_5, .ref q7_1, .ref q15_2, .ref q22_3, .ref q29_4, .int 0, .int 0, .int 0, .int 0, .int 0])), (q36_5, .inl (k 5, 5, .inr (.inr (.inr (.inr (va_up (va_up (va_up (va_up (fun _ => none) 0 (some q54_6)) 1 (some q54_8)) 2 (some q54_10)) 3 (some q54_12))))))), (q54_14, .inr (5, [.null, .null, .null, .null, .null]))] := hD
  refine W.widen (k := 30) (n := 394) (Nat.le_of_ble_eq_true rfl) (Nat.le_of_ble_eq_true rfl) ?_
  refine lv_dup hx hb dX3_init_57 rfl ?_
  refine rw_v (wc := [(q54_14, .inr (5, [.null, .null, .null, .null, .null]))]) (wr := [(h0, .inr (3, [.ref q36_5, .ref q7_1, .ref q15_2, .ref q22_3, .ref q29_4, .int 0, .int 0, .int 0, .int 0, .int 0])), (q36_5, .inl (k 5, 5, .inr (.inr (.inr (.inr (va_up (va_up (va_up (va_up (fun _ => none) 0 (some q54_6)) 1 (some q54_8)) 2 (some q54_10)) 3 (some q54_12)))))))]) [2] [0, 1] rfl rfl (by decide +kernel) (by decide +kernel) (by decide +kernel) hP hD hS hA (fun hPc hDc => run_I (C := RX5) (As := []) (rest := [.ref q54_14, .int 4, .ref q36_5]) S (c_X5_init l D k q54_14 _) (gdC t162) t399 t161 t108 rfl ok_X5_init ⟨rfl, rfl, Nat.le_of_ble_eq_true rfl, Nat.le_of_ble_eq_true rfl⟩ (pw_S hK hN hPc hDc) rfl hl.1 rfl (Nat.le_of_ble_eq_true rfl) ⟨Nat.le_of_ble_eq_true rfl, Nat.le_of_ble_eq_true rfl⟩ dX3_init_58) (fun u58_15 H locs hu58_15 hKu58_15 hP9 hD9 hS9 => ?_)
  clear hP hD hS
  have hS := hS9
  have hP := hP9
  have hD := hD9
  clear hP9 hD9 hS9
  replace hP : va_P D vwCl [(h0, .inr (3, [.ref q36_5, .ref q7_1, .ref q15_2, .ref q22_3, .ref q29_4, .int 0, .int 0, .int 0, .int 0, .int 0])), (q36_5, .inl (k 5, 5, .inr (.inr (.inr (.inr (va_up (va_up (va_up (va_up (fun _ => none) 0 (some q54_6)) 1 (some q54_8)) 2 (some q54_10)) 3 (some q54_12))))))), (q54_14, .inr (5, [.ref (u58_15.1 0), .ref (u58_15.1 1), .ref (u58_15.1 2), .ref (u58_15.1 3), .ref (u58_15.1 4)])), (u58_15.1 0, .inl (k 0, 64, .inl (fun _ => 0))), (u58_15.1 1, .inl (k 0, 8, .inl (fun _ => 0))), (u58_15.1 2, .inl (k 0, 8, .inl (u58_15.2 0))), (u58_15.1 3, .inl (k 0, 3, .inl (fun _ => 0))), (u58_15.1 4, .inl (k 0, 3, .inl (fun _ => 0)))] H := hP
  replace hD : va_D A [(h0, .inr (3, [.ref q36_5, .ref q7_1, .ref q15_2, .ref q22_3, .ref q29_4, .int 0, .int 0, .int 0, .int 0, .int 0])), (q36_5, .inl (k 5, 5, .inr (.inr (.inr (.inr (va_up (va_up (va_up (va_up (fun _ => none) 0 (some q54_6)) 1 (some q54_8)) 2 (some q54_10)) 3 (some q54_12))))))), (q54_14, .inr (5, [.ref (u58_15.1 0), .ref (u58_15.1 1), .ref (u58_15.1 2), .ref (u58_15.1 3), .ref (u58_15.1 4)])), (u58_15.1 0, .inl (k 0, 64, .inl (fun _ => 0))), (u58_15.1 1, .inl (k 0, 8, .inl (fun _ => 0))), (u58_15.1 2, .inl (k 0, 8, .inl (u58_15.2 0))), (u58_15.1 3, .inl (k 0, 3, .inl (fun _ => 0))), (u58_15.1 4, .inl (k 0, 3, .inl (fun _ => 0)))] := hD
  refine W.widen (k := 35) (n := 480) (Nat.le_of_ble_eq_true rfl) (Nat.le_of_ble_eq_true rfl) ?_
  refine va_astq hx hb hK hP hD hS 1 5 2 5 rfl rfl rfl rfl (by unfold vp_in; decide) dX3_init_61 (fun H locs hP9 hD9 hS9 => ?_)
  clear hP hD hS
  have hS := hS9
  have hP := hP9
  have hD := hD9
  clear hP9 hD9 hS9
  rw [show ((4 : Int32)).toNatClampNeg = 4 from by decide] at hP hD
  replace hP : va_P D vwCl [(h0, .inr (3, [.ref q36_5, .ref q7_1, .ref q15_2, .ref q22_3, .ref q29_4, .int 0, .int 0, .int 0, .int 0, .int 0])), (q36_5, .inl (k 5, 5, .inr (.inr (.inr (.inr (va_up (va_up (va_up (va_up (va_up (fun _ => none) 0 (some q54_6)) 1 (some q54_8)) 2 (some q54_10)) 3 (some q54_12)) 4 (some q54_14))))))), (q54_14, .inr (5, [.ref (u58_15.1 0), .ref (u58_15.1 1), .ref (u58_15.1 2), .ref (u58_15.1 3), .ref (u58_15.1 4)])), (u58_15.1 0, .inl (k 0, 64, .inl (fun _ => 0))), (u58_15.1 1, .inl (k 0, 8, .inl (fun _ => 0))), (u58_15.1 2, .inl (k 0, 8, .inl (u58_15.2 0))), (u58_15.1 3, .inl (k 0, 3, .inl (fun _ => 0))), (u58_15.1 4, .inl (k 0, 3, .inl (fun _ => 0)))] H := hP
  replace hD : va_D A [(h0, .inr (3, [.ref q36_5, .ref q7_1, .ref q15_2, .ref q22_3, .ref q29_4, .int 0, .int 0, .int 0, .int 0, .int 0])), (q36_5, .inl (k 5, 5, .inr (.inr (.inr (.inr (va_up (va_up (va_up (va_up (va_up (fun _ => none) 0 (some q54_6)) 1 (some q54_8)) 2 (some q54_10)) 3 (some q54_12)) 4 (some q54_14))))))), (q54_14, .inr (5, [.ref (u58_15.1 0), .ref (u58_15.1 1), .ref (u58_15.1 2), .ref (u58_15.1 3), .ref (u58_15.1 4)])), (u58_15.1 0, .inl (k 0, 64, .inl (fun _ => 0))), (u58_15.1 1, .inl (k 0, 8, .inl (fun _ => 0))), (u58_15.1 2, .inl (k 0, 8, .inl (u58_15.2 0))), (u58_15.1 3, .inl (k 0, 3, .inl (fun _ => 0))), (u58_15.1 4, .inl (k 0, 3, .inl (fun _ => 0)))] := hD
  replace hP := hP.sub (ws' := [(h0, .inr (3, [.ref q36_5, .ref q7_1, .ref q15_2, .ref q22_3, .ref q29_4, .int 0, .int 0, .int 0, .int 0, .int 0])), (q36_5, .inl (k 5, 5, .inr (.inr (.inr (.inr (va_up (va_up (va_up (va_up (va_up (fun _ => none) 0 (some q54_6)) 1 (some q54_8)) 2 (some q54_10)) 3 (some q54_12)) 4 (some q54_14)))))))]) [0, 1] rfl
  replace hD := d_sub (ws' := [(h0, .inr (3, [.ref q36_5, .ref q7_1, .ref q15_2, .ref q22_3, .ref q29_4, .int 0, .int 0, .int 0, .int 0, .int 0])), (q36_5, .inl (k 5, 5, .inr (.inr (.inr (.inr (va_up (va_up (va_up (va_up (va_up (fun _ => none) 0 (some q54_6)) 1 (some q54_8)) 2 (some q54_10)) 3 (some q54_12)) 4 (some q54_14)))))))]) hD [0, 1] (by decide +kernel) rfl
  refine lv_iinc (v := 5) (lv' := [(1, .int 5), (0, .ref h0)]) hx hb dX3_init_62 hl (k := 0) rfl (by decide) (by decide) rfl (fun ls hl => ?_)
  refine lv_goto (tgt := 44) hx hb dX3_init_65 (by decide) ?_
  refine lv_iload_n hx hb dX3_init_44 rfl (lv_at hl 0 rfl) ?_
  refine lv_iconst (v := 4) hx hb dX3_init_45 (by decide) ?_
  refine lv_icmp_gt (tgt := 68) hx hb dX3_init_46 (by decide) (fun c_6 => ?_) (fun c_6 => ?_)
  rotate_left
  · first | exact absurd c_6 (by decide) | exact absurd (by decide) c_6
  have hP9 := hP.sub (ws' := []) [] rfl
  have hD9 := d_sub (ws' := []) hD [] (by decide +kernel) rfl
  have hK9 := hK.sub (tys' := []) [] rfl
  exact W.vret hx hb hr (fun t ht hW => ⟨⟨mkU [] [], rfl, trivial, by rw [ht]; exact hP9, va_K.moved hW.alike hK9, by rw [hAe]; exact hD9⟩, by rw [hAe]; exact hS.F ht⟩) hS.2.2 dX3_init_68
set_option maxHeartbeats 4000000 in
set_option maxRecDepth 100000 in
theorem c_X4_init (l : Launch) (D : va_G) (k : Nat → ClassId) (h0 sz : Nat) : Met l yX4_init (.code yX4_init cX4_init 1 none :: TB) (rmw 2 7 252) (va_Pc [.ref h0] (PW D k sz [(h0, .inr (4, [.null, .null, .null]))])) (QV D (S := UT) (fun u => ∀ j : Nat, j < 4 → u.2 0 j = -1) (fun u => [(h0, .inr (4, [.ref (u.1 0), .ref (u.1 1), .ref (u.1 2)])), (u.1 0, .inl (k 0, 4, .inl (u.2 0))), (u.1 1, .inl (k 0, 4, .inl (fun _ => 0))), (u.1 2, .inl (k 6, 4, .inr (.inr (.inr (.inr (va_up (va_up (va_up (va_up (fun _ => none) 0 (some (u.1 3))) 1 (some (u.1 4))) 2 (some (u.1 5))) 3 (some (u.1 6)))))))), (u.1 3, .inl (k 2, 60, .inr (.inl (fun _ => 0)))), (u.1 4, .inl (k 2, 60, .inr (.inl (fun _ => 0)))), (u.1 5, .inl (k 2, 60, .inr (.inl (fun _ => 0)))), (u.1 6, .inl (k 2, 60, .inr (.inl (fun _ => 0))))]) (fun _ => []) [(h0, .inr (4, [.null, .null, .null]))] sz) 7 252 (va_A [(h0, .inr (4, [.null, .null, .null]))] sz) := by
  refine Met.ofW (cc := cX4_init) (maxL := 1) (ret := none) (by decide) rfl ?_
  intro p e s m args below meth c s₁ B hml hv
  obtain ⟨rfl, hsz, hP, hK, hD0, hN⟩ := hv
  have hx := B.exec
  have hb := B.bytes
  have hr := B.returns
  have hT : ∀ w ∈ TB, w.before ([.ref h0] : List Value).toArray s = true := fun w h => atoms_spec (ws := .code yX4_init cX4_init 1 none :: TB) B.pre w (List.mem_cons_of_mem _ h)
  have hown : s.vm.findClass RX4 = some m.cls := findClass_of_methodNamed B.named
  have S : CallFix p m c cX4_init 1 s _ TB RX4 := ⟨hx, hb, hml, hown, hT⟩
  have hin : meth.name = "<init>" := (name_of_methodNamed B.named B.method).1
  subst hsz
  have hD := hD0.self (sz := s.heap.size)
  generalize hAe : va_A [(h0, .inr (4, [.null, .null, .null]))] s.heap.size = A at hD ⊢
  have hA : ∀ q : Nat, s.heap.size ≤ q → A q := fun q h => by rw [← hAe]; exact Or.inr h
  have hS : va_S A s.heap s.heap [] := va_S.rf
  have hP : va_P D vwCl [(h0, .inr (4, [.null, .null, .null]))] s.heap := hP
  have hl := lv_entry ([.ref h0]) (n := 1) (Nat.le_of_ble_eq_true rfl)
  rw [lg_entry_eq]
  generalize (lg_sl ([.ref h0]) ++ List.replicate (1 - (lg_sl ([.ref h0])).length) Slot.unset).toArray = ls at hl ⊢
  have hl : lv_has ls 1 [(0, .ref h0)] := hl
  refine lv_aload_n hx hb dX4_init_0 rfl (lv_at hl 0 rfl) ?_
  refine W.objInit hx hb hown (hT _ t339) (hT _ t129) (hT _ t130) rfl (by rw [hml]; exact hl.1) rfl dX4_init_1 (Nat.le_of_ble_eq_true rfl) (Nat.le_of_ble_eq_true rfl) ?_
  refine W.eq (g2 := F0 m 4 ls []) rfl ?_
  refine lv_aload_n hx hb dX4_init_4 rfl (lv_at hl 0 rfl) ?_
  refine lv_iconst (v := 4) hx hb dX4_init_5 (by decide) ?_
  refine n_newa (atype := .int) (ty := .int) (cT := k 0) (N' := 4) (a0 := (4, .inl (fun _ => 0))) 0 ra_int rfl hx hb (hT _ t194) rfl hK hP hD hS hA (fun _ => rfl) (by decide) (by decide) (Nat.le_of_ble_eq_true rfl) (Nat.le_of_ble_eq_true rfl) (Nat.le_of_ble_eq_true rfl) dX4_init_6 (fun q6_1 H hP9 hD9 hS9 => ?_)
  clear hP hD hS
  have hS := hS9
  have hP := hP9
  have hD := hD9
  clear hP9 hD9 hS9
  replace hP : va_P D vwCl [(h0, .inr (4, [.null, .null, .null])), (q6_1, .inl (k 0, 4, .inl (fun _ => 0)))] H := hP
  replace hD : va_D A [(h0, .inr (4, [.null, .null, .null])), (q6_1, .inl (k 0, 4, .inl (fun _ => 0)))] := hD
  refine W.widen (k := 1) (n := 4) (Nat.le_of_ble_eq_true rfl) (Nat.le_of_ble_eq_true rfl) ?_
  refine va_putF (D := D) (ci := 4) (v := .ref q6_1) (ty := .array .int) (C := RX4) (T := TX4) (N := 3) hx hb hT in_X4 tyX4 tyX4_ok nmX4 hown hK hP hD hS 0 rfl rfl 0 (by decide) (hT _ t343) (fun _ h9 => h9) rfl hin rfl (by decide +kernel) rfl rfl (Nat.le_of_ble_eq_true rfl) dX4_init_8 (fun H locs hP9 hD9 hS9 => ?_)
  clear hP hD hS
  have hS := hS9
  have hP := hP9
  have hD := hD9
  clear hP9 hD9 hS9
  replace hP : va_P D vwCl [(h0, .inr (4, [.ref q6_1, .null, .null])), (q6_1, .inl (k 0, 4, .inl (fun _ => 0)))] H := hP
  replace hD : va_D A [(h0, .inr (4, [.ref q6_1, .null, .null])), (q6_1, .inl (k 0, 4, .inl (fun _ => 0)))] := hD
  refine lv_aload_n hx hb dX4_init_11 rfl (lv_at hl 0 rfl) ?_
  refine lv_iconst (v := 4) hx hb dX4_init_12 (by decide) ?_
  refine n_newa (atype := .int) (ty := .int) (cT := k 0) (N' := 4) (a0 := (4, .inl (fun _ => 0))) 0 ra_int rfl hx hb (hT _ t194) rfl hK hP hD hS hA (fun _ => rfl) (by decide) (by decide) (Nat.le_of_ble_eq_true rfl) (Nat.le_of_ble_eq_true rfl) (Nat.le_of_ble_eq_true rfl) dX4_init_13 (fun q13_2 H hP9 hD9 hS9 => ?_)
  clear hP hD hS
  have hS := hS9
  have hP := hP9
  have hD := hD9
  clear hP9 hD9 hS9
  replace hP : va_P D vwCl [(h0, .inr (4, [.ref q6_1, .null, .null])), (q6_1, .inl (k 0, 4, .inl (fun _ => 0))), (q13_2, .inl (k 0, 4, .inl (fun _ => 0)))] H := hP
  replace hD : va_D A [(h0, .inr (4, [.ref q6_1, .null, .null])), (q6_1, .inl (k 0, 4, .inl (fun _ => 0))), (q13_2, .inl (k 0, 4, .inl (fun _ => 0)))] := hD
  refine W.widen (k := 2) (n := 8) (Nat.le_of_ble_eq_true rfl) (Nat.le_of_ble_eq_true rfl) ?_
  refine va_putF (D := D) (ci := 4) (v := .ref q13_2) (ty := .array .int) (C := RX4) (T := TX4) (N := 3) hx hb hT in_X4 tyX4 tyX4_ok nmX4 hown hK hP hD hS 0 rfl rfl 1 (by decide) (hT _ t345) (fun _ h9 => h9) rfl hin rfl (by decide +kernel) rfl rfl (Nat.le_of_ble_eq_true rfl) dX4_init_15 (fun H locs hP9 hD9 hS9 => ?_)
  clear hP hD hS
  have hS := hS9
  have hP := hP9
  have hD := hD9
  clear hP9 hD9 hS9
  replace hP : va_P D vwCl [(h0, .inr (4, [.ref q6_1, .ref q13_2, .null])), (q6_1, .inl (k 0, 4, .inl (fun _ => 0))), (q13_2, .inl (k 0, 4, .inl (fun _ => 0)))] H := hP
  replace hD : va_D A [(h0, .inr (4, [.ref q6_1, .ref q13_2, .null])), (q6_1, .inl (k 0, 4, .inl (fun _ => 0))), (q13_2, .inl (k 0, 4, .inl (fun _ => 0)))] := hD
  refine lv_aload_n hx hb dX4_init_18 rfl (lv_at hl 0 rfl) ?_
  refine lv_iconst (v := 4) hx hb dX4_init_19 (by decide) ?_
  refine lv_bipush (v := 60) hx hb dX4_init_20 (by decide) ?_
  refine n_mna (k := k) hx hb hown (hT _ t340) hN.2.2.2 (hT _ t357) hK hP hD hS hA (Nat.le_of_ble_eq_true rfl) (Nat.le_of_ble_eq_true rfl) dX4_init_22 (fun q22_3 r22_3_0 r22_3_1 r22_3_2 r22_3_3 H hP9 hD9 hS9 => ?_)
  clear hP hD hS
  have hS := hS9
  have hP := hP9
  have hD := hD9
  clear hP9 hD9 hS9
  replace hP : va_P D vwCl [(h0, .inr (4, [.ref q6_1, .ref q13_2, .null])), (q6_1, .inl (k 0, 4, .inl (fun _ => 0))), (q13_2, .inl (k 0, 4, .inl (fun _ => 0))), (q22_3, .inl (k 6, 4, .inr (.inr (.inr (.inr (va_up (va_up (va_up (va_up (fun _ => none) 0 (some r22_3_0)) 1 (some r22_3_1)) 2 (some r22_3_2)) 3 (some r22_3_3))))))), (r22_3_0, .inl (k 2, 60, .inr (.inl (fun _ => 0)))), (r22_3_1, .inl (k 2, 60, .inr (.inl (fun _ => 0)))), (r22_3_2, .inl (k 2, 60, .inr (.inl (fun _ => 0)))), (r22_3_3, .inl (k 2, 60, .inr (.inl (fun _ => 0))))] H := hP
  replace hD : va_D A [(h0, .inr (4, [.ref q6_1, .ref q13_2, .null])), (q6_1, .inl (k 0, 4, .inl (fun _ => 0))), (q13_2, .inl (k 0, 4, .inl (fun _ => 0))), (q22_3, .inl (k 6, 4, .inr (.inr (.inr (.inr (va_up (va_up (va_up (va_up (fun _ => none) 0 (some r22_3_0)) 1 (some r22_3_1)) 2 (some r22_3_2)) 3 (some r22_3_3))))))), (r22_3_0, .inl (k 2, 60, .inr (.inl (fun _ => 0)))), (r22_3_1, .inl (k 2, 60, .inr (.inl (fun _ => 0)))), (r22_3_2, .inl (k 2, 60, .inr (.inl (fun _ => 0)))), (r22_3_3, .inl (k 2, 60, .inr (.inl (fun _ => 0))))] := hD
  refine W.widen (k := 7) (n := 252) (Nat.le_of_ble_eq_true rfl) (Nat.le_of_ble_eq_true rfl) ?_
  refine va_putF (D := D) (ci := 4) (v := .ref q22_3) (ty := .array (.array .long)) (C := RX4) (T := TX4) (N := 3) hx hb hT in_X4 tyX4 tyX4_ok nmX4 hown hK hP hD hS 0 rfl rfl 2 (by decide) (hT _ t347) (fun _ h9 => h9) rfl hin rfl (by decide +kernel) rfl rfl (Nat.le_of_ble_eq_true rfl) dX4_init_26 (fun H locs hP9 hD9 hS9 => ?_)
  clear hP hD hS
  have hS := hS9
  have hP := hP9
  have hD := hD9
  clear hP9 hD9 hS9
  replace hP : va_P D vwCl [(h0, .inr (4, [.ref q6_1, .ref q13_2, .ref q22_3])), (q6_1, .inl (k 0, 4, .inl (fun _ => 0))), (q13_2, .inl (k 0, 4, .inl (fun _ => 0))), (q22_3, .inl (k 6, 4, .inr (.inr (.inr (.inr (va_up (va_up (va_up (va_up (fun _ => none) 0 (some r22_3_0)) 1 (some r22_3_1)) 2 (some r22_3_2)) 3 (some r22_3_3))))))), (r22_3_0, .inl (k 2, 60, .inr (.inl (fun _ => 0)))), (r22_3_1, .inl (k 2, 60, .inr (.inl (fun _ => 0)))), (r22_3_2, .inl (k 2, 60, .inr (.inl (fun _ => 0)))), (r22_3_3, .inl (k 2, 60, .inr (.inl (fun _ => 0))))] H := hP
  replace hD : va_D A [(h0, .inr (4, [.ref q6_1, .ref q13_2, .ref q22_3])), (q6_1, .inl (k 0, 4, .inl (fun _ => 0))), (q13_2, .inl (k 0, 4, .inl (fun _ => 0))), (q22_3, .inl (k 6, 4, .inr (.inr (.inr (.inr (va_up (va_up (va_up (va_up (fun _ => none) 0 (some r22_3_0)) 1 (some r22_3_1)) 2 (some r22_3_2)) 3 (some r22_3_3))))))), (r22_3_0, .inl (k 2, 60, .inr (.inl (fun _ => 0)))), (r22_3_1, .inl (k 2, 60, .inr (.inl (fun _ => 0)))), (r22_3_2, .inl (k 2, 60, .inr (.inl (fun _ => 0)))), (r22_3_3, .inl (k 2, 60, .inr (.inl (fun _ => 0))))] := hD
  refine lv_aload_n hx hb dX4_init_29 rfl (lv_at hl 0 rfl) ?_
  refine va_get (D := D) (ci := 4) (v := .ref q6_1) (C := RX4) (T := TX4) (N := 3) hx hb hT in_X4 hown hK hP 0 rfl rfl 0 (by decide) (hT _ t343) (fun _ h9 => h9) rfl dX4_init_30 ?_
  refine lv_iconst (v := (-1)) hx hb dX4_init_33 (by decide) ?_
  refine rw_v (wc := [(q6_1, .inl (k 0, 4, .inl (fun _ => 0)))]) (wr := [(h0, .inr (4, [.ref q6_1, .ref q13_2, .ref q22_3])), (q13_2, .inl (k 0, 4, .inl (fun _ => 0))), (q22_3, .inl (k 6, 4, .inr (.inr (.inr (.inr (va_up (va_up (va_up (va_up (fun _ => none) 0 (some r22_3_0)) 1 (some r22_3_1)) 2 (some r22_3_2)) 3 (some r22_3_3))))))), (r22_3_0, .inl (k 2, 60, .inr (.inl (fun _ => 0)))), (r22_3_1, .inl (k 2, 60, .inr (.inl (fun _ => 0)))), (r22_3_2, .inl (k 2, 60, .inr (.inl (fun _ => 0)))), (r22_3_3, .inl (k 2, 60, .inr (.inl (fun _ => 0))))]) [1] [0, 2, 3, 4, 5, 6, 7] rfl rfl (by decide +kernel) (by decide +kernel) (by decide +kernel) hP hD hS hA (fun hPc hDc => run_S (C := RJ7) (As := [.ref q6_1, .int (-1)]) (rest := []) S (c_fillI l D k q6_1 4 (fun _ => 0) (-1) (by decide) _) (gdC t166) t342 t165 t109 ok_J7_fill_53178 ⟨rfl, rfl, Nat.le_of_ble_eq_true rfl, Nat.le_of_ble_eq_true rfl⟩ (pw_S hK hN hPc hDc) rfl hl.1 rfl (Nat.le_of_ble_eq_true rfl) ⟨Nat.le_of_ble_eq_true rfl, Nat.le_of_ble_eq_true rfl⟩ dX4_init_34) (fun u34_4 H locs hu34_4 hKu34_4 hP9 hD9 hS9 => ?_)
  clear hP hD hS
  have hS := hS9
  have hP := hP9
  have hD := hD9
  clear hP9 hD9 hS9
  replace hP : va_P D vwCl [(h0, .inr (4, [.ref q6_1, .ref q13_2, .ref q22_3])), (q13_2, .inl (k 0, 4, .inl (fun _ => 0))), (q22_3, .inl (k 6, 4, .inr (.inr (.inr (.inr (va_up (va_up (va_up (va_up (fun _ => none) 0 (some r22_3_0)) 1 (some r22_3_1)) 2 (some r22_3_2)) 3 (some r22_3_3))))))), (r22_3_0, .inl (k 2, 60, .inr (.inl (fun _ => 0)))), (r22_3_1, .inl (k 2, 60, .inr (.inl (fun _ => 0)))), (r22_3_2, .inl (k 2, 60, .inr (.inl (fun _ => 0)))), (r22_3_3, .inl (k 2, 60, .inr (.inl (fun _ => 0)))), (q6_1, .inl (k 0, 4, .inl u34_4))] H := hP
  replace hD : va_D A [(h0, .inr (4, [.ref q6_1, .ref q13_2, .ref q22_3])), (q13_2, .inl (k 0, 4, .inl (fun _ => 0))), (q22_3, .inl (k 6, 4, .inr (.inr (.inr (.inr (va_up (va_up (va_up (va_up (fun _ => none) 0 (some r22_3_0)) 1 (some r22_3_1)) 2 (some r22_3_2)) 3 (some r22_3_3))))))), (r22_3_0, .inl (k 2, 60, .inr (.inl (fun _ => 0)))), (r22_3_1, .inl (k 2, 60, .inr (.inl (fun _ => 0)))), (r22_3_2, .inl (k 2, 60, .inr (.inl (fun _ => 0)))), (r22_3_3, .inl (k 2, 60, .inr (.inl (fun _ => 0)))), (q6_1, .inl (k 0, 4, .inl u34_4))] := hD
  have hP9 := hP.sub (ws' := [(h0, .inr (4, [.ref q6_1, .ref q13_2, .ref q22_3])), (q6_1, .inl (k 0, 4, .inl u34_4)), (q13_2, .inl (k 0, 4, .inl (fun _ => 0))), (q22_3, .inl (k 6, 4, .inr (.inr (.inr (.inr (va_up (va_up (va_up (va_up (fun _ => none) 0 (some r22_3_0)) 1 (some r22_3_1)) 2 (some r22_3_2)) 3 (some r22_3_3))))))), (r22_3_0, .inl (k 2, 60, .inr (.inl (fun _ => 0)))), (r22_3_1, .inl (k 2, 60, .inr (.inl (fun _ => 0)))), (r22_3_2, .inl (k 2, 60, .inr (.inl (fun _ => 0)))), (r22_3_3, .inl (k 2, 60, .inr (.inl (fun _ => 0))))]) [0, 7, 1, 2, 3, 4, 5, 6] rfl
  have hD9 := d_sub (ws' := [(h0, .inr (4, [.ref q6_1, .ref q13_2, .ref q22_3])), (q6_1, .inl (k 0, 4, .inl u34_4)), (q13_2, .inl (k 0, 4, .inl (fun _ => 0))), (q22_3, .inl (k 6, 4, .inr (.inr (.inr (.inr (va_up (va_up (va_up (va_up (fun _ => none) 0 (some r22_3_0)) 1 (some r22_3_1)) 2 (some r22_3_2)) 3 (some r22_3_3))))))), (r22_3_0, .inl (k 2, 60, .inr (.inl (fun _ => 0)))), (r22_3_1, .inl (k 2, 60, .inr (.inl (fun _ => 0)))), (r22_3_2, .inl (k 2, 60, .inr (.inl (fun _ => 0)))), (r22_3_3, .inl (k 2, 60, .inr (.inl (fun _ => 0))))]) hD [0, 7, 1, 2, 3, 4, 5, 6] (by decide +kernel) rfl
  have hK9 := hK.sub (tys' := []) [] rfl
  exact W.vret hx hb hr (fun t ht hW => ⟨⟨mkU [q6_1, q13_2, q22_3, r22_3_0, r22_3_1, r22_3_2, r22_3_3] [u34_4], rfl, hu34_4, by rw [ht]; exact hP9, va_K.moved hW.alike hK9, by rw [hAe]; exact hD9⟩, by rw [hAe]; exact hS.F ht⟩) hS.2.2 dX4_init_37
