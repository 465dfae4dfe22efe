set_option maxHeartbeats 4000000 in
set_option maxRecDepth 100000 in
theorem c_X5_init (l : Launch) (D : va_G) (k : Nat → ClassId) (h0 sz : Nat) : Met l yX5_init (.code yX5_init cX5_init 1 none :: TB) (rmw 2 5 86) (va_Pc [.ref h0] (PW D k sz [(h0, .inr (5, [.null, .null, .null, .null, .null]))])) (QV D (S := UT) (fun u => True) (fun u => [(h0, .inr (5, [.ref (u.1 0), .ref (u.1 1), .ref (u.1 2), .ref (u.1 3), .ref (u.1 4)])), (u.1 0, .inl (k 0, 64, .inl (fun _ => 0))), (u.1 1, .inl (k 0, 8, .inl (fun _ => 0))), (u.1 2, .inl (k 0, 8, .inl (u.2 0))), (u.1 3, .inl (k 0, 3, .inl (fun _ => 0))), (u.1 4, .inl (k 0, 3, .inl (fun _ => 0)))]) (fun _ => []) [(h0, .inr (5, [.null, .null, .null, .null, .null]))] sz) 5 86 (va_A [(h0, .inr (5, [.null, .null, .null, .null, .null]))] sz) := by
  refine Met.ofW (cc := cX5_init) (maxL := 1) (ret := none) (by decide) rfl ?_
  intro p e s m args below meth c s₁ B hml hv
  obtain ⟨rfl, hsz, hP, hK, hD0, hN⟩ := hv
  have hx := B.exec
  have hb := B.bytes
  have hr := B.returns
  have hT : ∀ w ∈ TB, w.before ([.ref h0] : List Value).toArray s = true := fun w h => atoms_spec (ws := .code yX5_init cX5_init 1 none :: TB) B.pre w (List.mem_cons_of_mem _ h)
  have hown : s.vm.findClass RX5 = some m.cls := findClass_of_methodNamed B.named
  have S : CallFix p m c cX5_init 1 s _ TB RX5 := ⟨hx, hb, hml, hown, hT⟩
  have hin : meth.name = "<init>" := (name_of_methodNamed B.named B.method).1
  subst hsz
  have hD := hD0.self (sz := s.heap.size)
  generalize hAe : va_A [(h0, .inr (5, [.null, .null, .null, .null, .null]))] s.heap.size = A at hD ⊢
  have hA : ∀ q : Nat, s.heap.size ≤ q → A q := fun q h => by rw [← hAe]; exact Or.inr h
  have hS : va_S A s.heap s.heap [] := va_S.rf
  have hP : va_P D vwCl [(h0, .inr (5, [.null, .null, .null, .null, .null]))] s.heap := hP
  have hl := lv_entry ([.ref h0]) (n := 1) (Nat.le_of_ble_eq_true rfl)
  rw [lg_entry_eq]
  generalize (lg_sl ([.ref h0]) ++ List.replicate (1 - (lg_sl ([.ref h0])).length) Slot.unset).toArray = ls at hl ⊢
  have hl : lv_has ls 1 [(0, .ref h0)] := hl
  refine lv_aload_n hx hb dX5_init_0 rfl (lv_at hl 0 rfl) ?_
  refine W.objInit hx hb hown (hT _ t163) (hT _ t129) (hT _ t130) rfl (by rw [hml]; exact hl.1) rfl dX5_init_1 (Nat.le_of_ble_eq_true rfl) (Nat.le_of_ble_eq_true rfl) ?_
  refine W.eq (g2 := F0 m 4 ls []) rfl ?_
  refine lv_aload_n hx hb dX5_init_4 rfl (lv_at hl 0 rfl) ?_
  refine lv_bipush (v := 64) hx hb dX5_init_5 (by decide) ?_
  refine n_newa (atype := .int) (ty := .int) (cT := k 0) (N' := 64) (a0 := (64, .inl (fun _ => 0))) 0 ra_int rfl hx hb (hT _ t194) rfl hK hP hD hS hA (fun _ => rfl) (by decide) (by decide) (Nat.le_of_ble_eq_true rfl) (Nat.le_of_ble_eq_true rfl) (Nat.le_of_ble_eq_true rfl) dX5_init_7 (fun q7_1 H hP9 hD9 hS9 => ?_)
  clear hP hD hS
  have hS := hS9
  have hP := hP9
  have hD := hD9
  clear hP9 hD9 hS9
  replace hP : va_P D vwCl [(h0, .inr (5, [.null, .null, .null, .null, .null])), (q7_1, .inl (k 0, 64, .inl (fun _ => 0)))] H := hP
  replace hD : va_D A [(h0, .inr (5, [.null, .null, .null, .null, .null])), (q7_1, .inl (k 0, 64, .inl (fun _ => 0)))] := hD
  refine W.widen (k := 1) (n := 64) (Nat.le_of_ble_eq_true rfl) (Nat.le_of_ble_eq_true rfl) ?_
  refine va_putF (D := D) (ci := 5) (v := .ref q7_1) (ty := .array .int) (C := RX5) (T := TX5) (N := 5) hx hb hT in_X5 tyX5 tyX5_ok nmX5 hown hK hP hD hS 0 rfl rfl 0 (by decide) (hT _ t167) (fun _ h9 => h9) rfl hin rfl (by decide +kernel) rfl rfl (Nat.le_of_ble_eq_true rfl) dX5_init_9 (fun H locs hP9 hD9 hS9 => ?_)
  clear hP hD hS
  have hS := hS9
  have hP := hP9
  have hD := hD9
  clear hP9 hD9 hS9
  replace hP : va_P D vwCl [(h0, .inr (5, [.ref q7_1, .null, .null, .null, .null])), (q7_1, .inl (k 0, 64, .inl (fun _ => 0)))] H := hP
  replace hD : va_D A [(h0, .inr (5, [.ref q7_1, .null, .null, .null, .null])), (q7_1, .inl (k 0, 64, .inl (fun _ => 0)))] := hD
  refine lv_aload_n hx hb dX5_init_12 rfl (lv_at hl 0 rfl) ?_
  refine lv_bipush (v := 8) hx hb dX5_init_13 (by decide) ?_
  refine n_newa (atype := .int) (ty := .int) (cT := k 0) (N' := 8) (a0 := (8, .inl (fun _ => 0))) 0 ra_int rfl hx hb (hT _ t194) rfl hK hP hD hS hA (fun _ => rfl) (by decide) (by decide) (Nat.le_of_ble_eq_true rfl) (Nat.le_of_ble_eq_true rfl) (Nat.le_of_ble_eq_true rfl) dX5_init_15 (fun q15_2 H hP9 hD9 hS9 => ?_)
  clear hP hD hS
  have hS := hS9
  have hP := hP9
  have hD := hD9
  clear hP9 hD9 hS9
  replace hP : va_P D vwCl [(h0, .inr (5, [.ref q7_1, .null, .null, .null, .null])), (q7_1, .inl (k 0, 64, .inl (fun _ => 0))), (q15_2, .inl (k 0, 8, .inl (fun _ => 0)))] H := hP
  replace hD : va_D A [(h0, .inr (5, [.ref q7_1, .null, .null, .null, .null])), (q7_1, .inl (k 0, 64, .inl (fun _ => 0))), (q15_2, .inl (k 0, 8, .inl (fun _ => 0)))] := hD
  refine W.widen (k := 2) (n := 72) (Nat.le_of_ble_eq_true rfl) (Nat.le_of_ble_eq_true rfl) ?_
  refine va_putF (D := D) (ci := 5) (v := .ref q15_2) (ty := .array .int) (C := RX5) (T := TX5) (N := 5) hx hb hT in_X5 tyX5 tyX5_ok nmX5 hown hK hP hD hS 0 rfl rfl 1 (by decide) (hT _ t168) (fun _ h9 => h9) rfl hin rfl (by decide +kernel) rfl rfl (Nat.le_of_ble_eq_true rfl) dX5_init_17 (fun H locs hP9 hD9 hS9 => ?_)
  clear hP hD hS
  have hS := hS9
  have hP := hP9
  have hD := hD9
  clear hP9 hD9 hS9
  replace hP : va_P D vwCl [(h0, .inr (5, [.ref q7_1, .ref q15_2, .null, .null, .null])), (q7_1, .inl (k 0, 64, .inl (fun _ => 0))), (q15_2, .inl (k 0, 8, .inl (fun _ => 0)))] H := hP
  replace hD : va_D A [(h0, .inr (5, [.ref q7_1, .ref q15_2, .null, .null, .null])), (q7_1, .inl (k 0, 64, .inl (fun _ => 0))), (q15_2, .inl (k 0, 8, .inl (fun _ => 0)))] := hD
  refine lv_aload_n hx hb dX5_init_20 rfl (lv_at hl 0 rfl) ?_
  refine lv_bipush (v := 8) hx hb dX5_init_21 (by decide) ?_
  refine n_newa (atype := .int) (ty := .int) (cT := k 0) (N' := 8) (a0 := (8, .inl (fun _ => 0))) 0 ra_int rfl hx hb (hT _ t194) rfl hK hP hD hS hA (fun _ => rfl) (by decide) (by decide) (Nat.le_of_ble_eq_true rfl) (Nat.le_of_ble_eq_true rfl) (Nat.le_of_ble_eq_true rfl) dX5_init_23 (fun q23_3 H hP9 hD9 hS9 => ?_)
  clear hP hD hS
  have hS := hS9
  have hP := hP9
  have hD := hD9
  clear hP9 hD9 hS9
  replace hP : va_P D vwCl [(h0, .inr (5, [.ref q7_1, .ref q15_2, .null, .null, .null])), (q7_1, .inl (k 0, 64, .inl (fun _ => 0))), (q15_2, .inl (k 0, 8, .inl (fun _ => 0))), (q23_3, .inl (k 0, 8, .inl (fun _ => 0)))] H := hP
  replace hD : va_D A [(h0, .inr (5, [.ref q7_1, .ref q15_2, .null, .null, .null])), (q7_1, .inl (k 0, 64, .inl (fun _ => 0))), (q15_2, .inl (k 0, 8, .inl (fun _ => 0))), (q23_3, .inl (k 0, 8, .inl (fun _ => 0)))] := hD
  refine W.widen (k := 3) (n := 80) (Nat.le_of_ble_eq_true rfl) (Nat.le_of_ble_eq_true rfl) ?_
  refine va_putF (D := D) (ci := 5) (v := .ref q23_3) (ty := .array .int) (C := RX5) (T := TX5) (N := 5) hx hb hT in_X5 tyX5 tyX5_ok nmX5 hown hK hP hD hS 0 rfl rfl 2 (by decide) (hT _ t172) (fun _ h9 => h9) rfl hin rfl (by decide +kernel) rfl rfl (Nat.le_of_ble_eq_true rfl) dX5_init_25 (fun H locs hP9 hD9 hS9 => ?_)
  clear hP hD hS
  have hS := hS9
  have hP := hP9
  have hD := hD9
  clear hP9 hD9 hS9
  replace hP : va_P D vwCl [(h0, .inr (5, [.ref q7_1, .ref q15_2, .ref q23_3, .null, .null])), (q7_1, .inl (k 0, 64, .inl (fun _ => 0))), (q15_2, .inl (k 0, 8, .inl (fun _ => 0))), (q23_3, .inl (k 0, 8, .inl (fun _ => 0)))] H := hP
  replace hD : va_D A [(h0, .inr (5, [.ref q7_1, .ref q15_2, .ref q23_3, .null, .null])), (q7_1, .inl (k 0, 64, .inl (fun _ => 0))), (q15_2, .inl (k 0, 8, .inl (fun _ => 0))), (q23_3, .inl (k 0, 8, .inl (fun _ => 0)))] := hD
  refine lv_aload_n hx hb dX5_init_28 rfl (lv_at hl 0 rfl) ?_
  refine lv_iconst (v := 3) hx hb dX5_init_29 (by decide) ?_
  refine n_newa (atype := .int) (ty := .int) (cT := k 0) (N' := 3) (a0 := (3, .inl (fun _ => 0))) 0 ra_int rfl hx hb (hT _ t194) rfl hK hP hD hS hA (fun _ => rfl) (by decide) (by decide) (Nat.le_of_ble_eq_true rfl) (Nat.le_of_ble_eq_true rfl) (Nat.le_of_ble_eq_true rfl) dX5_init_30 (fun q30_4 H hP9 hD9 hS9 => ?_)
  clear hP hD hS
  have hS := hS9
  have hP := hP9
  have hD := hD9
  clear hP9 hD9 hS9
  replace hP : va_P D vwCl [(h0, .inr (5, [.ref q7_1, .ref q15_2, .ref q23_3, .null, .null])), (q7_1, .inl (k 0, 64, .inl (fun _ => 0))), (q15_2, .inl (k 0, 8, .inl (fun _ => 0))), (q23_3, .inl (k 0, 8, .inl (fun _ => 0))), (q30_4, .inl (k 0, 3, .inl (fun _ => 0)))] H := hP
  replace hD : va_D A [(h0, .inr (5, [.ref q7_1, .ref q15_2, .ref q23_3, .null, .null])), (q7_1, .inl (k 0, 64, .inl (fun _ => 0))), (q15_2, .inl (k 0, 8, .inl (fun _ => 0))), (q23_3, .inl (k 0, 8, .inl (fun _ => 0))), (q30_4, .inl (k 0, 3, .inl (fun _ => 0)))] := hD
  refine W.widen (k := 4) (n := 83) (Nat.le_of_ble_eq_true rfl) (Nat.le_of_ble_eq_true rfl) ?_
  refine va_putF (D := D) (ci := 5) (v := .ref q30_4) (ty := .array .int) (C := RX5) (T := TX5) (N := 5) hx hb hT in_X5 tyX5 tyX5_ok nmX5 hown hK hP hD hS 0 rfl rfl 3 (by decide) (hT _ t176) (fun _ h9 => h9) rfl hin rfl (by decide +kernel) rfl rfl (Nat.le_of_ble_eq_true rfl) dX5_init_32 (fun H locs hP9 hD9 hS9 => ?_)
  clear hP hD hS
  have hS := hS9
  have hP := hP9
  have hD := hD9
  clear hP9 hD9 hS9
  replace hP : va_P D vwCl [(h0, .inr (5, [.ref q7_1, .ref q15_2, .ref q23_3, .ref q30_4, .null])), (q7_1, .inl (k 0, 64, .inl (fun _ => 0))), (q15_2, .inl (k 0, 8, .inl (fun _ => 0))), (q23_3, .inl (k 0, 8, .inl (fun _ => 0))), (q30_4, .inl (k 0, 3, .inl (fun _ => 0)))] H := hP
  replace hD : va_D A [(h0, .inr (5, [.ref q7_1, .ref q15_2, .ref q23_3, .ref q30_4, .null])), (q7_1, .inl (k 0, 64, .inl (fun _ => 0))), (q15_2, .inl (k 0, 8, .inl (fun _ => 0))), (q23_3, .inl (k 0, 8, .inl (fun _ => 0))), (q30_4, .inl (k 0, 3, .inl (fun _ => 0)))] := hD
  refine lv_aload_n hx hb dX5_init_35 rfl (lv_at hl 0 rfl) ?_
  refine lv_iconst (v := 3) hx hb dX5_init_36 (by decide) ?_
  refine n_newa (atype := .int) (ty := .int) (cT := k 0) (N' := 3) (a0 := (3, .inl (fun _ => 0))) 0 ra_int rfl hx hb (hT _ t194) rfl hK hP hD hS hA (fun _ => rfl) (by decide) (by decide) (Nat.le_of_ble_eq_true rfl) (Nat.le_of_ble_eq_true rfl) (Nat.le_of_ble_eq_true rfl) dX5_init_37 (fun q37_5 H hP9 hD9 hS9 => ?_)
  clear hP hD hS
  have hS := hS9
  have hP := hP9
  have hD := hD9
  clear hP9 hD9 hS9
  replace hP : va_P D vwCl [(h0, .inr (5, [.ref q7_1, .ref q15_2, .ref q23_3, .ref q30_4, .null])), (q7_1, .inl (k 0, 64, .inl (fun _ => 0))), (q15_2, .inl (k 0, 8, .inl (fun _ => 0))), (q23_3, .inl (k 0, 8, .inl (fun _ => 0))), (q30_4, .inl (k 0, 3, .inl (fun _ => 0))), (q37_5, .inl (k 0, 3, .inl (fun _ => 0)))] H := hP
  replace hD : va_D A [(h0, .inr (5, [.ref q7_1, .ref q15_2, .ref q23_3, .ref q30_4, .null])), (q7_1, .inl (k 0, 64, .inl (fun _ => 0))), (q15_2, .inl (k 0, 8, .inl (fun _ => 0))), (q23_3, .inl (k 0, 8, .inl (fun _ => 0))), (q30_4, .inl (k 0, 3, .inl (fun _ => 0))), (q37_5, .inl (k 0, 3, .inl (fun _ => 0)))] := hD
  refine W.widen (k := 5) (n := 86) (Nat.le_of_ble_eq_true rfl) (Nat.le_of_ble_eq_true rfl) ?_
  refine va_putF (D := D) (ci := 5) (v := .ref q37_5) (ty := .array .int) (C := RX5) (T := TX5) (N := 5) hx hb hT in_X5 tyX5 tyX5_ok nmX5 hown hK hP hD hS 0 rfl rfl 4 (by decide) (hT _ t181) (fun _ h9 => h9) rfl hin rfl (by decide +kernel) rfl rfl (Nat.le_of_ble_eq_true rfl) dX5_init_39 (fun H locs hP9 hD9 hS9 => ?_)
  clear hP hD hS
  have hS := hS9
  have hP := hP9
  have hD := hD9
  clear hP9 hD9 hS9
  replace hP : va_P D vwCl [(h0, .inr (5, [.ref q7_1, .ref q15_2, .ref q23_3, .ref q30_4, .ref q37_5])), (q7_1, .inl (k 0, 64, .inl (fun _ => 0))), (q15_2, .inl (k 0, 8, .inl (fun _ => 0))), (q23_3, .inl (k 0, 8, .inl (fun _ => 0))), (q30_4, .inl (k 0, 3, .inl (fun _ => 0))), (q37_5, .inl (k 0, 3, .inl (fun _ => 0)))] H := hP
  replace hD : va_D A [(h0, .inr (5, [.ref q7_1, .ref q15_2, .ref q23_3, .ref q30_4, .ref q37_5])), (q7_1, .inl (k 0, 64, .inl (fun _ => 0))), (q15_2, .inl (k 0, 8, .inl (fun _ => 0))), (q23_3, .inl (k 0, 8, .inl (fun _ => 0))), (q30_4, .inl (k 0, 3, .inl (fun _ => 0))), (q37_5, .inl (k 0, 3, .inl (fun _ => 0)))] := hD
  refine lv_aload_n hx hb dX5_init_42 rfl (lv_at hl 0 rfl) ?_
  refine va_get (D := D) (ci := 5) (v := .ref q23_3) (C := RX5) (T := TX5) (N := 5) hx hb hT in_X5 hown hK hP 0 rfl rfl 2 (by decide) (hT _ t172) (fun _ h9 => h9) rfl dX5_init_43 ?_
  refine lv_iconst (v := (-1)) hx hb dX5_init_46 (by decide) ?_
  refine rw_v (wc := [(q23_3, .inl (k 0, 8, .inl (fun _ => 0)))]) (wr := [(h0, .inr (5, [.ref q7_1, .ref q15_2, .ref q23_3, .ref q30_4, .ref q37_5])), (q7_1, .inl (k 0, 64, .inl (fun _ => 0))), (q15_2, .inl (k 0, 8, .inl (fun _ => 0))), (q30_4, .inl (k 0, 3, .inl (fun _ => 0))), (q37_5, .inl (k 0, 3, .inl (fun _ => 0)))]) [3] [0, 1, 2, 4, 5] rfl rfl (by decide +kernel) (by decide +kernel) (by decide +kernel) hP hD hS hA (fun hPc hDc => run_S (C := RJ7) (As := [.ref q23_3, .int (-1)]) (rest := []) S (c_fillI l D k q23_3 8 (fun _ => 0) (-1) (by decide) _) (gdC t166) t164 t165 t109 ok_J7_fill_53178 ⟨rfl, rfl, Nat.le_of_ble_eq_true rfl, Nat.le_of_ble_eq_true rfl⟩ (pw_S hK hN hPc hDc) rfl hl.1 rfl (Nat.le_of_ble_eq_true rfl) ⟨Nat.le_of_ble_eq_true rfl, Nat.le_of_ble_eq_true rfl⟩ dX5_init_47) (fun u47_6 H locs hu47_6 hKu47_6 hP9 hD9 hS9 => ?_)
  clear hP hD hS
  have hS := hS9
  have hP := hP9
  have hD := hD9
  clear hP9 hD9 hS9
  replace hP : va_P D vwCl [(h0, .inr (5, [.ref q7_1, .ref q15_2, .ref q23_3, .ref q30_4, .ref q37_5])), (q7_1, .inl (k 0, 64, .inl (fun _ => 0))), (q15_2, .inl (k 0, 8, .inl (fun _ => 0))), (q30_4, .inl (k 0, 3, .inl (fun _ => 0))), (q37_5, .inl (k 0, 3, .inl (fun _ => 0))), (q23_3, .inl (k 0, 8, .inl u47_6))] H := hP
  replace hD : va_D A [(h0, .inr (5, [.ref q7_1, .ref q15_2, .ref q23_3, .ref q30_4, .ref q37_5])), (q7_1, .inl (k 0, 64, .inl (fun _ => 0))), (q15_2, .inl (k 0, 8, .inl (fun _ => 0))), (q30_4, .inl (k 0, 3, .inl (fun _ => 0))), (q37_5, .inl (k 0, 3, .inl (fun _ => 0))), (q23_3, .inl (k 0, 8, .inl u47_6))] := hD
  have hP9 := hP.sub (ws' := [(h0, .inr (5, [.ref q7_1, .ref q15_2, .ref q23_3, .ref q30_4, .ref q37_5])), (q7_1, .inl (k 0, 64, .inl (fun _ => 0))), (q15_2, .inl (k 0, 8, .inl (fun _ => 0))), (q23_3, .inl (k 0, 8, .inl u47_6)), (q30_4, .inl (k 0, 3, .inl (fun _ => 0))), (q37_5, .inl (k 0, 3, .inl (fun _ => 0)))]) [0, 1, 2, 5, 3, 4] rfl
  have hD9 := d_sub (ws' := [(h0, .inr (5, [.ref q7_1, .ref q15_2, .ref q23_3, .ref q30_4, .ref q37_5])), (q7_1, .inl (k 0, 64, .inl (fun _ => 0))), (q15_2, .inl (k 0, 8, .inl (fun _ => 0))), (q23_3, .inl (k 0, 8, .inl u47_6)), (q30_4, .inl (k 0, 3, .inl (fun _ => 0))), (q37_5, .inl (k 0, 3, .inl (fun _ => 0)))]) hD [0, 1, 2, 5, 3, 4] (by decide +kernel) rfl
  have hK9 := hK.sub (tys' := []) [] rfl
  exact W.vret hx hb hr (fun t ht hW => ⟨⟨mkU [q7_1, q15_2, q23_3, q30_4, q37_5] [u47_6], rfl, trivial, by rw [ht]; exact hP9, va_K.moved hW.alike hK9, by rw [hAe]; exact hD9⟩, by rw [hAe]; exact hS.F ht⟩) hS.2.2 dX5_init_50
set_option maxHeartbeats 4000000 in
set_option maxRecDepth 100000 in
theorem c_X1_init (l : Launch) (D : va_G) (k : Nat → ClassId) (h0 sz : Nat) : Met l yX1_init (.code yX1_init cX1_init 1 none :: TB) (rmw 3 12 133) (va_Pc [.ref h0] (PW D k sz [(h0, .inr (1, [.int 0, .int 0, .int 0, .int 0, .int 0, .int 0, .int 0, .null, .null, .null, .null, .null, .null, .null]))])) (QV D (S := UT) (fun u => True) (fun u => [(h0, .inr (1, [.int 0, .int 0, .int 0, .int 0, .int 0, .int 0, .int 0, .ref (u.1 0), .ref (u.1 1), .ref (u.1 2), .ref (u.1 3), .ref (u.1 4), .ref (u.1 5), .ref (u.1 6)])), (u.1 0, .inl (k 0, 8, .inl (fun _ => 0))), (u.1 1, .inl (k 0, 8, .inl (fun _ => 0))), (u.1 2, .inl (k 0, 8, .inl (fun _ => 0))), (u.1 3, .inl (k 0, 6, .inl (fun _ => 0))), (u.1 4, .inl (k 0, 6, .inl (fun _ => 0))), (u.1 5, .inl (k 0, 6, .inl (fun _ => 0))), (u.1 6, .inr (5, [.ref (u.1 7), .ref (u.1 8), .ref (u.1 9), .ref (u.1 10), .ref (u.1 11)])), (u.1 7, .inl (k 0, 64, .inl (fun _ => 0))), (u.1 8, .inl (k 0, 8, .inl (fun _ => 0))), (u.1 9, .inl (k 0, 8, .inl (u.2 0))), (u.1 10, .inl (k 0, 3, .inl (fun _ => 0))), (u.1 11, .inl (k 0, 3, .inl (fun _ => 0)))]) (fun _ => []) [(h0, .inr (1, [.int 0, .int 0, .int 0, .int 0, .int 0, .int 0, .int 0, .null, .null, .null, .null, .null, .null, .null]))] sz) 12 133 (va_A [(h0, .inr (1, [.int 0, .int 0, .int 0, .int 0, .int 0, .int 0, .int 0, .null, .null, .null, .null, .null, .null, .null]))] sz) := by
  refine Met.ofW (cc := cX1_init) (maxL := 1) (ret := none) (by decide) rfl ?_
  intro p e s m args below meth c s₁ B hml hv
  obtain ⟨rfl, hsz, hP, hK, hD0, hN⟩ := hv
  have hx := B.exec
  have hb := B.bytes
  have hr := B.returns
  have hT : ∀ w ∈ TB, w.before ([.ref h0] : List Value).toArray s = true := fun w h => atoms_spec (ws := .code yX1_init cX1_init 1 none :: TB) B.pre w (List.mem_cons_of_mem _ h)
  have hown : s.vm.findClass RX1 = some m.cls := findClass_of_methodNamed B.named
  have S : CallFix p m c cX1_init 1 s _ TB RX1 := ⟨hx, hb, hml, hown, hT⟩
  have hin : meth.name = "<init>" := (name_of_methodNamed B.named B.method).1
  subst hsz
  have hD := hD0.self (sz := s.heap.size)
  generalize hAe : va_A [(h0, .inr (1, [.int 0, .int 0, .int 0, .int 0, .int 0, .int 0, .int 0, .null, .null, .null, .null, .null, .null, .null]))] s.heap.size = A at hD ⊢
  have hA : ∀ q : Nat, s.heap.size ≤ q → A q := fun q h => by rw [← hAe]; exact Or.inr h
  have hS : va_S A s.heap s.heap [] := va_S.rf
  have hP : va_P D vwCl [(h0, .inr (1, [.int 0, .int 0, .int 0, .int 0, .int 0, .int 0, .int 0, .null, .null, .null, .null, .null, .null, .null]))] s.heap := hP
  have hl := lv_entry ([.ref h0]) (n := 1) (Nat.le_of_ble_eq_true rfl)
  rw [lg_entry_eq]
  generalize (lg_sl ([.ref h0]) ++ List.replicate (1 - (lg_sl ([.ref h0])).length) Slot.unset).toArray = ls at hl ⊢
  have hl : lv_has ls 1 [(0, .ref h0)] := hl
  refine lv_aload_n hx hb dX1_init_0 rfl (lv_at hl 0 rfl) ?_
  refine W.objInit hx hb hown (hT _ t157) (hT _ t129) (hT _ t130) rfl (by rw [hml]; exact hl.1) rfl dX1_init_1 (Nat.le_of_ble_eq_true rfl) (Nat.le_of_ble_eq_true rfl) ?_
  refine W.eq (g2 := F0 m 4 ls []) rfl ?_
  refine lv_aload_n hx hb dX1_init_4 rfl (lv_at hl 0 rfl) ?_
  refine lv_bipush (v := 8) hx hb dX1_init_5 (by decide) ?_
  refine n_newa (atype := .int) (ty := .int) (cT := k 0) (N' := 8) (a0 := (8, .inl (fun _ => 0))) 0 ra_int rfl hx hb (hT _ t194) rfl hK hP hD hS hA (fun _ => rfl) (by decide) (by decide) (Nat.le_of_ble_eq_true rfl) (Nat.le_of_ble_eq_true rfl) (Nat.le_of_ble_eq_true rfl) dX1_init_7 (fun q7_1 H hP9 hD9 hS9 => ?_)
  clear hP hD hS
  have hS := hS9
  have hP := hP9
  have hD := hD9
  clear hP9 hD9 hS9
  replace hP : va_P D vwCl [(h0, .inr (1, [.int 0, .int 0, .int 0, .int 0, .int 0, .int 0, .int 0, .null, .null, .null, .null, .null, .null, .null])), (q7_1, .inl (k 0, 8, .inl (fun _ => 0)))] H := hP
  replace hD : va_D A [(h0, .inr (1, [.int 0, .int 0, .int 0, .int 0, .int 0, .int 0, .int 0, .null, .null, .null, .null, .null, .null, .null])), (q7_1, .inl (k 0, 8, .inl (fun _ => 0)))] := hD
  refine W.widen (k := 1) (n := 8) (Nat.le_of_ble_eq_true rfl) (Nat.le_of_ble_eq_true rfl) ?_
  refine va_putF (D := D) (ci := 1) (v := .ref q7_1) (ty := .array .int) (C := RX1) (T := TX1) (N := 14) hx hb hT in_X1 tyX1 tyX1_ok nmX1 hown hK hP hD hS 0 rfl rfl 7 (by decide) (hT _ t222) (fun _ h9 => h9) rfl hin rfl (by decide +kernel) rfl rfl (Nat.le_of_ble_eq_true rfl) dX1_init_9 (fun H locs hP9 hD9 hS9 => ?_)
  clear hP hD hS
  have hS := hS9
  have hP := hP9
  have hD := hD9
  clear hP9 hD9 hS9
  replace hP : va_P D vwCl [(h0, .inr (1, [.int 0, .int 0, .int 0, .int 0, .int 0, .int 0, .int 0, .ref q7_1, .null, .null, .null, .null, .null, .null])), (q7_1, .inl (k 0, 8, .inl (fun _ => 0)))] H := hP
  replace hD : va_D A [(h0, .inr (1, [.int 0, .int 0, .int 0, .int 0, .int 0, .int 0, .int 0, .ref q7_1, .null, .null, .null, .null, .null, .null])), (q7_1, .inl (k 0, 8, .inl (fun _ => 0)))] := hD
  refine lv_aload_n hx hb dX1_init_12 rfl (lv_at hl 0 rfl) ?_
  refine lv_bipush (v := 8) hx hb dX1_init_13 (by decide) ?_
  refine n_newa (atype := .int) (ty := .int) (cT := k 0) (N' := 8) (a0 := (8, .inl (fun _ => 0))) 0 ra_int rfl hx hb (hT _ t194) rfl hK hP hD hS hA (fun _ => rfl) (by decide) (by decide) (Nat.le_of_ble_eq_true rfl) (Nat.le_of_ble_eq_true rfl) (Nat.le_of_ble_eq_true rfl) dX1_init_15 (fun q15_2 H hP9 hD9 hS9 => ?_)
  clear hP hD hS
  have hS := hS9
  have hP := hP9
  have hD := hD9
  clear hP9 hD9 hS9
  replace hP : va_P D vwCl [(h0, .inr (1, [.int 0, .int 0, .int 0, .int 0, .int 0, .int 0, .int 0, .ref q7_1, .null, .null, .null, .null, .null, .null])), (q7_1, .inl (k 0, 8, .inl (fun _ => 0))), (q15_2, .inl (k 0, 8, .inl (fun _ => 0)))] H := hP
  replace hD : va_D A [(h0, .inr (1, [.int 0, .int 0, .int 0, .int 0, .int 0, .int 0, .int 0, .ref q7_1, .null, .null, .null, .null, .null, .null])), (q7_1, .inl (k 0, 8, .inl (fun _ => 0))), (q15_2, .inl (k 0, 8, .inl (fun _ => 0)))] := hD
  refine W.widen (k := 2) (n := 16) (Nat.le_of_ble_eq_true rfl) (Nat.le_of_ble_eq_true rfl) ?_
  refine va_putF (D := D) (ci := 1) (v := .ref q15_2) (ty := .array .int) (C := RX1) (T := TX1) (N := 14) hx hb hT in_X1 tyX1 tyX1_ok nmX1 hown hK hP hD hS 0 rfl rfl 8 (by decide) (hT _ t225) (fun _ h9 => h9) rfl hin rfl (by decide +kernel) rfl rfl (Nat.le_of_ble_eq_true rfl) dX1_init_17 (fun H locs hP9 hD9 hS9 => ?_)
  clear hP hD hS
  have hS := hS9
  have hP := hP9
  have hD := hD9
  clear hP9 hD9 hS9
  replace hP : va_P D vwCl [(h0, .inr (1, [.int 0, .int 0, .int 0, .int 0, .int 0, .int 0, .int 0, .ref q7_1, .ref q15_2, .null, .null, .null, .null, .null])), (q7_1, .inl (k 0, 8, .inl (fun _ => 0))), (q15_2, .inl (k 0, 8, .inl (fun _ => 0)))] H := hP
  replace hD : va_D A [(h0, .inr (1, [.int 0, .int 0, .int 0, .int 0, .int 0, .int 0, .int 0, .ref q7_1, .ref q15_2, .null, .null, .null, .null, .null])), (q7_1, .inl (k 0, 8, .inl (fun _ => 0))), (q15_2, .inl (k 0, 8, .inl (fun _ => 0)))] := hD
  refine lv_aload_n hx hb dX1_init_20 rfl (lv_at hl 0 rfl) ?_
  refine lv_bipush (v := 8) hx hb dX1_init_21 (by decide) ?_
  refine n_newa (atype := .int) (ty := .int) (cT := k 0) (N' := 8) (a0 := (8, .inl (fun _ => 0))) 0 ra_int rfl hx hb (hT _ t194) rfl hK hP hD hS hA (fun _ => rfl) (by decide) (by decide) (Nat.le_of_ble_eq_true rfl) (Nat.le_of_ble_eq_true rfl) (Nat.le_of_ble_eq_true rfl) dX1_init_23 (fun q23_3 H hP9 hD9 hS9 => ?_)
  clear hP hD hS
  have hS := hS9
  have hP := hP9
  have hD := hD9
  clear hP9 hD9 hS9
  replace hP : va_P D vwCl [(h0, .inr (1, [.int 0, .int 0, .int 0, .int 0, .int 0, .int 0, .int 0, .ref q7_1, .ref q15_2, .null, .null, .null, .null, .null])), (q7_1, .inl (k 0, 8, .inl (fun _ => 0))), (q15_2, .inl (k 0, 8, .inl (fun _ => 0))), (q23_3, .inl (k 0, 8, .inl (fun _ => 0)))] H := hP
  replace hD : va_D A [(h0, .inr (1, [.int 0, .int 0, .int 0, .int 0, .int 0, .int 0, .int 0, .ref q7_1, .ref q15_2, .null, .null, .null, .null, .null])), (q7_1, .inl (k 0, 8, .inl (fun _ => 0))), (q15_2, .inl (k 0, 8, .inl (fun _ => 0))), (q23_3, .inl (k 0, 8, .inl (fun _ => 0)))] := hD
  refine W.widen (k := 3) (n := 24) (Nat.le_of_ble_eq_true rfl) (Nat.le_of_ble_eq_true rfl) ?_
  refine va_putF (D := D) (ci := 1) (v := .ref q23_3) (ty := .array .int) (C := RX1) (T := TX1) (N := 14) hx hb hT in_X1 tyX1 tyX1_ok nmX1 hown hK hP hD hS 0 rfl rfl 9 (by decide) (hT _ t228) (fun _ h9 => h9) rfl hin rfl (by decide +kernel) rfl rfl (Nat.le_of_ble_eq_true rfl) dX1_init_25 (fun H locs hP9 hD9 hS9 => ?_)
  clear hP hD hS
  have hS := hS9
  have hP := hP9
  have hD := hD9
  clear hP9 hD9 hS9
  replace hP : va_P D vwCl [(h0, .inr (1, [.int 0, .int 0, .int 0, .int 0, .int 0, .int 0, .int 0, .ref q7_1, .ref q15_2, .ref q23_3, .null, .null, .null, .null])), (q7_1, .inl (k 0, 8, .inl (fun _ => 0))), (q15_2, .inl (k 0, 8, .inl (fun _ => 0))), (q23_3, .inl (k 0, 8, .inl (fun _ => 0)))] H := hP
  replace hD : va_D A [(h0, .inr (1, [.int 0, .int 0, .int 0, .int 0, .int 0, .int 0, .int 0, .ref q7_1, .ref q15_2, .ref q23_3, .null, .null, .null, .null])), (q7_1, .inl (k 0, 8, .inl (fun _ => 0))), (q15_2, .inl (k 0, 8, .inl (fun _ => 0))), (q23_3, .inl (k 0, 8, .inl (fun _ => 0)))] := hD
  refine lv_aload_n hx hb dX1_init_28 rfl (lv_at hl 0 rfl) ?_
  refine lv_bipush (v := 6) hx hb dX1_init_29 (by decide) ?_
  refine n_newa (atype := .int) (ty := .int) (cT := k 0) (N' := 6) (a0 := (6, .inl (fun _ => 0))) 0 ra_int rfl hx hb (hT _ t194) rfl hK hP hD hS hA (fun _ => rfl) (by decide) (by decide) (Nat.le_of_ble_eq_true rfl) (Nat.le_of_ble_eq_true rfl) (Nat.le_of_ble_eq_true rfl) dX1_init_31 (fun q31_4 H hP9 hD9 hS9 => ?_)
  clear hP hD hS
  have hS := hS9
  have hP := hP9
  have hD := hD9
  clear hP9 hD9 hS9
  replace hP : va_P D vwCl [(h0, .inr (1, [.int 0, .int 0, .int 0, .int 0, .int 0, .int 0, .int 0, .ref q7_1, .ref q15_2, .ref q23_3, .null, .null, .null, .null])), (q7_1, .inl (k 0, 8, .inl (fun _ => 0))), (q15_2, .inl (k 0, 8, .inl (fun _ => 0))), (q23_3, .inl (k 0, 8, .inl (fun _ => 0))), (q31_4, .inl (k 0, 6, .inl (fun _ => 0)))] H := hP
  replace hD : va_D A [(h0, .inr (1, [.int 0, .int 0, .int 0, .int 0, .int 0, .int 0, .int 0, .ref q7_1, .ref q15_2, .ref q23_3, .null, .null, .null, .null])), (q7_1, .inl (k 0, 8, .inl (fun _ => 0))), (q15_2, .inl (k 0, 8, .inl (fun _ => 0))), (q23_3, .inl (k 0, 8, .inl (fun _ => 0))), (q31_4, .inl (k 0, 6, .inl (fun _ => 0)))] := hD
  refine W.widen (k := 4) (n := 30) (Nat.le_of_ble_eq_true rfl) (Nat.le_of_ble_eq_true rfl) ?_
  refine va_putF (D := D) (ci := 1) (v := .ref q31_4) (ty := .array .int) (C := RX1) (T := TX1) (N := 14) hx hb hT in_X1 tyX1 tyX1_ok nmX1 hown hK hP hD hS 0 rfl rfl 10 (by decide) (hT _ t233) (fun _ h9 => h9) rfl hin rfl (by decide +kernel) rfl rfl (Nat.le_of_ble_eq_true rfl) dX1_init_33 (fun H locs hP9 hD9 hS9 => ?_)
  clear hP hD hS
  have hS := hS9
  have hP := hP9
  have hD := hD9
  clear hP9 hD9 hS9
  replace hP : va_P D vwCl [(h0, .inr (1, [.int 0, .int 0, .int 0, .int 0, .int 0, .int 0, .int 0, .ref q7_1, .ref q15_2, .ref q23_3, .ref q31_4, .null, .null, .null])), (q7_1, .inl (k 0, 8, .inl (fun _ => 0))), (q15_2, .inl (k 0, 8, .inl (fun _ => 0))), (q23_3, .inl (k 0, 8, .inl (fun _ => 0))), (q31_4, .inl (k 0, 6, .inl (fun _ => 0)))] H := hP
  replace hD : va_D A [(h0, .inr (1, [.int 0, .int 0, .int 0, .int 0, .int 0, .int 0, .int 0, .ref q7_1, .ref q15_2, .ref q23_3, .ref q31_4, .null, .null, .null])), (q7_1, .inl (k 0, 8, .inl (fun _ => 0))), (q15_2, .inl (k 0, 8, .inl (fun _ => 0))), (q23_3, .inl (k 0, 8, .inl (fun _ => 0))), (q31_4, .inl (k 0, 6, .inl (fun _ => 0)))] := hD
  refine lv_aload_n hx hb dX1_init_36 rfl (lv_at hl 0 rfl) ?_
  refine lv_bipush (v := 6) hx hb dX1_init_37 (by decide) ?_
  refine n_newa (atype := .int) (ty := .int) (cT := k 0) (N' := 6) (a0 := (6, .inl (fun _ => 0))) 0 ra_int rfl hx hb (hT _ t194) rfl hK hP hD hS hA (fun _ => rfl) (by decide) (by decide) (Nat.le_of_ble_eq_true rfl) (Nat.le_of_ble_eq_true rfl) (Nat.le_of_ble_eq_true rfl) dX1_init_39 (fun q39_5 H hP9 hD9 hS9 => ?_)
  clear hP hD hS
  have hS := hS9
  have hP := hP9
  have hD := hD9
  clear hP9 hD9 hS9
  replace hP : va_P D vwCl [(h0, .inr (1, [.int 0, .int 0, .int 0, .int 0, .int 0, .int 0, .int 0, .ref q7_1, .ref q15_2, .ref q23_3, .ref q31_4, .null, .null, .null])), (q7_1, .inl (k 0, 8, .inl (fun _ => 0))), (q15_2, .inl (k 0, 8, .inl (fun _ => 0))), (q23_3, .inl (k 0, 8, .inl (fun _ => 0))), (q31_4, .inl (k 0, 6, .inl (fun _ => 0))), (q39_5, .inl (k 0, 6, .inl (fun _ => 0)))] H := hP
  replace hD : va_D A [(h0, .inr (1, [.int 0, .int 0, .int 0, .int 0, .int 0, .int 0, .int 0, .ref q7_1, .ref q15_2, .ref q23_3, .ref q31_4, .null, .null, .null])), (q7_1, .inl (k 0, 8, .inl (fun _ => 0))), (q15_2, .inl (k 0, 8, .inl (fun _ => 0))), (q23_3, .inl (k 0, 8, .inl (fun _ => 0))), (q31_4, .inl (k 0, 6, .inl (fun _ => 0))), (q39_5, .inl (k 0, 6, .inl (fun _ => 0)))] := hD
  refine W.widen (k := 5) (n := 36) (Nat.le_of_ble_eq_true rfl) (Nat.le_of_ble_eq_true rfl) ?_
  refine va_putF (D := D) (ci := 1) (v := .ref q39_5) (ty := .array .int) (C := RX1) (T := TX1) (N := 14) hx hb hT in_X1 tyX1 tyX1_ok nmX1 hown hK hP hD hS 0 rfl rfl 11 (by decide) (hT _ t235) (fun _ h9 => h9) rfl hin rfl (by decide +kernel) rfl rfl (Nat.le_of_ble_eq_true rfl) dX1_init_41 (fun H locs hP9 hD9 hS9 => ?_)
  clear hP hD hS
  have hS := hS9
  have hP := hP9
  have hD := hD9
  clear hP9 hD9 hS9
  replace hP : va_P D vwCl [(h0, .inr (1, [.int 0, .int 0, .int 0, .int 0, .int 0, .int 0, .int 0, .ref q7_1, .ref q15_2, .ref q23_3, .ref q31_4, .ref q39_5, .null, .null])), (q7_1, .inl (k 0, 8, .inl (fun _ => 0))), (q15_2, .inl (k 0, 8, .inl (fun _ => 0))), (q23_3, .inl (k 0, 8, .inl (fun _ => 0))), (q31_4, .inl (k 0, 6, .inl (fun _ => 0))), (q39_5, .inl (k 0, 6, .inl (fun _ => 0)))] H := hP
  replace hD : va_D A [(h0, .inr (1, [.int 0, .int 0, .int 0, .int 0, .int 0, .int 0, .int 0, .ref q7_1, .ref q15_2, .ref q23_3, .ref q31_4, .ref q39_5, .null, .null])), (q7_1, .inl (k 0, 8, .inl (fun _ => 0))), (q15_2, .inl (k 0, 8, .inl (fun _ => 0))), (q23_3, .inl (k 0, 8, .inl (fun _ => 0))), (q31_4, .inl (k 0, 6, .inl (fun _ => 0))), (q39_5, .inl (k 0, 6, .inl (fun _ => 0)))] := hD
  refine lv_aload_n hx hb dX1_init_44 rfl (lv_at hl 0 rfl) ?_
  refine lv_bipush (v := 6) hx hb dX1_init_45 (by decide) ?_
  refine n_newa (atype := .int) (ty := .int) (cT := k 0) (N' := 6) (a0 := (6, .inl (fun _ => 0))) 0 ra_int rfl hx hb (hT _ t194) rfl hK hP hD hS hA (fun _ => rfl) (by decide) (by decide) (Nat.le_of_ble_eq_true rfl) (Nat.le_of_ble_eq_true rfl) (Nat.le_of_ble_eq_true rfl) dX1_init_47 (fun q47_6 H hP9 hD9 hS9 => ?_)
  clear hP hD hS
  have hS := hS9
  have hP := hP9
  have hD := hD9
  clear hP9 hD9 hS9
  replace hP : va_P D vwCl [(h0, .inr (1, [.int 0, .int 0, .int 0, .int 0, .int 0, .int 0, .int 0, .ref q7_1, .ref q15_2, .ref q23_3, .ref q31_4, .ref q39_5, .null, .null])), (q7_1, .inl (k 0, 8, .inl (fun _ => 0))), (q15_2, .inl (k 0, 8, .inl (fun _ => 0))), (q23_3, .inl (k 0, 8, .inl (fun _ => 0))), (q31_4, .inl (k 0, 6, .inl (fun _ => 0))), (q39_5, .inl (k 0, 6, .inl (fun _ => 0))), (q47_6, .inl (k 0, 6, .inl (fun _ => 0)))] H := hP
  replace hD : va_D A [(h0, .inr (1, [.int 0, .int 0, .int 0, .int 0, .int 0, .int 0, .int 0, .ref q7_1, .ref q15_2, .ref q23_3, .ref q31_4, .ref q39_5, .null, .null])), (q7_1, .inl (k 0, 8, .inl (fun _ => 0))), (q15_2, .inl (k 0, 8, .inl (fun _ => 0))), (q23_3, .inl (k 0, 8, .inl (fun _ => 0))), (q31_4, .inl (k 0, 6, .inl (fun _ => 0))), (q39_5, .inl (k 0, 6, .inl (fun _ => 0))), (q47_6, .inl (k 0, 6, .inl (fun _ => 0)))] := hD
  refine W.widen (k := 6) (n := 42) (Nat.le_of_ble_eq_true rfl) (Nat.le_of_ble_eq_true rfl) ?_
  refine va_putF (D := D) (ci := 1) (v := .ref q47_6) (ty := .array .int) (C := RX1) (T := TX1) (N := 14) hx hb hT in_X1 tyX1 tyX1_ok nmX1 hown hK hP hD hS 0 rfl rfl 12 (by decide) (hT _ t237) (fun _ h9 => h9) rfl hin rfl (by decide +kernel) rfl rfl (Nat.le_of_ble_eq_true rfl) dX1_init_49 (fun H locs hP9 hD9 hS9 => ?_)
  clear hP hD hS
  have hS := hS9
  have hP := hP9
  have hD := hD9
  clear hP9 hD9 hS9
  replace hP : va_P D vwCl [(h0, .inr (1, [.int 0, .int 0, .int 0, .int 0, .int 0, .int 0, .int 0, .ref q7_1, .ref q15_2, .ref q23_3, .ref q31_4, .ref q39_5, .ref q47_6, .null])), (q7_1, .inl (k 0, 8, .inl (fun _ => 0))), (q15_2, .inl (k 0, 8, .inl (fun _ => 0))), (q23_3, .inl (k 0, 8, .inl (fun _ => 0))), (q31_4, .inl (k 0, 6, .inl (fun _ => 0))), (q39_5, .inl (k 0, 6, .inl (fun _ => 0))), (q47_6, .inl (k 0, 6, .inl (fun _ => 0)))] H := hP
  replace hD : va_D A [(h0, .inr (1, [.int 0, .int 0, .int 0, .int 0, .int 0, .int 0, .int 0, .ref q7_1, .ref q15_2, .ref q23_3, .ref q31_4, .ref q39_5, .ref q47_6, .null])), (q7_1, .inl (k 0, 8, .inl (fun _ => 0))), (q15_2, .inl (k 0, 8, .inl (fun _ => 0))), (q23_3, .inl (k 0, 8, .inl (fun _ => 0))), (q31_4, .inl (k 0, 6, .inl (fun _ => 0))), (q39_5, .inl (k 0, 6, .inl (fun _ => 0))), (q47_6, .inl (k 0, 6, .inl (fun _ => 0)))] := hD
  refine lv_aload_n hx hb dX1_init_52 rfl (lv_at hl 0 rfl) ?_
  refine va_new (ci := 5) (fs := [.null, .null, .null, .null, .null]) (C := RX5) (T := TX5) (N := 5) hx hb hT in_X5 tyX5 tyX5_ok hown (hT _ t158) (hT _ t159) (hT _ t108) hK hP hD hS hA rfl (fun j hj => by rcases (show j = 0 ∨ j = 1 ∨ j = 2 ∨ j = 3 ∨ j = 4 by omega) with rfl | rfl | rfl | rfl | rfl <;> rfl) (Nat.le_of_ble_eq_true rfl) (Nat.le_of_ble_eq_true rfl) dX1_init_53 (fun q53_7 H hP9 hD9 hS9 => ?_)
  clear hP hD hS
  have hS := hS9
  have hP := hP9
  have hD := hD9
  clear hP9 hD9 hS9
  replace hP : va_P D vwCl [(h0, .inr (1, [.int 0, .int 0, .int 0, .int 0, .int 0, .int 0, .int 0, .ref q7_1, .ref q15_2, .ref q23_3, .ref q31_4, .ref q39_5, .ref q47_6, .null])), (q7_1, .inl (k 0, 8, .inl (fun _ => 0))), (q15_2, .inl (k 0, 8, .inl (fun _ => 0))), (q23_3, .inl (k 0, 8, .inl (fun _ => 0))), (q31_4, .inl (k 0, 6, .inl (fun _ => 0))), (q39_5, .inl (k 0, 6, .inl (fun _ => 0))), (q47_6, .inl (k 0, 6, .inl (fun _ => 0))), (q53_7, .inr (5, [.null, .null, .null, .null, .null]))] H := hP
  replace hD : va_D A [(h0, .inr (1, [.int 0, .int 0, .int 0, .int 0, .int 0, .int 0, .int 0, .ref q7_1, .ref q15_2, .ref q23_3, .ref q31_4, .ref q39_5, .ref q47_6, .null])), (q7_1, .inl (k 0, 8, .inl (fun _ => 0))), (q15_2, .inl (k 0, 8, .inl (fun _ => 0))), (q23_3, .inl (k 0, 8, .inl (fun _ => 0))), (q31_4, .inl (k 0, 6, .inl (fun _ => 0))), (q39_5, .inl (k 0, 6, .inl (fun _ => 0))), (q47_6, .inl (k 0, 6, .inl (fun _ => 0))), (q53_7, .inr (5, [.null, .null, .null, .null, .null]))] := hD
  refine W.widen (k := 7) (n := 47) (Nat.le_of_ble_eq_true rfl) (Nat.le_of_ble_eq_true rfl) ?_
  refine lv_dup hx hb dX1_init_56 rfl ?_
  refine rw_v (wc := [(q53_7, .inr (5, [.null, .null, .null, .null, .null]))]) (wr := [(h0, .inr (1, [.int 0, .int 0, .int 0, .int 0, .int 0, .int 0, .int 0, .ref q7_1, .ref q15_2, .ref q23_3, .ref q31_4, .ref q39_5, .ref q47_6, .null])), (q7_1, .inl (k 0, 8, .inl (fun _ => 0))), (q15_2, .inl (k 0, 8, .inl (fun _ => 0))), (q23_3, .inl (k 0, 8, .inl (fun _ => 0))), (q31_4, .inl (k 0, 6, .inl (fun _ => 0))), (q39_5, .inl (k 0, 6, .inl (fun _ => 0))), (q47_6, .inl (k 0, 6, .inl (fun _ => 0)))]) [7] [0, 1, 2, 3, 4, 5, 6] rfl rfl (by decide +kernel) (by decide +kernel) (by decide +kernel) hP hD hS hA (fun hPc hDc => run_I (C := RX5) (As := []) (rest := [.ref q53_7, .ref h0]) S (c_X5_init l D k q53_7 _) (gdC t162) t160 t161 t108 rfl ok_X5_init ⟨rfl, rfl, Nat.le_of_ble_eq_true rfl, Nat.le_of_ble_eq_true rfl⟩ (pw_S hK hN hPc hDc) rfl hl.1 rfl (Nat.le_of_ble_eq_true rfl) ⟨Nat.le_of_ble_eq_true rfl, Nat.le_of_ble_eq_true rfl⟩ dX1_init_57) (fun u57_8 H locs hu57_8 hKu57_8 hP9 hD9 hS9 => ?_)
  clear hP hD hS
  have hS := hS9
  have hP := hP9
  have hD := hD9
  clear hP9 hD9 hS9
  replace hP : va_P D vwCl [(h0, .inr (1, [.int 0, .int 0, .int 0, .int 0, .int 0, .int 0, .int 0, .ref q7_1, .ref q15_2, .ref q23_3, .ref q31_4, .ref q39_5, .ref q47_6, .null])), (q7_1, .inl (k 0, 8, .inl (fun _ => 0))), (q15_2, .inl (k 0, 8, .inl (fun _ => 0))), (q23_3, .inl (k 0, 8, .inl (fun _ => 0))), (q31_4, .inl (k 0, 6, .inl (fun _ => 0))), (q39_5, .inl (k 0, 6, .inl (fun _ => 0))), (q47_6, .inl (k 0, 6, .inl (fun _ => 0))), (q53_7, .inr (5, [.ref (u57_8.1 0), .ref (u57_8.1 1), .ref (u57_8.1 2), .ref (u57_8.1 3), .ref (u57_8.1 4)])), (u57_8.1 0, .inl (k 0, 64, .inl (fun _ => 0))), (u57_8.1 1, .inl (k 0, 8, .inl (fun _ => 0))), (u57_8.1 2, .inl (k 0, 8, .inl (u57_8.2 0))), (u57_8.1 3, .inl (k 0, 3, .inl (fun _ => 0))), (u57_8.1 4, .inl (k 0, 3, .inl (fun _ => 0)))] H := hP
  replace hD : va_D A [(h0, .inr (1, [.int 0, .int 0, .int 0, .int 0, .int 0, .int 0, .int 0, .ref q7_1, .ref q15_2, .ref q23_3, .ref q31_4, .ref q39_5, .ref q47_6, .null])), (q7_1, .inl (k 0, 8, .inl (fun _ => 0))), (q15_2, .inl (k 0, 8, .inl (fun _ => 0))), (q23_3, .inl (k 0, 8, .inl (fun _ => 0))), (q31_4, .inl (k 0, 6, .inl (fun _ => 0))), (q39_5, .inl (k 0, 6, .inl (fun _ => 0))), (q47_6, .inl (k 0, 6, .inl (fun _ => 0))), (q53_7, .inr (5, [.ref (u57_8.1 0), .ref (u57_8.1 1), .ref (u57_8.1 2), .ref (u57_8.1 3), .ref (u57_8.1 4)])), (u57_8.1 0, .inl (k 0, 64, .inl (fun _ => 0))), (u57_8.1 1, .inl (k 0, 8, .inl (fun _ => 0))), (u57_8.1 2, .inl (k 0, 8, .inl (u57_8.2 0))), (u57_8.1 3, .inl (k 0, 3, .inl (fun _ => 0))), (u57_8.1 4, .inl (k 0, 3, .inl (fun _ => 0)))] := hD
  refine W.widen (k := 12) (n := 133) (Nat.le_of_ble_eq_true rfl) (Nat.le_of_ble_eq_true rfl) ?_
  refine va_putF (D := D) (ci := 1) (v := .ref q53_7) (ty := .object "WheelMemory$State") (C := RX1) (T := TX1) (N := 14) hx hb hT in_X1 tyX1 tyX1_ok nmX1 hown hK hP hD hS 0 rfl rfl 13 (by decide) (hT _ t239) (fun _ h9 => h9) rfl hin rfl (by decide +kernel) rfl rfl (Nat.le_of_ble_eq_true rfl) dX1_init_60 (fun H locs hP9 hD9 hS9 => ?_)
  clear hP hD hS
  have hS := hS9
  have hP := hP9
  have hD := hD9
  clear hP9 hD9 hS9
  replace hP : va_P D vwCl [(h0, .inr (1, [.int 0, .int 0, .int 0, .int 0, .int 0, .int 0, .int 0, .ref q7_1, .ref q15_2, .ref q23_3, .ref q31_4, .ref q39_5, .ref q47_6, .ref q53_7])), (q7_1, .inl (k 0, 8, .inl (fun _ => 0))), (q15_2, .inl (k 0, 8, .inl (fun _ => 0))), (q23_3, .inl (k 0, 8, .inl (fun _ => 0))), (q31_4, .inl (k 0, 6, .inl (fun _ => 0))), (q39_5, .inl (k 0, 6, .inl (fun _ => 0))), (q47_6, .inl (k 0, 6, .inl (fun _ => 0))), (q53_7, .inr (5, [.ref (u57_8.1 0), .ref (u57_8.1 1), .ref (u57_8.1 2), .ref (u57_8.1 3), .ref (u57_8.1 4)])), (u57_8.1 0, .inl (k 0, 64, .inl (fun _ => 0))), (u57_8.1 1, .inl (k 0, 8, .inl (fun _ => 0))), (u57_8.1 2, .inl (k 0, 8, .inl (u57_8.2 0))), (u57_8.1 3, .inl (k 0, 3, .inl (fun _ => 0))), (u57_8.1 4, .inl (k 0, 3, .inl (fun _ => 0)))] H := hP
  replace hD : va_D A [(h0, .inr (1, [.int 0, .int 0, .int 0, .int 0, .int 0, .int 0, .int 0, .ref q7_1, .ref q15_2, .ref q23_3, .ref q31_4, .ref q39_5, .ref q47_6, .ref q53_7])), (q7_1, .inl (k 0, 8, .inl (fun _ => 0))), (q15_2, .inl (k 0, 8, .inl (fun _ => 0))), (q23_3, .inl (k 0, 8, .inl (fun _ => 0))), (q31_4, .inl (k 0, 6, .inl (fun _ => 0))), (q39_5, .inl (k 0, 6, .inl (fun _ => 0))), (q47_6, .inl (k 0, 6, .inl (fun _ => 0))), (q53_7, .inr (5, [.ref (u57_8.1 0), .ref (u57_8.1 1), .ref (u57_8.1 2), .ref (u57_8.1 3), .ref (u57_8.1 4)])), (u57_8.1 0, .inl (k 0, 64, .inl (fun _ => 0))), (u57_8.1 1, .inl (k 0, 8, .inl (fun _ => 0))), (u57_8.1 2, .inl (k 0, 8, .inl (u57_8.2 0))), (u57_8.1 3, .inl (k 0, 3, .inl (fun _ => 0))), (u57_8.1 4, .inl (k 0, 3, .inl (fun _ => 0)))] := hD
  have hP9 := hP.sub (ws' := [(h0, .inr (1, [.int 0, .int 0, .int 0, .int 0, .int 0, .int 0, .int 0, .ref q7_1, .ref q15_2, .ref q23_3, .ref q31_4, .ref q39_5, .ref q47_6, .ref q53_7])), (q7_1, .inl (k 0, 8, .inl (fun _ => 0))), (q15_2, .inl (k 0, 8, .inl (fun _ => 0))), (q23_3, .inl (k 0, 8, .inl (fun _ => 0))), (q31_4, .inl (k 0, 6, .inl (fun _ => 0))), (q39_5, .inl (k 0, 6, .inl (fun _ => 0))), (q47_6, .inl (k 0, 6, .inl (fun _ => 0))), (q53_7, .inr (5, [.ref (u57_8.1 0), .ref (u57_8.1 1), .ref (u57_8.1 2), .ref (u57_8.1 3), .ref (u57_8.1 4)])), (u57_8.1 0, .inl (k 0, 64, .inl (fun _ => 0))), (u57_8.1 1, .inl (k 0, 8, .inl (fun _ => 0))), (u57_8.1 2, .inl (k 0, 8, .inl (u57_8.2 0))), (u57_8.1 3, .inl (k 0, 3, .inl (fun _ => 0))), (u57_8.1 4, .inl (k 0, 3, .inl (fun _ => 0)))]) [0, 1, 2, 3, 4, 5, 6, 7, 8, 9, 10, 11, 12] rfl
  have hD9 := d_sub (ws' := [(h0, .inr (1, [.int 0, .int 0, .int 0, .int 0, .int 0, .int 0, .int 0, .ref q7_1, .ref q15_2, .ref q23_3, .ref q31_4, .ref q39_5, .ref q47_6, .ref q53_7])), (q7_1, .inl (k 0, 8, .inl (fun _ => 0))), (q15_2, .inl (k 0, 8, .inl (fun _ => 0))), (q23_3, .inl (k 0, 8, .inl (fun _ => 0))), (q31_4, .inl (k 0, 6, .inl (fun _ => 0))), (q39_5, .inl (k 0, 6, .inl (fun _ => 0))), (q47_6, .inl (k 0, 6, .inl (fun _ => 0))), (q53_7, .inr (5, [.ref (u57_8.1 0), .ref (u57_8.1 1), .ref (u57_8.1 2), .ref (u57_8.1 3), .ref (u57_8.1 4)])), (u57_8.1 0, .inl (k 0, 64, .inl (fun _ => 0))), (u57_8.1 1, .inl (k 0, 8, .inl (fun _ => 0))), (u57_8.1 2, .inl (k 0, 8, .inl (u57_8.2 0))), (u57_8.1 3, .inl (k 0, 3, .inl (fun _ => 0))), (u57_8.1 4, .inl (k 0, 3, .inl (fun _ => 0)))]) hD [0, 1, 2, 3, 4, 5, 6, 7, 8, 9, 10, 11, 12] (by decide +kernel) rfl
  have hK9 := hK.sub (tys' := []) [] rfl
  exact W.vret hx hb hr (fun t ht hW => ⟨⟨mkU [q7_1, q15_2, q23_3, q31_4, q39_5, q47_6, q53_7, (u57_8.1 0), (u57_8.1 1), (u57_8.1 2), (u57_8.1 3), (u57_8.1 4)] [(u57_8.2 0)], rfl, trivial, by rw [ht]; exact hP9, va_K.moved hW.alike hK9, by rw [hAe]; exact hD9⟩, by rw [hAe]; exact hS.F ht⟩) hS.2.2 dX1_init_63
set_option maxHeartbeats 4000000 in
set_option maxRecDepth 100000 in
theorem c_X6_init (l : Launch) (D : va_G) (k : Nat → ClassId) (h0 sz : Nat) : Met l yX6_init (.code yX6_init cX6_init 1 none :: TB) (rmw 1 1 1000) (va_Pc [.ref h0] (PW D k sz [(h0, .inr (6, [.null, .int 0]))])) (QV D (S := UT) (fun u => True) (fun u => [(h0, .inr (6, [.ref (u.1 0), .int 0])), (u.1 0, .inl (k 1, 1000, .inl (fun _ => 0)))]) (fun _ => []) [(h0, .inr (6, [.null, .int 0]))] sz) 1 1000 (va_A [(h0, .inr (6, [.null, .int 0]))] sz) := by
  refine Met.ofW (cc := cX6_init) (maxL := 1) (ret := none) (by decide) rfl ?_
  intro p e s m args below meth c s₁ B hml hv
  obtain ⟨rfl, hsz, hP, hK, hD0, hN⟩ := hv
  have hx := B.exec
  have hb := B.bytes
  have hr := B.returns
  have hT : ∀ w ∈ TB, w.before ([.ref h0] : List Value).toArray s = true := fun w h => atoms_spec (ws := .code yX6_init cX6_init 1 none :: TB) B.pre w (List.mem_cons_of_mem _ h)
  have hown : s.vm.findClass RX6 = some m.cls := findClass_of_methodNamed B.named
  have S : CallFix p m c cX6_init 1 s _ TB RX6 := ⟨hx, hb, hml, hown, hT⟩
  have hin : meth.name = "<init>" := (name_of_methodNamed B.named B.method).1
  subst hsz
  have hD := hD0.self (sz := s.heap.size)
  generalize hAe : va_A [(h0, .inr (6, [.null, .int 0]))] s.heap.size = A at hD ⊢
  have hA : ∀ q : Nat, s.heap.size ≤ q → A q := fun q h => by rw [← hAe]; exact Or.inr h
  have hS : va_S A s.heap s.heap [] := va_S.rf
  have hP : va_P D vwCl [(h0, .inr (6, [.null, .int 0]))] s.heap := hP
  have hl := lv_entry ([.ref h0]) (n := 1) (Nat.le_of_ble_eq_true rfl)
  rw [lg_entry_eq]
  generalize (lg_sl ([.ref h0]) ++ List.replicate (1 - (lg_sl ([.ref h0])).length) Slot.unset).toArray = ls at hl ⊢
  have hl : lv_has ls 1 [(0, .ref h0)] := hl
  refine lv_aload_n hx hb dX6_init_0 rfl (lv_at hl 0 rfl) ?_
  refine W.objInit hx hb hown (hT _ t142) (hT _ t129) (hT _ t130) rfl (by rw [hml]; exact hl.1) rfl dX6_init_1 (Nat.le_of_ble_eq_true rfl) (Nat.le_of_ble_eq_true rfl) ?_
  refine W.eq (g2 := F0 m 4 ls []) rfl ?_
  refine lv_aload_n hx hb dX6_init_4 rfl (lv_at hl 0 rfl) ?_
  refine lv_sipush (v := 1000) hx hb dX6_init_5 (by decide) ?_
  refine n_newa (atype := .byte) (ty := .byte) (cT := k 1) (N' := 1000) (a0 := (1000, .inl (fun _ => 0))) 1 ra_byte rfl hx hb (hT _ t151) rfl hK hP hD hS hA (fun _ => rfl) (by decide) (by decide) (Nat.le_of_ble_eq_true rfl) (Nat.le_of_ble_eq_true rfl) (Nat.le_of_ble_eq_true rfl) dX6_init_8 (fun q8_1 H hP9 hD9 hS9 => ?_)
  clear hP hD hS
  have hS := hS9
  have hP := hP9
  have hD := hD9
  clear hP9 hD9 hS9
  replace hP : va_P D vwCl [(h0, .inr (6, [.null, .int 0])), (q8_1, .inl (k 1, 1000, .inl (fun _ => 0)))] H := hP
  replace hD : va_D A [(h0, .inr (6, [.null, .int 0])), (q8_1, .inl (k 1, 1000, .inl (fun _ => 0)))] := hD
  refine W.widen (k := 1) (n := 1000) (Nat.le_of_ble_eq_true rfl) (Nat.le_of_ble_eq_true rfl) ?_
  refine va_putF (D := D) (ci := 6) (v := .ref q8_1) (ty := .array .byte) (C := RX6) (T := TX6) (N := 2) hx hb hT in_X6 tyX6 tyX6_ok nmX6 hown hK hP hD hS 0 rfl rfl 0 (by decide) (hT _ t143) (fun _ h9 => h9) rfl hin rfl (by decide +kernel) rfl rfl (Nat.le_of_ble_eq_true rfl) dX6_init_10 (fun H locs hP9 hD9 hS9 => ?_)
  clear hP hD hS
  have hS := hS9
  have hP := hP9
  have hD := hD9
  clear hP9 hD9 hS9
  replace hP : va_P D vwCl [(h0, .inr (6, [.ref q8_1, .int 0])), (q8_1, .inl (k 1, 1000, .inl (fun _ => 0)))] H := hP
  replace hD : va_D A [(h0, .inr (6, [.ref q8_1, .int 0])), (q8_1, .inl (k 1, 1000, .inl (fun _ => 0)))] := hD
  have hP9 := hP.sub (ws' := [(h0, .inr (6, [.ref q8_1, .int 0])), (q8_1, .inl (k 1, 1000, .inl (fun _ => 0)))]) [0, 1] rfl
  have hD9 := d_sub (ws' := [(h0, .inr (6, [.ref q8_1, .int 0])), (q8_1, .inl (k 1, 1000, .inl (fun _ => 0)))]) hD [0, 1] (by decide +kernel) rfl
  have hK9 := hK.sub (tys' := []) [] rfl
  exact W.vret hx hb hr (fun t ht hW => ⟨⟨mkU [q8_1] [], rfl, trivial, by rw [ht]; exact hP9, va_K.moved hW.alike hK9, by rw [hAe]; exact hD9⟩, by rw [hAe]; exact hS.F ht⟩) hS.2.2 dX6_init_13
set_option maxHeartbeats 4000000 in
set_option maxRecDepth 100000 in
theorem c_X2_init (l : Launch) (D : va_G) (k : Nat → ClassId) (h0 sz : Nat) : Met l yX2_init (.code yX2_init cX2_init 1 none :: TB) (rmw 4 15 1149) (va_Pc [.ref h0] (PW D k sz [(h0, .inr (2, [.null, .null, .int 0, .int 0, .int 0, .int 0, .int 0, .int 0]))])) (QV D (S := UT) (fun u => True) (fun u => [(h0, .inr (2, [.ref (u.1 0), .ref (u.1 2), .int 0, .int (-1), .int 0, .int 0, .int 0, .int 0])), (u.1 0, .inr (6, [.ref (u.1 1), .int 0])), (u.1 1, .inl (k 1, 1000, .inl (fun _ => 0))), (u.1 2, .inr (1, [.int 0, .int 0, .int 0, .int 0, .int 0, .int 0, .int 0, .ref (u.1 3), .ref (u.1 4), .ref (u.1 5), .ref (u.1 6), .ref (u.1 7), .ref (u.1 8), .ref (u.1 9)])), (u.1 3, .inl (k 0, 8, .inl (fun _ => 0))), (u.1 4, .inl (k 0, 8, .inl (fun _ => 0))), (u.1 5, .inl (k 0, 8, .inl (fun _ => 0))), (u.1 6, .inl (k 0, 6, .inl (fun _ => 0))), (u.1 7, .inl (k 0, 6, .inl (fun _ => 0))), (u.1 8, .inl (k 0, 6, .inl (fun _ => 0))), (u.1 9, .inr (5, [.ref (u.1 10), .ref (u.1 11), .ref (u.1 12), .ref (u.1 13), .ref (u.1 14)])), (u.1 10, .inl (k 0, 64, .inl (fun _ => 0))), (u.1 11, .inl (k 0, 8, .inl (fun _ => 0))), (u.1 12, .inl (k 0, 8, .inl (u.2 0))), (u.1 13, .inl (k 0, 3, .inl (fun _ => 0))), (u.1 14, .inl (k 0, 3, .inl (fun _ => 0)))]) (fun _ => []) [(h0, .inr (2, [.null, .null, .int 0, .int 0, .int 0, .int 0, .int 0, .int 0]))] sz) 15 1149 (va_A [(h0, .inr (2, [.null, .null, .int 0, .int 0, .int 0, .int 0, .int 0, .int 0]))] sz) := by
  refine Met.ofW (cc := cX2_init) (maxL := 1) (ret := none) (by decide) rfl ?_
  intro p e s m args below meth c s₁ B hml hv
  obtain ⟨rfl, hsz, hP, hK, hD0, hN⟩ := hv
  have hx := B.exec
  have hb := B.bytes
  have hr := B.returns
  have hT : ∀ w ∈ TB, w.before ([.ref h0] : List Value).toArray s = true := fun w h => atoms_spec (ws := .code yX2_init cX2_init 1 none :: TB) B.pre w (List.mem_cons_of_mem _ h)
  have hown : s.vm.findClass RX2 = some m.cls := findClass_of_methodNamed B.named
  have S : CallFix p m c cX2_init 1 s _ TB RX2 := ⟨hx, hb, hml, hown, hT⟩
  have hin : meth.name = "<init>" := (name_of_methodNamed B.named B.method).1
  subst hsz
  have hD := hD0.self (sz := s.heap.size)
  generalize hAe : va_A [(h0, .inr (2, [.null, .null, .int 0, .int 0, .int 0, .int 0, .int 0, .int 0]))] s.heap.size = A at hD ⊢
  have hA : ∀ q : Nat, s.heap.size ≤ q → A q := fun q h => by rw [← hAe]; exact Or.inr h
  have hS : va_S A s.heap s.heap [] := va_S.rf
  have hP : va_P D vwCl [(h0, .inr (2, [.null, .null, .int 0, .int 0, .int 0, .int 0, .int 0, .int 0]))] s.heap := hP
  have hl := lv_entry ([.ref h0]) (n := 1) (Nat.le_of_ble_eq_true rfl)
  rw [lg_entry_eq]
  generalize (lg_sl ([.ref h0]) ++ List.replicate (1 - (lg_sl ([.ref h0])).length) Slot.unset).toArray = ls at hl ⊢
  have hl : lv_has ls 1 [(0, .ref h0)] := hl
  refine lv_aload_n hx hb dX2_init_0 rfl (lv_at hl 0 rfl) ?_
  refine W.objInit hx hb hown (hT _ t136) (hT _ t129) (hT _ t130) rfl (by rw [hml]; exact hl.1) rfl dX2_init_1 (Nat.le_of_ble_eq_true rfl) (Nat.le_of_ble_eq_true rfl) ?_
  refine W.eq (g2 := F0 m 4 ls []) rfl ?_
  refine lv_aload_n hx hb dX2_init_4 rfl (lv_at hl 0 rfl) ?_
  refine va_new (ci := 6) (fs := [.null, .int 0]) (C := RX6) (T := TX6) (N := 2) hx hb hT in_X6 tyX6 tyX6_ok hown (hT _ t137) (hT _ t138) (hT _ t106) hK hP hD hS hA rfl (fun j hj => by rcases (show j = 0 ∨ j = 1 by omega) with rfl | rfl <;> rfl) (Nat.le_of_ble_eq_true rfl) (Nat.le_of_ble_eq_true rfl) dX2_init_5 (fun q5_1 H hP9 hD9 hS9 => ?_)
  clear hP hD hS
  have hS := hS9
  have hP := hP9
  have hD := hD9
  clear hP9 hD9 hS9
  replace hP : va_P D vwCl [(h0, .inr (2, [.null, .null, .int 0, .int 0, .int 0, .int 0, .int 0, .int 0])), (q5_1, .inr (6, [.null, .int 0]))] H := hP
  replace hD : va_D A [(h0, .inr (2, [.null, .null, .int 0, .int 0, .int 0, .int 0, .int 0, .int 0])), (q5_1, .inr (6, [.null, .int 0]))] := hD
  refine W.widen (k := 1) (n := 2) (Nat.le_of_ble_eq_true rfl) (Nat.le_of_ble_eq_true rfl) ?_
  refine lv_dup hx hb dX2_init_8 rfl ?_
  refine rw_v (wc := [(q5_1, .inr (6, [.null, .int 0]))]) (wr := [(h0, .inr (2, [.null, .null, .int 0, .int 0, .int 0, .int 0, .int 0, .int 0]))]) [1] [0] rfl rfl (by decide +kernel) (by decide +kernel) (by decide +kernel) hP hD hS hA (fun hPc hDc => run_IN (C := RX6) (As := []) (rest := [.ref q5_1, .ref h0]) S (c_X6_init l D k q5_1 _) (gdC t141) (hN.1 _ (List.mem_of_getElem? (i := 1) rfl)) t140 t106 rfl ok_X6_init ⟨rfl, rfl, Nat.le_of_ble_eq_true rfl, Nat.le_of_ble_eq_true rfl⟩ (pw_S hK hN hPc hDc) rfl hl.1 rfl (Nat.le_of_ble_eq_true rfl) ⟨Nat.le_of_ble_eq_true rfl, Nat.le_of_ble_eq_true rfl⟩ dX2_init_9) (fun u9_2 H locs hu9_2 hKu9_2 hP9 hD9 hS9 => ?_)
  clear hP hD hS
  have hS := hS9
  have hP := hP9
  have hD := hD9
  clear hP9 hD9 hS9
  replace hP : va_P D vwCl [(h0, .inr (2, [.null, .null, .int 0, .int 0, .int 0, .int 0, .int 0, .int 0])), (q5_1, .inr (6, [.ref (u9_2.1 0), .int 0])), (u9_2.1 0, .inl (k 1, 1000, .inl (fun _ => 0)))] H := hP
  replace hD : va_D A [(h0, .inr (2, [.null, .null, .int 0, .int 0, .int 0, .int 0, .int 0, .int 0])), (q5_1, .inr (6, [.ref (u9_2.1 0), .int 0])), (u9_2.1 0, .inl (k 1, 1000, .inl (fun _ => 0)))] := hD
  refine W.widen (k := 2) (n := 1002) (Nat.le_of_ble_eq_true rfl) (Nat.le_of_ble_eq_true rfl) ?_
  refine va_putF (D := D) (ci := 2) (v := .ref q5_1) (ty := .object "WheelMemory$Tape") (C := RX2) (T := TX2) (N := 8) hx hb hT in_X2 tyX2 tyX2_ok nmX2 hown hK hP hD hS 0 rfl rfl 0 (by decide) (hT _ t272) (fun _ h9 => h9) rfl hin rfl (by decide +kernel) rfl rfl (Nat.le_of_ble_eq_true rfl) dX2_init_12 (fun H locs hP9 hD9 hS9 => ?_)
  clear hP hD hS
  have hS := hS9
  have hP := hP9
  have hD := hD9
  clear hP9 hD9 hS9
  replace hP : va_P D vwCl [(h0, .inr (2, [.ref q5_1, .null, .int 0, .int 0, .int 0, .int 0, .int 0, .int 0])), (q5_1, .inr (6, [.ref (u9_2.1 0), .int 0])), (u9_2.1 0, .inl (k 1, 1000, .inl (fun _ => 0)))] H := hP
  replace hD : va_D A [(h0, .inr (2, [.ref q5_1, .null, .int 0, .int 0, .int 0, .int 0, .int 0, .int 0])), (q5_1, .inr (6, [.ref (u9_2.1 0), .int 0])), (u9_2.1 0, .inl (k 1, 1000, .inl (fun _ => 0)))] := hD
  refine lv_aload_n hx hb dX2_init_15 rfl (lv_at hl 0 rfl) ?_
  refine va_new (ci := 1) (fs := [.int 0, .int 0, .int 0, .int 0, .int 0, .int 0, .int 0, .null, .null, .null, .null, .null, .null, .null]) (C := RX1) (T := TX1) (N := 14) hx hb hT in_X1 tyX1 tyX1_ok hown (hT _ t152) (hT _ t153) (hT _ t107) hK hP hD hS hA rfl (fun j hj => by rcases (show j = 0 ∨ j = 1 ∨ j = 2 ∨ j = 3 ∨ j = 4 ∨ j = 5 ∨ j = 6 ∨ j = 7 ∨ j = 8 ∨ j = 9 ∨ j = 10 ∨ j = 11 ∨ j = 12 ∨ j = 13 by omega) with rfl | rfl | rfl | rfl | rfl | rfl | rfl | rfl | rfl | rfl | rfl | rfl | rfl | rfl <;> rfl) (Nat.le_of_ble_eq_true rfl) (Nat.le_of_ble_eq_true rfl) dX2_init_16 (fun q16_3 H hP9 hD9 hS9 => ?_)
  clear hP hD hS
  have hS := hS9
  have hP := hP9
  have hD := hD9
  clear hP9 hD9 hS9
  replace hP : va_P D vwCl [(h0, .inr (2, [.ref q5_1, .null, .int 0, .int 0, .int 0, .int 0, .int 0, .int 0])), (q5_1, .inr (6, [.ref (u9_2.1 0), .int 0])), (u9_2.1 0, .inl (k 1, 1000, .inl (fun _ => 0))), (q16_3, .inr (1, [.int 0, .int 0, .int 0, .int 0, .int 0, .int 0, .int 0, .null, .null, .null, .null, .null, .null, .null]))] H := hP
  replace hD : va_D A [(h0, .inr (2, [.ref q5_1, .null, .int 0, .int 0, .int 0, .int 0, .int 0, .int 0])), (q5_1, .inr (6, [.ref (u9_2.1 0), .int 0])), (u9_2.1 0, .inl (k 1, 1000, .inl (fun _ => 0))), (q16_3, .inr (1, [.int 0, .int 0, .int 0, .int 0, .int 0, .int 0, .int 0, .null, .null, .null, .null, .null, .null, .null]))] := hD
  refine W.widen (k := 3) (n := 1016) (Nat.le_of_ble_eq_true rfl) (Nat.le_of_ble_eq_true rfl) ?_
  refine lv_dup hx hb dX2_init_19 rfl ?_
  refine rw_v (wc := [(q16_3, .inr (1, [.int 0, .int 0, .int 0, .int 0, .int 0, .int 0, .int 0, .null, .null, .null, .null, .null, .null, .null]))]) (wr := [(h0, .inr (2, [.ref q5_1, .null, .int 0, .int 0, .int 0, .int 0, .int 0, .int 0])), (q5_1, .inr (6, [.ref (u9_2.1 0), .int 0])), (u9_2.1 0, .inl (k 1, 1000, .inl (fun _ => 0)))]) [3] [0, 1, 2] rfl rfl (by decide +kernel) (by decide +kernel) (by decide +kernel) hP hD hS hA (fun hPc hDc => run_IN (C := RX1) (As := []) (rest := [.ref q16_3, .ref h0]) S (c_X1_init l D k q16_3 _) (gdC t156) (hN.1 _ (List.mem_of_getElem? (i := 2) rfl)) t155 t107 rfl ok_X1_init ⟨rfl, rfl, Nat.le_of_ble_eq_true rfl, Nat.le_of_ble_eq_true rfl⟩ (pw_S hK hN hPc hDc) rfl hl.1 rfl (Nat.le_of_ble_eq_true rfl) ⟨Nat.le_of_ble_eq_true rfl, Nat.le_of_ble_eq_true rfl⟩ dX2_init_20) (fun u20_4 H locs hu20_4 hKu20_4 hP9 hD9 hS9 => ?_)
  clear hP hD hS
  have hS := hS9
  have hP := hP9
  have hD := hD9
  clear hP9 hD9 hS9
  replace hP : va_P D vwCl [(h0, .inr (2, [.ref q5_1, .null, .int 0, .int 0, .int 0, .int 0, .int 0, .int 0])), (q5_1, .inr (6, [.ref (u9_2.1 0), .int 0])), (u9_2.1 0, .inl (k 1, 1000, .inl (fun _ => 0))), (q16_3, .inr (1, [.int 0, .int 0, .int 0, .int 0, .int 0, .int 0, .int 0, .ref (u20_4.1 0), .ref (u20_4.1 1), .ref (u20_4.1 2), .ref (u20_4.1 3), .ref (u20_4.1 4), .ref (u20_4.1 5), .ref (u20_4.1 6)])), (u20_4.1 0, .inl (k 0, 8, .inl (fun _ => 0))), (u20_4.1 1, .inl (k 0, 8, .inl (fun _ => 0))), (u20_4.1 2, .inl (k 0, 8, .inl (fun _ => 0))), (u20_4.1 3, .inl (k 0, 6, .inl (fun _ => 0))), (u20_4.1 4, .inl (k 0, 6, .inl (fun _ => 0))), (u20_4.1 5, .inl (k 0, 6, .inl (fun _ => 0))), (u20_4.1 6, .inr (5, [.ref (u20_4.1 7), .ref (u20_4.1 8), .ref (u20_4.1 9), .ref (u20_4.1 10), .ref (u20_4.1 11)])), (u20_4.1 7, .inl (k 0, 64, .inl (fun _ => 0))), (u20_4.1 8, .inl (k 0, 8, .inl (fun _ => 0))), (u20_4.1 9, .inl (k 0, 8, .inl (u20_4.2 0))), (u20_4.1 10, .inl (k 0, 3, .inl (fun _ => 0))), (u20_4.1 11, .inl (k 0, 3, .inl (fun _ => 0)))] H := hP
  replace hD : va_D A [(h0, .inr (2, [.ref q5_1, .null, .int 0, .int 0, .int 0, .int 0, .int 0, .int 0])), (q5_1, .inr (6, [.ref (u9_2.1 0), .int 0])), (u9_2.1 0, .inl (k 1, 1000, .inl (fun _ => 0))), (q16_3, .inr (1, [.int 0, .int 0, .int 0, .int 0, .int 0, .int 0, .int 0, .ref (u20_4.1 0), .ref (u20_4.1 1), .ref (u20_4.1 2), .ref (u20_4.1 3), .ref (u20_4.1 4), .ref (u20_4.1 5), .ref (u20_4.1 6)])), (u20_4.1 0, .inl (k 0, 8, .inl (fun _ => 0))), (u20_4.1 1, .inl (k 0, 8, .inl (fun _ => 0))), (u20_4.1 2, .inl (k 0, 8, .inl (fun _ => 0))), (u20_4.1 3, .inl (k 0, 6, .inl (fun _ => 0))), (u20_4.1 4, .inl (k 0, 6, .inl (fun _ => 0))), (u20_4.1 5, .inl (k 0, 6, .inl (fun _ => 0))), (u20_4.1 6, .inr (5, [.ref (u20_4.1 7), .ref (u20_4.1 8), .ref (u20_4.1 9), .ref (u20_4.1 10), .ref (u20_4.1 11)])), (u20_4.1 7, .inl (k 0, 64, .inl (fun _ => 0))), (u20_4.1 8, .inl (k 0, 8, .inl (fun _ => 0))), (u20_4.1 9, .inl (k 0, 8, .inl (u20_4.2 0))), (u20_4.1 10, .inl (k 0, 3, .inl (fun _ => 0))), (u20_4.1 11, .inl (k 0, 3, .inl (fun _ => 0)))] := hD
  refine W.widen (k := 15) (n := 1149) (Nat.le_of_ble_eq_true rfl) (Nat.le_of_ble_eq_true rfl) ?_
  refine va_putF (D := D) (ci := 2) (v := .ref q16_3) (ty := .object "WheelMemory$Land") (C := RX2) (T := TX2) (N := 8) hx hb hT in_X2 tyX2 tyX2_ok nmX2 hown hK hP hD hS 0 rfl rfl 1 (by decide) (hT _ t274) (fun _ h9 => h9) rfl hin rfl (by decide +kernel) rfl rfl (Nat.le_of_ble_eq_true rfl) dX2_init_23 (fun H locs hP9 hD9 hS9 => ?_)
  clear hP hD hS
  have hS := hS9
  have hP := hP9
  have hD := hD9
  clear hP9 hD9 hS9
  replace hP : va_P D vwCl [(h0, .inr (2, [.ref q5_1, .ref q16_3, .int 0, .int 0, .int 0, .int 0, .int 0, .int 0])), (q5_1, .inr (6, [.ref (u9_2.1 0), .int 0])), (u9_2.1 0, .inl (k 1, 1000, .inl (fun _ => 0))), (q16_3, .inr (1, [.int 0, .int 0, .int 0, .int 0, .int 0, .int 0, .int 0, .ref (u20_4.1 0), .ref (u20_4.1 1), .ref (u20_4.1 2), .ref (u20_4.1 3), .ref (u20_4.1 4), .ref (u20_4.1 5), .ref (u20_4.1 6)])), (u20_4.1 0, .inl (k 0, 8, .inl (fun _ => 0))), (u20_4.1 1, .inl (k 0, 8, .inl (fun _ => 0))), (u20_4.1 2, .inl (k 0, 8, .inl (fun _ => 0))), (u20_4.1 3, .inl (k 0, 6, .inl (fun _ => 0))), (u20_4.1 4, .inl (k 0, 6, .inl (fun _ => 0))), (u20_4.1 5, .inl (k 0, 6, .inl (fun _ => 0))), (u20_4.1 6, .inr (5, [.ref (u20_4.1 7), .ref (u20_4.1 8), .ref (u20_4.1 9), .ref (u20_4.1 10), .ref (u20_4.1 11)])), (u20_4.1 7, .inl (k 0, 64, .inl (fun _ => 0))), (u20_4.1 8, .inl (k 0, 8, .inl (fun _ => 0))), (u20_4.1 9, .inl (k 0, 8, .inl (u20_4.2 0))), (u20_4.1 10, .inl (k 0, 3, .inl (fun _ => 0))), (u20_4.1 11, .inl (k 0, 3, .inl (fun _ => 0)))] H := hP
  replace hD : va_D A [(h0, .inr (2, [.ref q5_1, .ref q16_3, .int 0, .int 0, .int 0, .int 0, .int 0, .int 0])), (q5_1, .inr (6, [.ref (u9_2.1 0), .int 0])), (u9_2.1 0, .inl (k 1, 1000, .inl (fun _ => 0))), (q16_3, .inr (1, [.int 0, .int 0, .int 0, .int 0, .int 0, .int 0, .int 0, .ref (u20_4.1 0), .ref (u20_4.1 1), .ref (u20_4.1 2), .ref (u20_4.1 3), .ref (u20_4.1 4), .ref (u20_4.1 5), .ref (u20_4.1 6)])), (u20_4.1 0, .inl (k 0, 8, .inl (fun _ => 0))), (u20_4.1 1, .inl (k 0, 8, .inl (fun _ => 0))), (u20_4.1 2, .inl (k 0, 8, .inl (fun _ => 0))), (u20_4.1 3, .inl (k 0, 6, .inl (fun _ => 0))), (u20_4.1 4, .inl (k 0, 6, .inl (fun _ => 0))), (u20_4.1 5, .inl (k 0, 6, .inl (fun _ => 0))), (u20_4.1 6, .inr (5, [.ref (u20_4.1 7), .ref (u20_4.1 8), .ref (u20_4.1 9), .ref (u20_4.1 10), .ref (u20_4.1 11)])), (u20_4.1 7, .inl (k 0, 64, .inl (fun _ => 0))), (u20_4.1 8, .inl (k 0, 8, .inl (fun _ => 0))), (u20_4.1 9, .inl (k 0, 8, .inl (u20_4.2 0))), (u20_4.1 10, .inl (k 0, 3, .inl (fun _ => 0))), (u20_4.1 11, .inl (k 0, 3, .inl (fun _ => 0)))] := hD
  refine lv_aload_n hx hb dX2_init_26 rfl (lv_at hl 0 rfl) ?_
  refine lv_iconst (v := (-1)) hx hb dX2_init_27 (by decide) ?_
  refine va_put (D := D) (ci := 2) (v := .int (-1)) (ty := .int) (C := RX2) (T := TX2) (N := 8) hx hb hT in_X2 tyX2 tyX2_ok nmX2 hown hK hP hD hS 0 rfl rfl 3 (by decide) (hT _ t278) (fun _ h9 => h9) rfl (by decide +kernel) rfl rfl (Nat.le_of_ble_eq_true rfl) dX2_init_28 (fun H locs hP9 hD9 hS9 => ?_)
  clear hP hD hS
  have hS := hS9
  have hP := hP9
  have hD := hD9
  clear hP9 hD9 hS9
  replace hP : va_P D vwCl [(h0, .inr (2, [.ref q5_1, .ref q16_3, .int 0, .int (-1), .int 0, .int 0, .int 0, .int 0])), (q5_1, .inr (6, [.ref (u9_2.1 0), .int 0])), (u9_2.1 0, .inl (k 1, 1000, .inl (fun _ => 0))), (q16_3, .inr (1, [.int 0, .int 0, .int 0, .int 0, .int 0, .int 0, .int 0, .ref (u20_4.1 0), .ref (u20_4.1 1), .ref (u20_4.1 2), .ref (u20_4.1 3), .ref (u20_4.1 4), .ref (u20_4.1 5), .ref (u20_4.1 6)])), (u20_4.1 0, .inl (k 0, 8, .inl (fun _ => 0))), (u20_4.1 1, .inl (k 0, 8, .inl (fun _ => 0))), (u20_4.1 2, .inl (k 0, 8, .inl (fun _ => 0))), (u20_4.1 3, .inl (k 0, 6, .inl (fun _ => 0))), (u20_4.1 4, .inl (k 0, 6, .inl (fun _ => 0))), (u20_4.1 5, .inl (k 0, 6, .inl (fun _ => 0))), (u20_4.1 6, .inr (5, [.ref (u20_4.1 7), .ref (u20_4.1 8), .ref (u20_4.1 9), .ref (u20_4.1 10), .ref (u20_4.1 11)])), (u20_4.1 7, .inl (k 0, 64, .inl (fun _ => 0))), (u20_4.1 8, .inl (k 0, 8, .inl (fun _ => 0))), (u20_4.1 9, .inl (k 0, 8, .inl (u20_4.2 0))), (u20_4.1 10, .inl (k 0, 3, .inl (fun _ => 0))), (u20_4.1 11, .inl (k 0, 3, .inl (fun _ => 0)))] H := hP
  replace hD : va_D A [(h0, .inr (2, [.ref q5_1, .ref q16_3, .int 0, .int (-1), .int 0, .int 0, .int 0, .int 0])), (q5_1, .inr (6, [.ref (u9_2.1 0), .int 0])), (u9_2.1 0, .inl (k 1, 1000, .inl (fun _ => 0))), (q16_3, .inr (1, [.int 0, .int 0, .int 0, .int 0, .int 0, .int 0, .int 0, .ref (u20_4.1 0), .ref (u20_4.1 1), .ref (u20_4.1 2), .ref (u20_4.1 3), .ref (u20_4.1 4), .ref (u20_4.1 5), .ref (u20_4.1 6)])), (u20_4.1 0, .inl (k 0, 8, .inl (fun _ => 0))), (u20_4.1 1, .inl (k 0, 8, .inl (fun _ => 0))), (u20_4.1 2, .inl (k 0, 8, .inl (fun _ => 0))), (u20_4.1 3, .inl (k 0, 6, .inl (fun _ => 0))), (u20_4.1 4, .inl (k 0, 6, .inl (fun _ => 0))), (u20_4.1 5, .inl (k 0, 6, .inl (fun _ => 0))), (u20_4.1 6, .inr (5, [.ref (u20_4.1 7), .ref (u20_4.1 8), .ref (u20_4.1 9), .ref (u20_4.1 10), .ref (u20_4.1 11)])), (u20_4.1 7, .inl (k 0, 64, .inl (fun _ => 0))), (u20_4.1 8, .inl (k 0, 8, .inl (fun _ => 0))), (u20_4.1 9, .inl (k 0, 8, .inl (u20_4.2 0))), (u20_4.1 10, .inl (k 0, 3, .inl (fun _ => 0))), (u20_4.1 11, .inl (k 0, 3, .inl (fun _ => 0)))] := hD
  have hP9 := hP.sub (ws' := [(h0, .inr (2, [.ref q5_1, .ref q16_3, .int 0, .int (-1), .int 0, .int 0, .int 0, .int 0])), (q5_1, .inr (6, [.ref (u9_2.1 0), .int 0])), (u9_2.1 0, .inl (k 1, 1000, .inl (fun _ => 0))), (q16_3, .inr (1, [.int 0, .int 0, .int 0, .int 0, .int 0, .int 0, .int 0, .ref (u20_4.1 0), .ref (u20_4.1 1), .ref (u20_4.1 2), .ref (u20_4.1 3), .ref (u20_4.1 4), .ref (u20_4.1 5), .ref (u20_4.1 6)])), (u20_4.1 0, .inl (k 0, 8, .inl (fun _ => 0))), (u20_4.1 1, .inl (k 0, 8, .inl (fun _ => 0))), (u20_4.1 2, .inl (k 0, 8, .inl (fun _ => 0))), (u20_4.1 3, .inl (k 0, 6, .inl (fun _ => 0))), (u20_4.1 4, .inl (k 0, 6, .inl (fun _ => 0))), (u20_4.1 5, .inl (k 0, 6, .inl (fun _ => 0))), (u20_4.1 6, .inr (5, [.ref (u20_4.1 7), .ref (u20_4.1 8), .ref (u20_4.1 9), .ref (u20_4.1 10), .ref (u20_4.1 11)])), (u20_4.1 7, .inl (k 0, 64, .inl (fun _ => 0))), (u20_4.1 8, .inl (k 0, 8, .inl (fun _ => 0))), (u20_4.1 9, .inl (k 0, 8, .inl (u20_4.2 0))), (u20_4.1 10, .inl (k 0, 3, .inl (fun _ => 0))), (u20_4.1 11, .inl (k 0, 3, .inl (fun _ => 0)))]) [0, 1, 2, 3, 4, 5, 6, 7, 8, 9, 10, 11, 12, 13, 14, 15] rfl
  have hD9 := d_sub (ws' := [(h0, .inr (2, [.ref q5_1, .ref q16_3, .int 0, .int (-1), .int 0, .int 0, .int 0, .int 0])), (q5_1, .inr (6, [.ref (u9_2.1 0), .int 0])), (u9_2.1 0, .inl (k 1, 1000, .inl (fun _ => 0))), (q16_3, .inr (1, [.int 0, .int 0, .int 0, .int 0, .int 0, .int 0, .int 0, .ref (u20_4.1 0), .ref (u20_4.1 1), .ref (u20_4.1 2), .ref (u20_4.1 3), .ref (u20_4.1 4), .ref (u20_4.1 5), .ref (u20_4.1 6)])), (u20_4.1 0, .inl (k 0, 8, .inl (fun _ => 0))), (u20_4.1 1, .inl (k 0, 8, .inl (fun _ => 0))), (u20_4.1 2, .inl (k 0, 8, .inl (fun _ => 0))), (u20_4.1 3, .inl (k 0, 6, .inl (fun _ => 0))), (u20_4.1 4, .inl (k 0, 6, .inl (fun _ => 0))), (u20_4.1 5, .inl (k 0, 6, .inl (fun _ => 0))), (u20_4.1 6, .inr (5, [.ref (u20_4.1 7), .ref (u20_4.1 8), .ref (u20_4.1 9), .ref (u20_4.1 10), .ref (u20_4.1 11)])), (u20_4.1 7, .inl (k 0, 64, .inl (fun _ => 0))), (u20_4.1 8, .inl (k 0, 8, .inl (fun _ => 0))), (u20_4.1 9, .inl (k 0, 8, .inl (u20_4.2 0))), (u20_4.1 10, .inl (k 0, 3, .inl (fun _ => 0))), (u20_4.1 11, .inl (k 0, 3, .inl (fun _ => 0)))]) hD [0, 1, 2, 3, 4, 5, 6, 7, 8, 9, 10, 11, 12, 13, 14, 15] (by decide +kernel) rfl
  have hK9 := hK.sub (tys' := []) [] rfl
  exact W.vret hx hb hr (fun t ht hW => ⟨⟨mkU [q5_1, (u9_2.1 0), q16_3, (u20_4.1 0), (u20_4.1 1), (u20_4.1 2), (u20_4.1 3), (u20_4.1 4), (u20_4.1 5), (u20_4.1 6), (u20_4.1 7), (u20_4.1 8), (u20_4.1 9), (u20_4.1 10), (u20_4.1 11)] [(u20_4.2 0)], rfl, trivial, by rw [ht]; exact hP9, va_K.moved hW.alike hK9, by rw [hAe]; exact hD9⟩, by rw [hAe]; exact hS.F ht⟩) hS.2.2 dX2_init_31
set_option maxHeartbeats 4000000 in
set_option maxRecDepth 100000 in
theorem c_X8_init (l : Launch) (D : va_G) (k : Nat → ClassId) (h0 sz : Nat) : Met l yX8_init (.code yX8_init cX8_init 1 none :: TB) (rmw 4 22 358) (va_Pc [.ref h0] (PW D k sz [(h0, .inr (8, [.null, .null, .int 0, .null, .null, .null]))])) (QV D (S := UT) (fun u => True) (fun u => [(h0, .inr (8, [.ref (u.1 0), .ref (u.1 13), .int 0, .ref (u.1 19), .ref (u.1 20), .ref (u.1 21)])), (u.1 0, .inr (1, [.int 0, .int 0, .int 0, .int 0, .int 0, .int 0, .int 0, .ref (u.1 1), .ref (u.1 2), .ref (u.1 3), .ref (u.1 4), .ref (u.1 5), .ref (u.1 6), .ref (u.1 7)])), (u.1 1, .inl (k 0, 8, .inl (fun _ => 0))), (u.1 2, .inl (k 0, 8, .inl (fun _ => 0))), (u.1 3, .inl (k 0, 8, .inl (fun _ => 0))), (u.1 4, .inl (k 0, 6, .inl (fun _ => 0))), (u.1 5, .inl (k 0, 6, .inl (fun _ => 0))), (u.1 6, .inl (k 0, 6, .inl (fun _ => 0))), (u.1 7, .inr (5, [.ref (u.1 8), .ref (u.1 9), .ref (u.1 10), .ref (u.1 11), .ref (u.1 12)])), (u.1 8, .inl (k 0, 64, .inl (fun _ => 0))), (u.1 9, .inl (k 0, 8, .inl (fun _ => 0))), (u.1 10, .inl (k 0, 8, .inl (u.2 0))), (u.1 11, .inl (k 0, 3, .inl (fun _ => 0))), (u.1 12, .inl (k 0, 3, .inl (fun _ => 0))), (u.1 13, .inr (5, [.ref (u.1 14), .ref (u.1 15), .ref (u.1 16), .ref (u.1 17), .ref (u.1 18)])), (u.1 14, .inl (k 0, 64, .inl (fun _ => 0))), (u.1 15, .inl (k 0, 8, .inl (fun _ => 0))), (u.1 16, .inl (k 0, 8, .inl (u.2 1))), (u.1 17, .inl (k 0, 3, .inl (fun _ => 0))), (u.1 18, .inl (k 0, 3, .inl (fun _ => 0))), (u.1 19, .inl (k 0, 40, .inl (fun _ => 0))), (u.1 20, .inl (k 0, 40, .inl (fun _ => 0))), (u.1 21, .inl (k 0, 40, .inl (fun _ => 0)))]) (fun _ => []) [(h0, .inr (8, [.null, .null, .int 0, .null, .null, .null]))] sz) 22 358 (va_A [(h0, .inr (8, [.null, .null, .int 0, .null, .null, .null]))] sz) := by
  refine Met.ofW (cc := cX8_init) (maxL := 1) (ret := none) (by decide) rfl ?_
  intro p e s m args below meth c s₁ B hml hv
  obtain ⟨rfl, hsz, hP, hK, hD0, hN⟩ := hv
  have hx := B.exec
  have hb := B.bytes
  have hr := B.returns
  have hT : ∀ w ∈ TB, w.before ([.ref h0] : List Value).toArray s = true := fun w h => atoms_spec (ws := .code yX8_init cX8_init 1 none :: TB) B.pre w (List.mem_cons_of_mem _ h)
  have hown : s.vm.findClass RX8 = some m.cls := findClass_of_methodNamed B.named
  have S : CallFix p m c cX8_init 1 s _ TB RX8 := ⟨hx, hb, hml, hown, hT⟩
  have hin : meth.name = "<init>" := (name_of_methodNamed B.named B.method).1
  subst hsz
  have hD := hD0.self (sz := s.heap.size)
  generalize hAe : va_A [(h0, .inr (8, [.null, .null, .int 0, .null, .null, .null]))] s.heap.size = A at hD ⊢
  have hA : ∀ q : Nat, s.heap.size ≤ q → A q := fun q h => by rw [← hAe]; exact Or.inr h
  have hS : va_S A s.heap s.heap [] := va_S.rf
  have hP : va_P D vwCl [(h0, .inr (8, [.null, .null, .int 0, .null, .null, .null]))] s.heap := hP
  have hl := lv_entry ([.ref h0]) (n := 1) (Nat.le_of_ble_eq_true rfl)
  rw [lg_entry_eq]
  generalize (lg_sl ([.ref h0]) ++ List.replicate (1 - (lg_sl ([.ref h0])).length) Slot.unset).toArray = ls at hl ⊢
  have hl : lv_has ls 1 [(0, .ref h0)] := hl
  refine lv_aload_n hx hb dX8_init_0 rfl (lv_at hl 0 rfl) ?_
  refine W.objInit hx hb hown (hT _ t306) (hT _ t129) (hT _ t130) rfl (by rw [hml]; exact hl.1) rfl dX8_init_1 (Nat.le_of_ble_eq_true rfl) (Nat.le_of_ble_eq_true rfl) ?_
  refine W.eq (g2 := F0 m 4 ls []) rfl ?_
  refine lv_aload_n hx hb dX8_init_4 rfl (lv_at hl 0 rfl) ?_
  refine va_new (ci := 1) (fs := [.int 0, .int 0, .int 0, .int 0, .int 0, .int 0, .int 0, .null, .null, .null, .null, .null, .null, .null]) (C := RX1) (T := TX1) (N := 14) hx hb hT in_X1 tyX1 tyX1_ok hown (hT _ t307) (hT _ t153) (hT _ t107) hK hP hD hS hA rfl (fun j hj => by rcases (show j = 0 ∨ j = 1 ∨ j = 2 ∨ j = 3 ∨ j = 4 ∨ j = 5 ∨ j = 6 ∨ j = 7 ∨ j = 8 ∨ j = 9 ∨ j = 10 ∨ j = 11 ∨ j = 12 ∨ j = 13 by omega) with rfl | rfl | rfl | rfl | rfl | rfl | rfl | rfl | rfl | rfl | rfl | rfl | rfl | rfl <;> rfl) (Nat.le_of_ble_eq_true rfl) (Nat.le_of_ble_eq_true rfl) dX8_init_5 (fun q5_1 H hP9 hD9 hS9 => ?_)
  clear hP hD hS
  have hS := hS9
  have hP := hP9
  have hD := hD9
  clear hP9 hD9 hS9
  replace hP : va_P D vwCl [(h0, .inr (8, [.null, .null, .int 0, .null, .null, .null])), (q5_1, .inr (1, [.int 0, .int 0, .int 0, .int 0, .int 0, .int 0, .int 0, .null, .null, .null, .null, .null, .null, .null]))] H := hP
  replace hD : va_D A [(h0, .inr (8, [.null, .null, .int 0, .null, .null, .null])), (q5_1, .inr (1, [.int 0, .int 0, .int 0, .int 0, .int 0, .int 0, .int 0, .null, .null, .null, .null, .null, .null, .null]))] := hD
  refine W.widen (k := 1) (n := 14) (Nat.le_of_ble_eq_true rfl) (Nat.le_of_ble_eq_true rfl) ?_
  refine lv_dup hx hb dX8_init_8 rfl ?_
  refine rw_v (wc := [(q5_1, .inr (1, [.int 0, .int 0, .int 0, .int 0, .int 0, .int 0, .int 0, .null, .null, .null, .null, .null, .null, .null]))]) (wr := [(h0, .inr (8, [.null, .null, .int 0, .null, .null, .null]))]) [1] [0] rfl rfl (by decide +kernel) (by decide +kernel) (by decide +kernel) hP hD hS hA (fun hPc hDc => run_IN (C := RX1) (As := []) (rest := [.ref q5_1, .ref h0]) S (c_X1_init l D k q5_1 _) (gdC t156) (hN.1 _ (List.mem_of_getElem? (i := 4) rfl)) t155 t107 rfl ok_X1_init ⟨rfl, rfl, Nat.le_of_ble_eq_true rfl, Nat.le_of_ble_eq_true rfl⟩ (pw_S hK hN hPc hDc) rfl hl.1 rfl (Nat.le_of_ble_eq_true rfl) ⟨Nat.le_of_ble_eq_true rfl, Nat.le_of_ble_eq_true rfl⟩ dX8_init_9) (fun u9_2 H locs hu9_2 hKu9_2 hP9 hD9 hS9 => ?_)
  clear hP hD hS
  have hS := hS9
  have hP := hP9
  have hD := hD9
  clear hP9 hD9 hS9
  replace hP : va_P D vwCl [(h0, .inr (8, [.null, .null, .int 0, .null, .null, .null])), (q5_1, .inr (1, [.int 0, .int 0, .int 0, .int 0, .int 0, .int 0, .int 0, .ref (u9_2.1 0), .ref (u9_2.1 1), .ref (u9_2.1 2), .ref (u9_2.1 3), .ref (u9_2.1 4), .ref (u9_2.1 5), .ref (u9_2.1 6)])), (u9_2.1 0, .inl (k 0, 8, .inl (fun _ => 0))), (u9_2.1 1, .inl (k 0, 8, .inl (fun _ => 0))), (u9_2.1 2, .inl (k 0, 8, .inl (fun _ => 0))), (u9_2.1 3, .inl (k 0, 6, .inl (fun _ => 0))), (u9_2.1 4, .inl (k 0, 6, .inl (fun _ => 0))), (u9_2.1 5, .inl (k 0, 6, .inl (fun _ => 0))), (u9_2.1 6, .inr (5, [.ref (u9_2.1 7), .ref (u9_2.1 8), .ref (u9_2.1 9), .ref (u9_2.1 10), .ref (u9_2.1 11)])), (u9_2.1 7, .inl (k 0, 64, .inl (fun _ => 0))), (u9_2.1 8, .inl (k 0, 8, .inl (fun _ => 0))), (u9_2.1 9, .inl (k 0, 8, .inl (u9_2.2 0))), (u9_2.1 10, .inl (k 0, 3, .inl (fun _ => 0))), (u9_2.1 11, .inl (k 0, 3, .inl (fun _ => 0)))] H := hP
  replace hD : va_D A [(h0, .inr (8, [.null, .null, .int 0, .null, .null, .null])), (q5_1, .inr (1, [.int 0, .int 0, .int 0, .int 0, .int 0, .int 0, .int 0, .ref (u9_2.1 0), .ref (u9_2.1 1), .ref (u9_2.1 2), .ref (u9_2.1 3), .ref (u9_2.1 4), .ref (u9_2.1 5), .ref (u9_2.1 6)])), (u9_2.1 0, .inl (k 0, 8, .inl (fun _ => 0))), (u9_2.1 1, .inl (k 0, 8, .inl (fun _ => 0))), (u9_2.1 2, .inl (k 0, 8, .inl (fun _ => 0))), (u9_2.1 3, .inl (k 0, 6, .inl (fun _ => 0))), (u9_2.1 4, .inl (k 0, 6, .inl (fun _ => 0))), (u9_2.1 5, .inl (k 0, 6, .inl (fun _ => 0))), (u9_2.1 6, .inr (5, [.ref (u9_2.1 7), .ref (u9_2.1 8), .ref (u9_2.1 9), .ref (u9_2.1 10), .ref (u9_2.1 11)])), (u9_2.1 7, .inl (k 0, 64, .inl (fun _ => 0))), (u9_2.1 8, .inl (k 0, 8, .inl (fun _ => 0))), (u9_2.1 9, .inl (k 0, 8, .inl (u9_2.2 0))), (u9_2.1 10, .inl (k 0, 3, .inl (fun _ => 0))), (u9_2.1 11, .inl (k 0, 3, .inl (fun _ => 0)))] := hD
  refine W.widen (k := 13) (n := 147) (Nat.le_of_ble_eq_true rfl) (Nat.le_of_ble_eq_true rfl) ?_
  refine va_putF (D := D) (ci := 8) (v := .ref q5_1) (ty := .object "WheelMemory$Land") (C := RX8) (T := TX8) (N := 6) hx hb hT in_X8 tyX8 tyX8_ok nmX8 hown hK hP hD hS 0 rfl rfl 0 (by decide) (hT _ t311) (fun _ h9 => h9) rfl hin rfl (by decide +kernel) rfl rfl (Nat.le_of_ble_eq_true rfl) dX8_init_12 (fun H locs hP9 hD9 hS9 => ?_)
  clear hP hD hS
  have hS := hS9
  have hP := hP9
  have hD := hD9
  clear hP9 hD9 hS9
  replace hP : va_P D vwCl [(h0, .inr (8, [.ref q5_1, .null, .int 0, .null, .null, .null])), (q5_1, .inr (1, [.int 0, .int 0, .int 0, .int 0, .int 0, .int 0, .int 0, .ref (u9_2.1 0), .ref (u9_2.1 1), .ref (u9_2.1 2), .ref (u9_2.1 3), .ref (u9_2.1 4), .ref (u9_2.1 5), .ref (u9_2.1 6)])), (u9_2.1 0, .inl (k 0, 8, .inl (fun _ => 0))), (u9_2.1 1, .inl (k 0, 8, .inl (fun _ => 0))), (u9_2.1 2, .inl (k 0, 8, .inl (fun _ => 0))), (u9_2.1 3, .inl (k 0, 6, .inl (fun _ => 0))), (u9_2.1 4, .inl (k 0, 6, .inl (fun _ => 0))), (u9_2.1 5, .inl (k 0, 6, .inl (fun _ => 0))), (u9_2.1 6, .inr (5, [.ref (u9_2.1 7), .ref (u9_2.1 8), .ref (u9_2.1 9), .ref (u9_2.1 10), .ref (u9_2.1 11)])), (u9_2.1 7, .inl (k 0, 64, .inl (fun _ => 0))), (u9_2.1 8, .inl (k 0, 8, .inl (fun _ => 0))), (u9_2.1 9, .inl (k 0, 8, .inl (u9_2.2 0))), (u9_2.1 10, .inl (k 0, 3, .inl (fun _ => 0))), (u9_2.1 11, .inl (k 0, 3, .inl (fun _ => 0)))] H := hP
  replace hD : va_D A [(h0, .inr (8, [.ref q5_1, .null, .int 0, .null, .null, .null])), (q5_1, .inr (1, [.int 0, .int 0, .int 0, .int 0, .int 0, .int 0, .int 0, .ref (u9_2.1 0), .ref (u9_2.1 1), .ref (u9_2.1 2), .ref (u9_2.1 3), .ref (u9_2.1 4), .ref (u9_2.1 5), .ref (u9_2.1 6)])), (u9_2.1 0, .inl (k 0, 8, .inl (fun _ => 0))), (u9_2.1 1, .inl (k 0, 8, .inl (fun _ => 0))), (u9_2.1 2, .inl (k 0, 8, .inl (fun _ => 0))), (u9_2.1 3, .inl (k 0, 6, .inl (fun _ => 0))), (u9_2.1 4, .inl (k 0, 6, .inl (fun _ => 0))), (u9_2.1 5, .inl (k 0, 6, .inl (fun _ => 0))), (u9_2.1 6, .inr (5, [.ref (u9_2.1 7), .ref (u9_2.1 8), .ref (u9_2.1 9), .ref (u9_2.1 10), .ref (u9_2.1 11)])), (u9_2.1 7, .inl (k 0, 64, .inl (fun _ => 0))), (u9_2.1 8, .inl (k 0, 8, .inl (fun _ => 0))), (u9_2.1 9, .inl (k 0, 8, .inl (u9_2.2 0))), (u9_2.1 10, .inl (k 0, 3, .inl (fun _ => 0))), (u9_2.1 11, .inl (k 0, 3, .inl (fun _ => 0)))] := hD
  refine lv_aload_n hx hb dX8_init_15 rfl (lv_at hl 0 rfl) ?_
  refine va_new (ci := 5) (fs := [.null, .null, .null, .null, .null]) (C := RX5) (T := TX5) (N := 5) hx hb hT in_X5 tyX5 tyX5_ok hown (hT _ t309) (hT _ t159) (hT _ t108) hK hP hD hS hA rfl (fun j hj => by rcases (show j = 0 ∨ j = 1 ∨ j = 2 ∨ j = 3 ∨ j = 4 by omega) with rfl | rfl | rfl | rfl | rfl <;> rfl) (Nat.le_of_ble_eq_true rfl) (Nat.le_of_ble_eq_true rfl) dX8_init_16 (fun q16_3 H hP9 hD9 hS9 => ?_)
  clear hP hD hS
  have hS := hS9
  have hP := hP9
  have hD := hD9
  clear hP9 hD9 hS9
  replace hP : va_P D vwCl [(h0, .inr (8, [.ref q5_1, .null, .int 0, .null, .null, .null])), (q5_1, .inr (1, [.int 0, .int 0, .int 0, .int 0, .int 0, .int 0, .int 0, .ref (u9_2.1 0), .ref (u9_2.1 1), .ref (u9_2.1 2), .ref (u9_2.1 3), .ref (u9_2.1 4), .ref (u9_2.1 5), .ref (u9_2.1 6)])), (u9_2.1 0, .inl (k 0, 8, .inl (fun _ => 0))), (u9_2.1 1, .inl (k 0, 8, .inl (fun _ => 0))), (u9_2.1 2, .inl (k 0, 8, .inl (fun _ => 0))), (u9_2.1 3, .inl (k 0, 6, .inl (fun _ => 0))), (u9_2.1 4, .inl (k 0, 6, .inl (fun _ => 0))), (u9_2.1 5, .inl (k 0, 6, .inl (fun _ => 0))), (u9_2.1 6, .inr (5, [.ref (u9_2.1 7), .ref (u9_2.1 8), .ref (u9_2.1 9), .ref (u9_2.1 10), .ref (u9_2.1 11)])), (u9_2.1 7, .inl (k 0, 64, .inl (fun _ => 0))), (u9_2.1 8, .inl (k 0, 8, .inl (fun _ => 0))), (u9_2.1 9, .inl (k 0, 8, .inl (u9_2.2 0))), (u9_2.1 10, .inl (k 0, 3, .inl (fun _ => 0))), (u9_2.1 11, .inl (k 0, 3, .inl (fun _ => 0))), (q16_3, .inr (5, [.null, .null, .null, .null, .null]))] H := hP
  replace hD : va_D A [(h0, .inr (8, [.ref q5_1, .null, .int 0, .null, .null, .null])), (q5_1, .inr (1, [.int 0, .int 0, .int 0, .int 0, .int 0, .int 0, .int 0, .ref (u9_2.1 0), .ref (u9_2.1 1), .ref (u9_2.1 2), .ref (u9_2.1 3), .ref (u9_2.1 4), .ref (u9_2.1 5), .ref (u9_2.1 6)])), (u9_2.1 0, .inl (k 0, 8, .inl (fun _ => 0))), (u9_2.1 1, .inl (k 0, 8, .inl (fun _ => 0))), (u9_2.1 2, .inl (k 0, 8, .inl (fun _ => 0))), (u9_2.1 3, .inl (k 0, 6, .inl (fun _ => 0))), (u9_2.1 4, .inl (k 0, 6, .inl (fun _ => 0))), (u9_2.1 5, .inl (k 0, 6, .inl (fun _ => 0))), (u9_2.1 6, .inr (5, [.ref (u9_2.1 7), .ref (u9_2.1 8), .ref (u9_2.1 9), .ref (u9_2.1 10), .ref (u9_2.1 11)])), (u9_2.1 7, .inl (k 0, 64, .inl (fun _ => 0))), (u9_2.1 8, .inl (k 0, 8, .inl (fun _ => 0))), (u9_2.1 9, .inl (k 0, 8, .inl (u9_2.2 0))), (u9_2.1 10, .inl (k 0, 3, .inl (fun _ => 0))), (u9_2.1 11, .inl (k 0, 3, .inl (fun _ => 0))), (q16_3, .inr (5, [.null, .null, .null, .null, .null]))] := hD
  refine W.widen (k := 14) (n := 152) (Nat.le_of_ble_eq_true rfl) (Nat.le_of_ble_eq_true rfl) ?_
  refine lv_dup hx hb dX8_init_19 rfl ?_
  refine rw_v (wc := [(q16_3, .inr (5, [.null, .null, .null, .null, .null]))]) (wr := [(h0, .inr (8, [.ref q5_1, .null, .int 0, .null, .null, .null])), (q5_1, .inr (1, [.int 0, .int 0, .int 0, .int 0, .int 0, .int 0, .int 0, .ref (u9_2.1 0), .ref (u9_2.1 1), .ref (u9_2.1 2), .ref (u9_2.1 3), .ref (u9_2.1 4), .ref (u9_2.1 5), .ref (u9_2.1 6)])), (u9_2.1 0, .inl (k 0, 8, .inl (fun _ => 0))), (u9_2.1 1, .inl (k 0, 8, .inl (fun _ => 0))), (u9_2.1 2, .inl (k 0, 8, .inl (fun _ => 0))), (u9_2.1 3, .inl (k 0, 6, .inl (fun _ => 0))), (u9_2.1 4, .inl (k 0, 6, .inl (fun _ => 0))), (u9_2.1 5, .inl (k 0, 6, .inl (fun _ => 0))), (u9_2.1 6, .inr (5, [.ref (u9_2.1 7), .ref (u9_2.1 8), .ref (u9_2.1 9), .ref (u9_2.1 10), .ref (u9_2.1 11)])), (u9_2.1 7, .inl (k 0, 64, .inl (fun _ => 0))), (u9_2.1 8, .inl (k 0, 8, .inl (fun _ => 0))), (u9_2.1 9, .inl (k 0, 8, .inl (u9_2.2 0))), (u9_2.1 10, .inl (k 0, 3, .inl (fun _ => 0))), (u9_2.1 11, .inl (k 0, 3, .inl (fun _ => 0)))]) [14] [0, 1, 2, 3, 4, 5, 6, 7, 8, 9, 10, 11, 12, 13] rfl rfl (by decide +kernel) (by decide +kernel) (by decide +kernel) hP hD hS hA (fun hPc hDc => run_I (C := RX5) (As := []) (rest := [.ref q16_3, .ref h0]) S (c_X5_init l D k q16_3 _) (gdC t162) t310 t161 t108 rfl ok_X5_init ⟨rfl, rfl, Nat.le_of_ble_eq_true rfl, Nat.le_of_ble_eq_true rfl⟩ (pw_S hK hN hPc hDc) rfl hl.1 rfl (Nat.le_of_ble_eq_true rfl) ⟨Nat.le_of_ble_eq_true rfl, Nat.le_of_ble_eq_true rfl⟩ dX8_init_20) (fun u20_4 H locs hu20_4 hKu20_4 hP9 hD9 hS9 => ?_)
  clear hP hD hS
  have hS := hS9
  have hP := hP9
  have hD := hD9
  clear hP9 hD9 hS9
  replace hP : va_P D vwCl [(h0, .inr (8, [.ref q5_1, .null, .int 0, .null, .null, .null])), (q5_1, .inr (1, [.int 0, .int 0, .int 0, .int 0, .int 0, .int 0, .int 0, .ref (u9_2.1 0), .ref (u9_2.1 1), .ref (u9_2.1 2), .ref (u9_2.1 3), .ref (u9_2.1 4), .ref (u9_2.1 5), .ref (u9_2.1 6)])), (u9_2.1 0, .inl (k 0, 8, .inl (fun _ => 0))), (u9_2.1 1, .inl (k 0, 8, .inl (fun _ => 0))), (u9_2.1 2, .inl (k 0, 8, .inl (fun _ => 0))), (u9_2.1 3, .inl (k 0, 6, .inl (fun _ => 0))), (u9_2.1 4, .inl (k 0, 6, .inl (fun _ => 0))), (u9_2.1 5, .inl (k 0, 6, .inl (fun _ => 0))), (u9_2.1 6, .inr (5, [.ref (u9_2.1 7), .ref (u9_2.1 8), .ref (u9_2.1 9), .ref (u9_2.1 10), .ref (u9_2.1 11)])), (u9_2.1 7, .inl (k 0, 64, .inl (fun _ => 0))), (u9_2.1 8, .inl (k 0, 8, .inl (fun _ => 0))), (u9_2.1 9, .inl (k 0, 8, .inl (u9_2.2 0))), (u9_2.1 10, .inl (k 0, 3, .inl (fun _ => 0))), (u9_2.1 11, .inl (k 0, 3, .inl (fun _ => 0))), (q16_3, .inr (5, [.ref (u20_4.1 0), .ref (u20_4.1 1), .ref (u20_4.1 2), .ref (u20_4.1 3), .ref (u20_4.1 4)])), (u20_4.1 0, .inl (k 0, 64, .inl (fun _ => 0))), (u20_4.1 1, .inl (k 0, 8, .inl (fun _ => 0))), (u20_4.1 2, .inl (k 0, 8, .inl (u20_4.2 0))), (u20_4.1 3, .inl (k 0, 3, .inl (fun _ => 0))), (u20_4.1 4, .inl (k 0, 3, .inl (fun _ => 0)))] H := hP
  replace hD : va_D A [(h0, .inr (8, [.ref q5_1, .null, .int 0, .null, .null, .null])), (q5_1, .inr (1, [.int 0, .int 0, .int 0, .int 0, .int 0, .int 0, .int 0, .ref (u9_2.1 0), .ref (u9_2.1 1), .ref (u9_2.1 2), .ref (u9_2.1 3), .ref (u9_2.1 4), .ref (u9_2.1 5), .ref (u9_2.1 6)])), (u9_2.1 0, .inl (k 0, 8, .inl (fun _ => 0))), (u9_2.1 1, .inl (k 0, 8, .inl (fun _ => 0))), (u9_2.1 2, .inl (k 0, 8, .inl (fun _ => 0))), (u9_2.1 3, .inl (k 0, 6, .inl (fun _ => 0))), (u9_2.1 4, .inl (k 0, 6, .inl (fun _ => 0))), (u9_2.1 5, .inl (k 0, 6, .inl (fun _ => 0))), (u9_2.1 6, .inr (5, [.ref (u9_2.1 7), .ref (u9_2.1 8), .ref (u9_2.1 9), .ref (u9_2.1 10), .ref (u9_2.1 11)])), (u9_2.1 7, .inl (k 0, 64, .inl (fun _ => 0))), (u9_2.1 8, .inl (k 0, 8, .inl (fun _ => 0))), (u9_2.1 9, .inl (k 0, 8, .inl (u9_2.2 0))), (u9_2.1 10, .inl (k 0, 3, .inl (fun _ => 0))), (u9_2.1 11, .inl (k 0, 3, .inl (fun _ => 0))), (q16_3, .inr (5, [.ref (u20_4.1 0), .ref (u20_4.1 1), .ref (u20_4.1 2), .ref (u20_4.1 3), .ref (u20_4.1 4)])), (u20_4.1 0, .inl (k 0, 64, .inl (fun _ => 0))), (u20_4.1 1, .inl (k 0, 8, .inl (fun _ => 0))), (u20_4.1 2, .inl (k 0, 8, .inl (u20_4.2 0))), (u20_4.1 3, .inl (k 0, 3, .inl (fun _ => 0))), (u20_4.1 4, .inl (k 0, 3, .inl (fun _ => 0)))] := hD
  refine W.widen (k := 19) (n := 238) (Nat.le_of_ble_eq_true rfl) (Nat.le_of_ble_eq_true rfl) ?_
  refine va_putF (D := D) (ci := 8) (v := .ref q16_3) (ty := .object "WheelMemory$State") (C := RX8) (T := TX8) (N := 6) hx hb hT in_X8 tyX8 tyX8_ok nmX8 hown hK hP hD hS 0 rfl rfl 1 (by decide) (hT _ t313) (fun _ h9 => h9) rfl hin rfl (by decide +kernel) rfl rfl (Nat.le_of_ble_eq_true rfl) dX8_init_23 (fun H locs hP9 hD9 hS9 => ?_)
  clear hP hD hS
  have hS := hS9
  have hP := hP9
  have hD := hD9
  clear hP9 hD9 hS9
  replace hP : va_P D vwCl [(h0, .inr (8, [.ref q5_1, .ref q16_3, .int 0, .null, .null, .null])), (q5_1, .inr (1, [.int 0, .int 0, .int 0, .int 0, .int 0, .int 0, .int 0, .ref (u9_2.1 0), .ref (u9_2.1 1), .ref (u9_2.1 2), .ref (u9_2.1 3), .ref (u9_2.1 4), .ref (u9_2.1 5), .ref (u9_2.1 6)])), (u9_2.1 0, .inl (k 0, 8, .inl (fun _ => 0))), (u9_2.1 1, .inl (k 0, 8, .inl (fun _ => 0))), (u9_2.1 2, .inl (k 0, 8, .inl (fun _ => 0))), (u9_2.1 3, .inl (k 0, 6, .inl (fun _ => 0))), (u9_2.1 4, .inl (k 0, 6, .inl (fun _ => 0))), (u9_2.1 5, .inl (k 0, 6, .inl (fun _ => 0))), (u9_2.1 6, .inr (5, [.ref (u9_2.1 7), .ref (u9_2.1 8), .ref (u9_2.1 9), .ref (u9_2.1 10), .ref (u9_2.1 11)])), (u9_2.1 7, .inl (k 0, 64, .inl (fun _ => 0))), (u9_2.1 8, .inl (k 0, 8, .inl (fun _ => 0))), (u9_2.1 9, .inl (k 0, 8, .inl (u9_2.2 0))), (u9_2.1 10, .inl (k 0, 3, .inl (fun _ => 0))), (u9_2.1 11, .inl (k 0, 3, .inl (fun _ => 0))), (q16_3, .inr (5, [.ref (u20_4.1 0), .ref (u20_4.1 1), .ref (u20_4.1 2), .ref (u20_4.1 3), .ref (u20_4.1 4)])), (u20_4.1 0, .inl (k 0, 64, .inl (fun _ => 0))), (u20_4.1 1, .inl (k 0, 8, .inl (fun _ => 0))), (u20_4.1 2, .inl (k 0, 8, .inl (u20_4.2 0))), (u20_4.1 3, .inl (k 0, 3, .inl (fun _ => 0))), (u20_4.1 4, .inl (k 0, 3, .inl (fun _ => 0)))] H := hP
  replace hD : va_D A [(h0, .inr (8, [.ref q5_1, .ref q16_3, .int 0, .null, .null, .null])), (q5_1, .inr (1, [.int 0, .int 0, .int 0, .int 0, .int 0, .int 0, .int 0, .ref (u9_2.1 0), .ref (u9_2.1 1), .ref (u9_2.1 2), .ref (u9_2.1 3), .ref (u9_2.1 4), .ref (u9_2.1 5), .ref (u9_2.1 6)])), (u9_2.1 0, .inl (k 0, 8, .inl (fun _ => 0))), (u9_2.1 1, .inl (k 0, 8, .inl (fun _ => 0))), (u9_2.1 2, .inl (k 0, 8, .inl (fun _ => 0))), (u9_2.1 3, .inl (k 0, 6, .inl (fun _ => 0))), (u9_2.1 4, .inl (k 0, 6, .inl (fun _ => 0))), (u9_2.1 5, .inl (k 0, 6, .inl (fun _ => 0))), (u9_2.1 6, .inr (5, [.ref (u9_2.1 7), .ref (u9_2.1 8), .ref (u9_2.1 9), .ref (u9_2.1 10), .ref (u9_2.1 11)])), (u9_2.1 7, .inl (k 0, 64, .inl (fun _ => 0))), (u9_2.1 8, .inl (k 0, 8, .inl (fun _ => 0))), (u9_2.1 9, .inl (k 0, 8, .inl (u9_2.2 0))), (u9_2.1 10, .inl (k 0, 3, .inl (fun _ => 0))), (u9_2.1 11, .inl (k 0, 3, .inl (fun _ => 0))), (q16_3, .inr (5, [.ref (u20_4.1 0), .ref (u20_4.1 1), .ref (u20_4.1 2), .ref (u20_4.1 3), .ref (u20_4.1 4)])), (u20_4.1 0, .inl (k 0, 64, .inl (fun _ => 0))), (u20_4.1 1, .inl (k 0, 8, .inl (fun _ => 0))), (u20_4.1 2, .inl (k 0, 8, .inl (u20_4.2 0))), (u20_4.1 3, .inl (k 0, 3, .inl (fun _ => 0))), (u20_4.1 4, .inl (k 0, 3, .inl (fun _ => 0)))] := hD
  refine lv_aload_n hx hb dX8_init_26 rfl (lv_at hl 0 rfl) ?_
  refine lv_bipush (v := 40) hx hb dX8_init_27 (by decide) ?_
  refine n_newa (atype := .int) (ty := .int) (cT := k 0) (N' := 40) (a0 := (40, .inl (fun _ => 0))) 0 ra_int rfl hx hb (hT _ t194) rfl hK hP hD hS hA (fun _ => rfl) (by decide) (by decide) (Nat.le_of_ble_eq_true rfl) (Nat.le_of_ble_eq_true rfl) (Nat.le_of_ble_eq_true rfl) dX8_init_29 (fun q29_5 H hP9 hD9 hS9 => ?_)
  clear hP hD hS
  have hS := hS9
  have hP := hP9
  have hD := hD9
  clear hP9 hD9 hS9
  replace hP : va_P D vwCl [(h0, .inr (8, [.ref q5_1, .ref q16_3, .int 0, .null, .null, .null])), (q5_1, .inr (1, [.int 0, .int 0, .int 0, .int 0, .int 0, .int 0, .int 0, .ref (u9_2.1 0), .ref (u9_2.1 1), .ref (u9_2.1 2), .ref (u9_2.1 3), .ref (u9_2.1 4), .ref (u9_2.1 5), .ref (u9_2.1 6)])), (u9_2.1 0, .inl (k 0, 8, .inl (fun _ => 0))), (u9_2.1 1, .inl (k 0, 8, .inl (fun _ => 0))), (u9_2.1 2, .inl (k 0, 8, .inl (fun _ => 0))), (u9_2.1 3, .inl (k 0, 6, .inl (fun _ => 0))), (u9_2.1 4, .inl (k 0, 6, .inl (fun _ => 0))), (u9_2.1 5, .inl (k 0, 6, .inl (fun _ => 0))), (u9_2.1 6, .inr (5, [.ref (u9_2.1 7), .ref (u9_2.1 8), .ref (u9_2.1 9), .ref (u9_2.1 10), .ref (u9_2.1 11)])), (u9_2.1 7, .inl (k 0, 64, .inl (fun _ => 0))), (u9_2.1 8, .inl (k 0, 8, .inl (fun _ => 0))), (u9_2.1 9, .inl (k 0, 8, .inl (u9_2.2 0))), (u9_2.1 10, .inl (k 0, 3, .inl (fun _ => 0))), (u9_2.1 11, .inl (k 0, 3, .inl (fun _ => 0))), (q16_3, .inr (5, [.ref (u20_4.1 0), .ref (u20_4.1 1), .ref (u20_4.1 2), .ref (u20_4.1 3), .ref (u20_4.1 4)])), (u20_4.1 0, .inl (k 0, 64, .inl (fun _ => 0))), (u20_4.1 1, .inl (k 0, 8, .inl (fun _ => 0))), (u20_4.1 2, .inl (k 0, 8, .inl (u20_4.2 0))), (u20_4.1 3, .inl (k 0, 3, .inl (fun _ => 0))), (u20_4.1 4, .inl (k 0, 3, .inl (fun _ => 0))), (q29_5, .inl (k 0, 40, .inl (fun _ => 0)))] H := hP
  replace hD : va_D A [(h0, .inr (8, [.ref q5_1, .ref q16_3, .int 0, .null, .null, .null])), (q5_1, .inr (1, [.int 0, .int 0, .int 0, .int 0, .int 0, .int 0, .int 0, .ref (u9_2.1 0), .ref (u9_2.1 1), .ref (u9_2.1 2), .ref (u9_2.1 3), .ref (u9_2.1 4), .ref (u9_2.1 5), .ref (u9_2.1 6)])), (u9_2.1 0, .inl (k 0, 8, .inl (fun _ => 0))), (u9_2.1 1, .inl (k 0, 8, .inl (fun _ => 0))), (u9_2.1 2, .inl (k 0, 8, .inl (fun _ => 0))), (u9_2.1 3, .inl (k 0, 6, .inl (fun _ => 0))), (u9_2.1 4, .inl (k 0, 6, .inl (fun _ => 0))), (u9_2.1 5, .inl (k 0, 6, .inl (fun _ => 0))), (u9_2.1 6, .inr (5, [.ref (u9_2.1 7), .ref (u9_2.1 8), .ref (u9_2.1 9), .ref (u9_2.1 10), .ref (u9_2.1 11)])), (u9_2.1 7, .inl (k 0, 64, .inl (fun _ => 0))), (u9_2.1 8, .inl (k 0, 8, .inl (fun _ => 0))), (u9_2.1 9, .inl (k 0, 8, .inl (u9_2.2 0))), (u9_2.1 10, .inl (k 0, 3, .inl (fun _ => 0))), (u9_2.1 11, .inl (k 0, 3, .inl (fun _ => 0))), (q16_3, .inr (5, [.ref (u20_4.1 0), .ref (u20_4.1 1), .ref (u20_4.1 2), .ref (u20_4.1 3), .ref (u20_4.1 4)])), (u20_4.1 0, .inl (k 0, 64, .inl (fun _ => 0))), (u20_4.1 1, .inl (k 0, 8, .inl (fun _ => 0))), (u20_4.1 2, .inl (k 0, 8, .inl (u20_4.2 0))), (u20_4.1 3, .inl (k 0, 3, .inl (fun _ => 0))), (u20_4.1 4, .inl (k 0, 3, .inl (fun _ => 0))), (q29_5, .inl (k 0, 40, .inl (fun _ => 0)))] := hD
  refine W.widen (k := 20) (n := 278) (Nat.le_of_ble_eq_true rfl) (Nat.le_of_ble_eq_true rfl) ?_
  refine va_putF (D := D) (ci := 8) (v := .ref q29_5) (ty := .array .int) (C := RX8) (T := TX8) (N := 6) hx hb hT in_X8 tyX8 tyX8_ok nmX8 hown hK hP hD hS 0 rfl rfl 3 (by decide) (hT _ t317) (fun _ h9 => h9) rfl hin rfl (by decide +kernel) rfl rfl (Nat.le_of_ble_eq_true rfl) dX8_init_31 (fun H locs hP9 hD9 hS9 => ?_)
  clear hP hD hS
  have hS := hS9
  have hP := hP9
  have hD := hD9
  clear hP9 hD9 hS9
  replace hP : va_P D vwCl [(h0, .inr (8, [.ref q5_1, .ref q16_3, .int 0, .ref q29_5, .null, .null])), (q5_1, .inr (1, [.int 0, .int 0, .int 0, .int 0, .int 0, .int 0, .int 0, .ref (u9_2.1 0), .ref (u9_2.1 1), .ref (u9_2.1 2), .ref (u9_2.1 3), .ref (u9_2.1 4), .ref (u9_2.1 5), .ref (u9_2.1 6)])), (u9_2.1 0, .inl (k 0, 8, .inl (fun _ => 0))), (u9_2.1 1, .inl (k 0, 8, .inl (fun _ => 0))), (u9_2.1 2, .inl (k 0, 8, .inl (fun _ => 0))), (u9_2.1 3, .inl (k 0, 6, .inl (fun _ => 0))), (u9_2.1 4, .inl (k 0, 6, .inl (fun _ => 0))), (u9_2.1 5, .inl (k 0, 6, .inl (fun _ => 0))), (u9_2.1 6, .inr (5, [.ref (u9_2.1 7), .ref (u9_2.1 8), .ref (u9_2.1 9), .ref (u9_2.1 10), .ref (u9_2.1 11)])), (u9_2.1 7, .inl (k 0, 64, .inl (fun _ => 0))), (u9_2.1 8, .inl (k 0, 8, .inl (fun _ => 0))), (u9_2.1 9, .inl (k 0, 8, .inl (u9_2.2 0))), (u9_2.1 10, .inl (k 0, 3, .inl (fun _ => 0))), (u9_2.1 11, .inl (k 0, 3, .inl (fun _ => 0))), (q16_3, .inr (5, [.ref (u20_4.1 0), .ref (u20_4.1 1), .ref (u20_4.1 2), .ref (u20_4.1 3), .ref (u20_4.1 4)])), (u20_4.1 0, .inl (k 0, 64, .inl (fun _ => 0))), (u20_4.1 1, .inl (k 0, 8, .inl (fun _ => 0))), (u20_4.1 2, .inl (k 0, 8, .inl (u20_4.2 0))), (u20_4.1 3, .inl (k 0, 3, .inl (fun _ => 0))), (u20_4.1 4, .inl (k 0, 3, .inl (fun _ => 0))), (q29_5, .inl (k 0, 40, .inl (fun _ => 0)))] H := hP
  replace hD : va_D A [(h0, .inr (8, [.ref q5_1, .ref q16_3, .int 0, .ref q29_5, .null, .null])), (q5_1, .inr (1, [.int 0, .int 0, .int 0, .int 0, .int 0, .int 0, .int 0, .ref (u9_2.1 0), .ref (u9_2.1 1), .ref (u9_2.1 2), .ref (u9_2.1 3), .ref (u9_2.1 4), .ref (u9_2.1 5), .ref (u9_2.1 6)])), (u9_2.1 0, .inl (k 0, 8, .inl (fun _ => 0))), (u9_2.1 1, .inl (k 0, 8, .inl (fun _ => 0))), (u9_2.1 2, .inl (k 0, 8, .inl (fun _ => 0))), (u9_2.1 3, .inl (k 0, 6, .inl (fun _ => 0))), (u9_2.1 4, .inl (k 0, 6, .inl (fun _ => 0))), (u9_2.1 5, .inl (k 0, 6, .inl (fun _ => 0))), (u9_2.1 6, .inr (5, [.ref (u9_2.1 7), .ref (u9_2.1 8), .ref (u9_2.1 9), .ref (u9_2.1 10), .ref (u9_2.1 11)])), (u9_2.1 7, .inl (k 0, 64, .inl (fun _ => 0))), (u9_2.1 8, .inl (k 0, 8, .inl (fun _ => 0))), (u9_2.1 9, .inl (k 0, 8, .inl (u9_2.2 0))), (u9_2.1 10, .inl (k 0, 3, .inl (fun _ => 0))), (u9_2.1 11, .inl (k 0, 3, .inl (fun _ => 0))), (q16_3, .inr (5, [.ref (u20_4.1 0), .ref (u20_4.1 1), .ref (u20_4.1 2), .ref (u20_4.1 3), .ref (u20_4.1 4)])), (u20_4.1 0, .inl (k 0, 64, .inl (fun _ => 0))), (u20_4.1 1, .inl (k 0, 8, .inl (fun _ => 0))), (u20_4.1 2, .inl (k 0, 8, .inl (u20_4.2 0))), (u20_4.1 3, .inl (k 0, 3, .inl (fun _ => 0))), (u20_4.1 4, .inl (k 0, 3, .inl (fun _ => 0))), (q29_5, .inl (k 0, 40, .inl (fun _ => 0)))] := hD
  refine lv_aload_n hx hb dX8_init_34 rfl (lv_at hl 0 rfl) ?_
  refine lv_bipush (v := 40) hx hb dX8_init_35 (by decide) ?_
  refine n_newa (atype := .int) (ty := .int) (cT := k 0) (N' := 40) (a0 := (40, .inl (fun _ => 0))) 0 ra_int rfl hx hb (hT _ t194) rfl hK hP hD hS hA (fun _ => rfl) (by decide) (by decide) (Nat.le_of_ble_eq_true rfl) (Nat.le_of_ble_eq_true rfl) (Nat.le_of_ble_eq_true rfl) dX8_init_37 (fun q37_6 H hP9 hD9 hS9 => ?_)
  clear hP hD hS
  have hS := hS9
  have hP := hP9
  have hD := hD9
  clear hP9 hD9 hS9
  replace hP : va_P D vwCl [(h0, .inr (8, [.ref q5_1, .ref q16_3, .int 0, .ref q29_5, .null, .null])), (q5_1, .inr (1, [.int 0, .int 0, .int 0, .int 0, .int 0, .int 0, .int 0, .ref (u9_2.1 0), .ref (u9_2.1 1), .ref (u9_2.1 2), .ref (u9_2.1 3), .ref (u9_2.1 4), .ref (u9_2.1 5), .ref (u9_2.1 6)])), (u9_2.1 0, .inl (k 0, 8, .inl (fun _ => 0))), (u9_2.1 1, .inl (k 0, 8, .inl (fun _ => 0))), (u9_2.1 2, .inl (k 0, 8, .inl (fun _ => 0))), (u9_2.1 3, .inl (k 0, 6, .inl (fun _ => 0))), (u9_2.1 4, .inl (k 0, 6, .inl (fun _ => 0))), (u9_2.1 5, .inl (k 0, 6, .inl (fun _ => 0))), (u9_2.1 6, .inr (5, [.ref (u9_2.1 7), .ref (u9_2.1 8), .ref (u9_2.1 9), .ref (u9_2.1 10), .ref (u9_2.1 11)])), (u9_2.1 7, .inl (k 0, 64, .inl (fun _ => 0))), (u9_2.1 8, .inl (k 0, 8, .inl (fun _ => 0))), (u9_2.1 9, .inl (k 0, 8, .inl (u9_2.2 0))), (u9_2.1 10, .inl (k 0, 3, .inl (fun _ => 0))), (u9_2.1 11, .inl (k 0, 3, .inl (fun _ => 0))), (q16_3, .inr (5, [.ref (u20_4.1 0), .ref (u20_4.1 1), .ref (u20_4.1 2), .ref (u20_4.1 3), .ref (u20_4.1 4)])), (u20_4.1 0, .inl (k 0, 64, .inl (fun _ => 0))), (u20_4.1 1, .inl (k 0, 8, .inl (fun _ => 0))), (u20_4.1 2, .inl (k 0, 8, .inl (u20_4.2 0))), (u20_4.1 3, .inl (k 0, 3, .inl (fun _ => 0))), (u20_4.1 4, .inl (k 0, 3, .inl (fun _ => 0))), (q29_5, .inl (k 0, 40, .inl (fun _ => 0))), (q37_6, .inl (k 0, 40, .inl (fun _ => 0)))] H := hP
  replace hD : va_D A [(h0, .inr (8, [.ref q5_1, .ref q16_3, .int 0, .ref q29_5, .null, .null])), (q5_1, .inr (1, [.int 0, .int 0, .int 0, .int 0, .int 0, .int 0, .int 0, .ref (u9_2.1 0), .ref (u9_2.1 1), .ref (u9_2.1 2), .ref (u9_2.1 3), .ref (u9_2.1 4), .ref (u9_2.1 5), .ref (u9_2.1 6)])), (u9_2.1 0, .inl (k 0, 8, .inl (fun _ => 0))), (u9_2.1 1, .inl (k 0, 8, .inl (fun _ => 0))), (u9_2.1 2, .inl (k 0, 8, .inl (fun _ => 0))), (u9_2.1 3, .inl (k 0, 6, .inl (fun _ => 0))), (u9_2.1 4, .inl (k 0, 6, .inl (fun _ => 0))), (u9_2.1 5, .inl (k 0, 6, .inl (fun _ => 0))), (u9_2.1 6, .inr (5, [.ref (u9_2.1 7), .ref (u9_2.1 8), .ref (u9_2.1 9), .ref (u9_2.1 10), .ref (u9_2.1 11)])), (u9_2.1 7, .inl (k 0, 64, .inl (fun _ => 0))), (u9_2.1 8, .inl (k 0, 8, .inl (fun _ => 0))), (u9_2.1 9, .inl (k 0, 8, .inl (u9_2.2 0))), (u9_2.1 10, .inl (k 0, 3, .inl (fun _ => 0))), (u9_2.1 11, .inl (k 0, 3, .inl (fun _ => 0))), (q16_3, .inr (5, [.ref (u20_4.1 0), .ref (u20_4.1 1), .ref (u20_4.1 2), .ref (u20_4.1 3), .ref (u20_4.1 4)])), (u20_4.1 0, .inl (k 0, 64, .inl (fun _ => 0))), (u20_4.1 1, .inl (k 0, 8, .inl (fun _ => 0))), (u20_4.1 2, .inl (k 0, 8, .inl (u20_4.2 0))), (u20_4.1 3, .inl (k 0, 3, .inl (fun _ => 0))), (u20_4.1 4, .inl (k 0, 3, .inl (fun _ => 0))), (q29_5, .inl (k 0, 40, .inl (fun _ => 0))), (q37_6, .inl (k 0, 40, .inl (fun _ => 0)))] := hD
  refine W.widen (k := 21) (n := 318) (Nat.le_of_ble_eq_true rfl) (Nat.le_of_ble_eq_true rfl) ?_
  refine va_putF (D := D) (ci := 8) (v := .ref q37_6) (ty := .array .int) (C := RX8) (T := TX8) (N := 6) hx hb hT in_X8 tyX8 tyX8_ok nmX8 hown hK hP hD hS 0 rfl rfl 4 (by decide) (hT _ t318) (fun _ h9 => h9) rfl hin rfl (by decide +kernel) rfl rfl (Nat.le_of_ble_eq_true rfl) dX8_init_39 (fun H locs hP9 hD9 hS9 => ?_)
  clear hP hD hS
  have hS := hS9
  have hP := hP9
  have hD := hD9
  clear hP9 hD9 hS9
  replace hP : va_P D vwCl [(h0, .inr (8, [.ref q5_1, .ref q16_3, .int 0, .ref q29_5, .ref q37_6, .null])), (q5_1, .inr (1, [.int 0, .int 0, .int 0, .int 0, .int 0, .int 0, .int 0, .ref (u9_2.1 0), .ref (u9_2.1 1), .ref (u9_2.1 2), .ref (u9_2.1 3), .ref (u9_2.1 4), .ref (u9_2.1 5), .ref (u9_2.1 6)])), (u9_2.1 0, .inl (k 0, 8, .inl (fun _ => 0))), (u9_2.1 1, .inl (k 0, 8, .inl (fun _ => 0))), (u9_2.1 2, .inl (k 0, 8, .inl (fun _ => 0))), (u9_2.1 3, .inl (k 0, 6, .inl (fun _ => 0))), (u9_2.1 4, .inl (k 0, 6, .inl (fun _ => 0))), (u9_2.1 5, .inl (k 0, 6, .inl (fun _ => 0))), (u9_2.1 6, .inr (5, [.ref (u9_2.1 7), .ref (u9_2.1 8), .ref (u9_2.1 9), .ref (u9_2.1 10), .ref (u9_2.1 11)])), (u9_2.1 7, .inl (k 0, 64, .inl (fun _ => 0))), (u9_2.1 8, .inl (k 0, 8, .inl (fun _ => 0))), (u9_2.1 9, .inl (k 0, 8, .inl (u9_2.2 0))), (u9_2.1 10, .inl (k 0, 3, .inl (fun _ => 0))), (u9_2.1 11, .inl (k 0, 3, .inl (fun _ => 0))), (q16_3, .inr (5, [.ref (u20_4.1 0), .ref (u20_4.1 1), .ref (u20_4.1 2), .ref (u20_4.1 3), .ref (u20_4.1 4)])), (u20_4.1 0, .inl (k 0, 64, .inl (fun _ => 0))), (u20_4.1 1, .inl (k 0, 8, .inl (fun _ => 0))), (u20_4.1 2, .inl (k 0, 8, .inl (u20_4.2 0))), (u20_4.1 3, .inl (k 0, 3, .inl (fun _ => 0))), (u20_4.1 4, .inl (k 0, 3, .inl (fun _ => 0))), (q29_5, .inl (k 0, 40, .inl (fun _ => 0))), (q37_6, .inl (k 0, 40, .inl (fun _ => 0)))] H := hP
  replace hD : va_D A [(h0, .inr (8, [.ref q5_1, .ref q16_3, .int 0, .ref q29_5, .ref q37_6, .null])), (q5_1, .inr (1, [.int 0, .int 0, .int 0, .int 0, .int 0, .int 0, .int 0, .ref (u9_2.1 0), .ref (u9_2.1 1), .ref (u9_2.1 2), .ref (u9_2.1 3), .ref (u9_2.1 4), .ref (u9_2.1 5), .ref (u9_2.1 6)])), (u9_2.1 0, .inl (k 0, 8, .inl (fun _ => 0))), (u9_2.1 1, .inl (k 0, 8, .inl (fun _ => 0))), (u9_2.1 2, .inl (k 0, 8, .inl (fun _ => 0))), (u9_2.1 3, .inl (k 0, 6, .inl (fun _ => 0))), (u9_2.1 4, .inl (k 0, 6, .inl (fun _ => 0))), (u9_2.1 5, .inl (k 0, 6, .inl (fun _ => 0))), (u9_2.1 6, .inr (5, [.ref (u9_2.1 7), .ref (u9_2.1 8), .ref (u9_2.1 9), .ref (u9_2.1 10), .ref (u9_2.1 11)])), (u9_2.1 7, .inl (k 0, 64, .inl (fun _ => 0))), (u9_2.1 8, .inl (k 0, 8, .inl (fun _ => 0))), (u9_2.1 9, .inl (k 0, 8, .inl (u9_2.2 0))), (u9_2.1 10, .inl (k 0, 3, .inl (fun _ => 0))), (u9_2.1 11, .inl (k 0, 3, .inl (fun _ => 0))), (q16_3, .inr (5, [.ref (u20_4.1 0), .ref (u20_4.1 1), .ref (u20_4.1 2), .ref (u20_4.1 3), .ref (u20_4.1 4)])), (u20_4.1 0, .inl (k 0, 64, .inl (fun _ => 0))), (u20_4.1 1, .inl (k 0, 8, .inl (fun _ => 0))), (u20_4.1 2, .inl (k 0, 8, .inl (u20_4.2 0))), (u20_4.1 3, .inl (k 0, 3, .inl (fun _ => 0))), (u20_4.1 4, .inl (k 0, 3, .inl (fun _ => 0))), (q29_5, .inl (k 0, 40, .inl (fun _ => 0))), (q37_6, .inl (k 0, 40, .inl (fun _ => 0)))] := hD
  refine lv_aload_n hx hb dX8_init_42 rfl (lv_at hl 0 rfl) ?_
  refine lv_bipush (v := 40) hx hb dX8_init_43 (by decide) ?_
  refine n_newa (atype := .int) (ty := .int) (cT := k 0) (N' := 40) (a0 := (40, .inl (fun _ => 0))) 0 ra_int rfl hx hb (hT _ t194) rfl hK hP hD hS hA (fun _ => rfl) (by decide) (by decide) (Nat.le_of_ble_eq_true rfl) (Nat.le_of_ble_eq_true rfl) (Nat.le_of_ble_eq_true rfl) dX8_init_45 (fun q45_7 H hP9 hD9 hS9 => ?_)
  clear hP hD hS
  have hS := hS9
  have hP := hP9
  have hD := hD9
  clear hP9 hD9 hS9
  replace hP : va_P D vwCl [(h0, .inr (8, [.ref q5_1, .ref q16_3, .int 0, .ref q29_5, .ref q37_6, .null])), (q5_1, .inr (1, [.int 0, .int 0, .int 0, .int 0, .int 0, .int 0, .int 0, .ref (u9_2.1 0), .ref (u9_2.1 1), .ref (u9_2.1 2), .ref (u9_2.1 3), .ref (u9_2.1 4), .ref (u9_2.1 5), .ref (u9_2.1 6)])), (u9_2.1 0, .inl (k 0, 8, .inl (fun _ => 0))), (u9_2.1 1, .inl (k 0, 8, .inl (fun _ => 0))), (u9_2.1 2, .inl (k 0, 8, .inl (fun _ => 0))), (u9_2.1 3, .inl (k 0, 6, .inl (fun _ => 0))), (u9_2.1 4, .inl (k 0, 6, .inl (fun _ => 0))), (u9_2.1 5, .inl (k 0, 6, .inl (fun _ => 0))), (u9_2.1 6, .inr (5, [.ref (u9_2.1 7), .ref (u9_2.1 8), .ref (u9_2.1 9), .ref (u9_2.1 10), .ref (u9_2.1 11)])), (u9_2.1 7, .inl (k 0, 64, .inl (fun _ => 0))), (u9_2.1 8, .inl (k 0, 8, .inl (fun _ => 0))), (u9_2.1 9, .inl (k 0, 8, .inl (u9_2.2 0))), (u9_2.1 10, .inl (k 0, 3, .inl (fun _ => 0))), (u9_2.1 11, .inl (k 0, 3, .inl (fun _ => 0))), (q16_3, .inr (5, [.ref (u20_4.1 0), .ref (u20_4.1 1), .ref (u20_4.1 2), .ref (u20_4.1 3), .ref (u20_4.1 4)])), (u20_4.1 0, .inl (k 0, 64, .inl (fun _ => 0))), (u20_4.1 1, .inl (k 0, 8, .inl (fun _ => 0))), (u20_4.1 2, .inl (k 0, 8, .inl (u20_4.2 0))), (u20_4.1 3, .inl (k 0, 3, .inl (fun _ => 0))), (u20_4.1 4, .inl (k 0, 3, .inl (fun _ => 0))), (q29_5, .inl (k 0, 40, .inl (fun _ => 0))), (q37_6, .inl (k 0, 40, .inl (fun _ => 0))), (q45_7, .inl (k 0, 40, .inl (fun _ => 0)))] H := hP
  replace hD : va_D A [(h0, .inr (8, [.ref q5_1, .ref q16_3, .int 0, .ref q29_5, .ref q37_6, .null])), (q5_1, .inr (1, [.int 0, .int 0, .int 0, .int 0, .int 0, .int 0, .int 0, .ref (u9_2.1 0), .ref (u9_2.1 1), .ref (u9_2.1 2), .ref (u9_2.1 3), .ref (u9_2.1 4), .ref (u9_2.1 5), .ref (u9_2.1 6)])), (u9_2.1 0, .inl (k 0, 8, .inl (fun _ => 0))), (u9_2.1 1, .inl (k 0, 8, .inl (fun _ => 0))), (u9_2.1 2, .inl (k 0, 8, .inl (fun _ => 0))), (u9_2.1 3, .inl (k 0, 6, .inl (fun _ => 0))), (u9_2.1 4, .inl (k 0, 6, .inl (fun _ => 0))), (u9_2.1 5, .inl (k 0, 6, .inl (fun _ => 0))), (u9_2.1 6, .inr (5, [.ref (u9_2.1 7), .ref (u9_2.1 8), .ref (u9_2.1 9), .ref (u9_2.1 10), .ref (u9_2.1 11)])), (u9_2.1 7, .inl (k 0, 64, .inl (fun _ => 0))), (u9_2.1 8, .inl (k 0, 8, .inl (fun _ => 0))), (u9_2.1 9, .inl (k 0, 8, .inl (u9_2.2 0))), (u9_2.1 10, .inl (k 0, 3, .inl (fun _ => 0))), (u9_2.1 11, .inl (k 0, 3, .inl (fun _ => 0))), (q16_3, .inr (5, [.ref (u20_4.1 0), .ref (u20_4.1 1), .ref (u20_4.1 2), .ref (u20_4.1 3), .ref (u20_4.1 4)])), (u20_4.1 0, .inl (k 0, 64, .inl (fun _ => 0))), (u20_4.1 1, .inl (k 0, 8, .inl (fun _ => 0))), (u20_4.1 2, .inl (k 0, 8, .inl (u20_4.2 0))), (u20_4.1 3, .inl (k 0, 3, .inl (fun _ => 0))), (u20_4.1 4, .inl (k 0, 3, .inl (fun _ => 0))), (q29_5, .inl (k 0, 40, .inl (fun _ => 0))), (q37_6, .inl (k 0, 40, .inl (fun _ => 0))), (q45_7, .inl (k 0, 40, .inl (fun _ => 0)))] := hD
  refine W.widen (k := 22) (n := 358) (Nat.le_of_ble_eq_true rfl) (Nat.le_of_ble_eq_true rfl) ?_
  refine va_putF (D := D) (ci := 8) (v := .ref q45_7) (ty := .array .int) (C := RX8) (T := TX8) (N := 6) hx hb hT in_X8 tyX8 tyX8_ok nmX8 hown hK hP hD hS 0 rfl rfl 5 (by decide) (hT _ t319) (fun _ h9 => h9) rfl hin rfl (by decide +kernel) rfl rfl (Nat.le_of_ble_eq_true rfl) dX8_init_47 (fun H locs hP9 hD9 hS9 => ?_)
  clear hP hD hS
  have hS := hS9
  have hP := hP9
  have hD := hD9
  clear hP9 hD9 hS9
  replace hP : va_P D vwCl [(h0, .inr (8, [.ref q5_1, .ref q16_3, .int 0, .ref q29_5, .ref q37_6, .ref q45_7])), (q5_1, .inr (1, [.int 0, .int 0, .int 0, .int 0, .int 0, .int 0, .int 0, .ref (u9_2.1 0), .ref (u9_2.1 1), .ref (u9_2.1 2), .ref (u9_2.1 3), .ref (u9_2.1 4), .ref (u9_2.1 5), .ref (u9_2.1 6)])), (u9_2.1 0, .inl (k 0, 8, .inl (fun _ => 0))), (u9_2.1 1, .inl (k 0, 8, .inl (fun _ => 0))), (u9_2.1 2, .inl (k 0, 8, .inl (fun _ => 0))), (u9_2.1 3, .inl (k 0, 6, .inl (fun _ => 0))), (u9_2.1 4, .inl (k 0, 6, .inl (fun _ => 0))), (u9_2.1 5, .inl (k 0, 6, .inl (fun _ => 0))), (u9_2.1 6, .inr (5, [.ref (u9_2.1 7), .ref (u9_2.1 8), .ref (u9_2.1 9), .ref (u9_2.1 10), .ref (u9_2.1 11)])), (u9_2.1 7, .inl (k 0, 64, .inl (fun _ => 0))), (u9_2.1 8, .inl (k 0, 8, .inl (fun _ => 0))), (u9_2.1 9, .inl (k 0, 8, .inl (u9_2.2 0))), (u9_2.1 10, .inl (k 0, 3, .inl (fun _ => 0))), (u9_2.1 11, .inl (k 0, 3, .inl (fun _ => 0))), (q16_3, .inr (5, [.ref (u20_4.1 0), .ref (u20_4.1 1), .ref (u20_4.1 2), .ref (u20_4.1 3), .ref (u20_4.1 4)])), (u20_4.1 0, .inl (k 0, 64, .inl (fun _ => 0))), (u20_4.1 1, .inl (k 0, 8, .inl (fun _ => 0))), (u20_4.1 2, .inl (k 0, 8, .inl (u20_4.2 0))), (u20_4.1 3, .inl (k 0, 3, .inl (fun _ => 0))), (u20_4.1 4, .inl (k 0, 3, .inl (fun _ => 0))), (q29_5, .inl (k 0, 40, .inl (fun _ => 0))), (q37_6, .inl (k 0, 40, .inl (fun _ => 0))), (q45_7, .inl (k 0, 40, .inl (fun _ => 0)))] H := hP
  replace hD : va_D A [(h0, .inr (8, [.ref q5_1, .ref q16_3, .int 0, .ref q29_5, .ref q37_6, .ref q45_7])), (q5_1, .inr (1, [.int 0, .int 0, .int 0, .int 0, .int 0, .int 0, .int 0, .ref (u9_2.1 0), .ref (u9_2.1 1), .ref (u9_2.1 2), .ref (u9_2.1 3), .ref (u9_2.1 4), .ref (u9_2.1 5), .ref (u9_2.1 6)])), (u9_2.1 0, .inl (k 0, 8, .inl (fun _ => 0))), (u9_2.1 1, .inl (k 0, 8, .inl (fun _ => 0))), (u9_2.1 2, .inl (k 0, 8, .inl (fun _ => 0))), (u9_2.1 3, .inl (k 0, 6, .inl (fun _ => 0))), (u9_2.1 4, .inl (k 0, 6, .inl (fun _ => 0))), (u9_2.1 5, .inl (k 0, 6, .inl (fun _ => 0))), (u9_2.1 6, .inr (5, [.ref (u9_2.1 7), .ref (u9_2.1 8), .ref (u9_2.1 9), .ref (u9_2.1 10), .ref (u9_2.1 11)])), (u9_2.1 7, .inl (k 0, 64, .inl (fun _ => 0))), (u9_2.1 8, .inl (k 0, 8, .inl (fun _ => 0))), (u9_2.1 9, .inl (k 0, 8, .inl (u9_2.2 0))), (u9_2.1 10, .inl (k 0, 3, .inl (fun _ => 0))), (u9_2.1 11, .inl (k 0, 3, .inl (fun _ => 0))), (q16_3, .inr (5, [.ref (u20_4.1 0), .ref (u20_4.1 1), .ref (u20_4.1 2), .ref (u20_4.1 3), .ref (u20_4.1 4)])), (u20_4.1 0, .inl (k 0, 64, .inl (fun _ => 0))), (u20_4.1 1, .inl (k 0, 8, .inl (fun _ => 0))), (u20_4.1 2, .inl (k 0, 8, .inl (u20_4.2 0))), (u20_4.1 3, .inl (k 0, 3, .inl (fun _ => 0))), (u20_4.1 4, .inl (k 0, 3, .inl (fun _ => 0))), (q29_5, .inl (k 0, 40, .inl (fun _ => 0))), (q37_6, .inl (k 0, 40, .inl (fun _ => 0))), (q45_7, .inl (k 0, 40, .inl (fun _ => 0)))] := hD
  have hP9 := hP.sub (ws' := [(h0, .inr (8, [.ref q5_1, .ref q16_3, .int 0, .ref q29_5, .ref q37_6, .ref q45_7])), (q5_1, .inr (1, [.int 0, .int 0, .int 0, .int 0, .int 0, .int 0, .int 0, .ref (u9_2.1 0), .ref (u9_2.1 1), .ref (u9_2.1 2), .ref (u9_2.1 3), .ref (u9_2.1 4), .ref (u9_2.1 5), .ref (u9_2.1 6)])), (u9_2.1 0, .inl (k 0, 8, .inl (fun _ => 0))), (u9_2.1 1, .inl (k 0, 8, .inl (fun _ => 0))), (u9_2.1 2, .inl (k 0, 8, .inl (fun _ => 0))), (u9_2.1 3, .inl (k 0, 6, .inl (fun _ => 0))), (u9_2.1 4, .inl (k 0, 6, .inl (fun _ => 0))), (u9_2.1 5, .inl (k 0, 6, .inl (fun _ => 0))), (u9_2.1 6, .inr (5, [.ref (u9_2.1 7), .ref (u9_2.1 8), .ref (u9_2.1 9), .ref (u9_2.1 10), .ref (u9_2.1 11)])), (u9_2.1 7, .inl (k 0, 64, .inl (fun _ => 0))), (u9_2.1 8, .inl (k 0, 8, .inl (fun _ => 0))), (u9_2.1 9, .inl (k 0, 8, .inl (u9_2.2 0))), (u9_2.1 10, .inl (k 0, 3, .inl (fun _ => 0))), (u9_2.1 11, .inl (k 0, 3, .inl (fun _ => 0))), (q16_3, .inr (5, [.ref (u20_4.1 0), .ref (u20_4.1 1), .ref (u20_4.1 2), .ref (u20_4.1 3), .ref (u20_4.1 4)])), (u20_4.1 0, .inl (k 0, 64, .inl (fun _ => 0))), (u20_4.1 1, .inl (k 0, 8, .inl (fun _ => 0))), (u20_4.1 2, .inl (k 0, 8, .inl (u20_4.2 0))), (u20_4.1 3, .inl (k 0, 3, .inl (fun _ => 0))), (u20_4.1 4, .inl (k 0, 3, .inl (fun _ => 0))), (q29_5, .inl (k 0, 40, .inl (fun _ => 0))), (q37_6, .inl (k 0, 40, .inl (fun _ => 0))), (q45_7, .inl (k 0, 40, .inl (fun _ => 0)))]) [0, 1, 2, 3, 4, 5, 6, 7, 8, 9, 10, 11, 12, 13, 14, 15, 16, 17, 18, 19, 20, 21, 22] rfl
  have hD9 := d_sub (ws' := [(h0, .inr (8, [.ref q5_1, .ref q16_3, .int 0, .ref q29_5, .ref q37_6, .ref q45_7])), (q5_1, .inr (1, [.int 0, .int 0, .int 0, .int 0, .int 0, .int 0, .int 0, .ref (u9_2.1 0), .ref (u9_2.1 1), .ref (u9_2.1 2), .ref (u9_2.1 3), .ref (u9_2.1 4), .ref (u9_2.1 5), .ref (u9_2.1 6)])), (u9_2.1 0, .inl (k 0, 8, .inl (fun _ => 0))), (u9_2.1 1, .inl (k 0, 8, .inl (fun _ => 0))), (u9_2.1 2, .inl (k 0, 8, .inl (fun _ => 0))), (u9_2.1 3, .inl (k 0, 6, .inl (fun _ => 0))), (u9_2.1 4, .inl (k 0, 6, .inl (fun _ => 0))), (u9_2.1 5, .inl (k 0, 6, .inl (fun _ => 0))), (u9_2.1 6, .inr (5, [.ref (u9_2.1 7), .ref (u9_2.1 8), .ref (u9_2.1 9), .ref (u9_2.1 10), .ref (u9_2.1 11)])), (u9_2.1 7, .inl (k 0, 64, .inl (fun _ => 0))), (u9_2.1 8, .inl (k 0, 8, .inl (fun _ => 0))), (u9_2.1 9, .inl (k 0, 8, .inl (u9_2.2 0))), (u9_2.1 10, .inl (k 0, 3, .inl (fun _ => 0))), (u9_2.1 11, .inl (k 0, 3, .inl (fun _ => 0))), (q16_3, .inr (5, [.ref (u20_4.1 0), .ref (u20_4.1 1), .ref (u20_4.1 2), .ref (u20_4.1 3), .ref (u20_4.1 4)])), (u20_4.1 0, .inl (k 0, 64, .inl (fun _ => 0))), (u20_4.1 1, .inl (k 0, 8, .inl (fun _ => 0))), (u20_4.1 2, .inl (k 0, 8, .inl (u20_4.2 0))), (u20_4.1 3, .inl (k 0, 3, .inl (fun _ => 0))), (u20_4.1 4, .inl (k 0, 3, .inl (fun _ => 0))), (q29_5, .inl (k 0, 40, .inl (fun _ => 0))), (q37_6, .inl (k 0, 40, .inl (fun _ => 0))), (q45_7, .inl (k 0, 40, .inl (fun _ => 0)))]) hD [0, 1, 2, 3, 4, 5, 6, 7, 8, 9, 10, 11, 12, 13, 14, 15, 16, 17, 18, 19, 20, 21, 22] (by decide +kernel) rfl
  have hK9 := hK.sub (tys' := []) [] rfl
  exact W.vret hx hb hr (fun t ht hW => ⟨⟨mkU [q5_1, (u9_2.1 0), (u9_2.1 1), (u9_2.1 2), (u9_2.1 3), (u9_2.1 4), (u9_2.1 5), (u9_2.1 6), (u9_2.1 7), (u9_2.1 8), (u9_2.1 9), (u9_2.1 10), (u9_2.1 11), q16_3, (u20_4.1 0), (u20_4.1 1), (u20_4.1 2), (u20_4.1 3), (u20_4.1 4), q29_5, q37_6, q45_7] [(u9_2.2 0), (u20_4.2 0)], rfl, trivial, by rw [ht]; exact hP9, va_K.moved hW.alike hK9, by rw [hAe]; exact hD9⟩, by rw [hAe]; exact hS.F ht⟩) hS.2.2 dX8_init_50
set_option maxHeartbeats 4000000 in
set_option maxRecDepth 100000 in
theorem c_X7_init (l : Launch) (D : va_G) (k : Nat → ClassId) (h0 sz : Nat) : Met l yX7_init (.code yX7_init cX7_init 1 none :: TB) (rmw 1 0 0) (va_Pc [.ref h0] (PW D k sz [(h0, .inr (7, [.int 0, .int 0, .int 0, .int 0, .int 0, .int 0]))])) (QV D (S := UT) (fun u => True) (fun u => [(h0, .inr (7, [.int 0, .int 0, .int 0, .int 0, .int 0, .int 0]))]) (fun _ => []) [(h0, .inr (7, [.int 0, .int 0, .int 0, .int 0, .int 0, .int 0]))] sz) 0 0 (va_A [(h0, .inr (7, [.int 0, .int 0, .int 0, .int 0, .int 0, .int 0]))] sz) := by
  refine Met.ofW (cc := cX7_init) (maxL := 1) (ret := none) (by decide) rfl ?_
  intro p e s m args below meth c s₁ B hml hv
  obtain ⟨rfl, hsz, hP, hK, hD0, hN⟩ := hv
  have hx := B.exec
  have hb := B.bytes
  have hr := B.returns
  have hT : ∀ w ∈ TB, w.before ([.ref h0] : List Value).toArray s = true := fun w h => atoms_spec (ws := .code yX7_init cX7_init 1 none :: TB) B.pre w (List.mem_cons_of_mem _ h)
  have hown : s.vm.findClass RX7 = some m.cls := findClass_of_methodNamed B.named
  have S : CallFix p m c cX7_init 1 s _ TB RX7 := ⟨hx, hb, hml, hown, hT⟩
  have hin : meth.name = "<init>" := (name_of_methodNamed B.named B.method).1
  subst hsz
  have hD := hD0.self (sz := s.heap.size)
  generalize hAe : va_A [(h0, .inr (7, [.int 0, .int 0, .int 0, .int 0, .int 0, .int 0]))] s.heap.size = A at hD ⊢
  have hA : ∀ q : Nat, s.heap.size ≤ q → A q := fun q h => by rw [← hAe]; exact Or.inr h
  have hS : va_S A s.heap s.heap [] := va_S.rf
  have hP : va_P D vwCl [(h0, .inr (7, [.int 0, .int 0, .int 0, .int 0, .int 0, .int 0]))] s.heap := hP
  have hl := lv_entry ([.ref h0]) (n := 1) (Nat.le_of_ble_eq_true rfl)
  rw [lg_entry_eq]
  generalize (lg_sl ([.ref h0]) ++ List.replicate (1 - (lg_sl ([.ref h0])).length) Slot.unset).toArray = ls at hl ⊢
  have hl : lv_has ls 1 [(0, .ref h0)] := hl
  refine lv_aload_n hx hb dX7_init_0 rfl (lv_at hl 0 rfl) ?_
  refine W.objInit hx hb hown (hT _ t365) (hT _ t129) (hT _ t130) rfl (by rw [hml]; exact hl.1) rfl dX7_init_1 (Nat.le_of_ble_eq_true rfl) (Nat.le_of_ble_eq_true rfl) ?_
  refine W.eq (g2 := F0 m 4 ls []) rfl ?_
  have hP9 := hP.sub (ws' := [(h0, .inr (7, [.int 0, .int 0, .int 0, .int 0, .int 0, .int 0]))]) [0] rfl
  have hD9 := d_sub (ws' := [(h0, .inr (7, [.int 0, .int 0, .int 0, .int 0, .int 0, .int 0]))]) hD [0] (by decide +kernel) rfl
  have hK9 := hK.sub (tys' := []) [] rfl
  exact W.vret hx hb hr (fun t ht hW => ⟨⟨mkU [] [], rfl, trivial, by rw [ht]; exact hP9, va_K.moved hW.alike hK9, by rw [hAe]; exact hD9⟩, by rw [hAe]; exact hS.F ht⟩) hS.2.2 dX7_init_4
set_option maxHeartbeats 4000000 in
set_option maxRecDepth 100000 in
theorem c_X0_init (l : Launch) (D : va_G) (k : Nat → ClassId) (h0 sz : Nat) : Met l yX0_init (.code yX0_init cX0_init 1 none :: TB) (rmw 1 3 272) (va_Pc [.ref h0] (PW D k sz [(h0, .inr (0, [.null, .null, .null]))])) (QV D (S := UT) (fun u => True) (fun u => [(h0, .inr (0, [.ref (u.1 0), .ref (u.1 1), .ref (u.1 2)])), (u.1 0, .inl (k 0, 256, .inl (fun _ => 0))), (u.1 1, .inl (k 0, 8, .inl (fun _ => 0))), (u.1 2, .inl (k 0, 8, .inl (fun _ => 0)))]) (fun _ => []) [(h0, .inr (0, [.null, .null, .null]))] sz) 3 272 (va_A [(h0, .inr (0, [.null, .null, .null]))] sz) := by
  refine Met.ofW (cc := cX0_init) (maxL := 1) (ret := none) (by decide) rfl ?_
  intro p e s m args below meth c s₁ B hml hv
  obtain ⟨rfl, hsz, hP, hK, hD0, hN⟩ := hv
  have hx := B.exec
  have hb := B.bytes
  have hr := B.returns
  have hT : ∀ w ∈ TB, w.before ([.ref h0] : List Value).toArray s = true := fun w h => atoms_spec (ws := .code yX0_init cX0_init 1 none :: TB) B.pre w (List.mem_cons_of_mem _ h)
  have hown : s.vm.findClass RX0 = some m.cls := findClass_of_methodNamed B.named
  have S : CallFix p m c cX0_init 1 s _ TB RX0 := ⟨hx, hb, hml, hown, hT⟩
  have hin : meth.name = "<init>" := (name_of_methodNamed B.named B.method).1
  subst hsz
  have hD := hD0.self (sz := s.heap.size)
  generalize hAe : va_A [(h0, .inr (0, [.null, .null, .null]))] s.heap.size = A at hD ⊢
  have hA : ∀ q : Nat, s.heap.size ≤ q → A q := fun q h => by rw [← hAe]; exact Or.inr h
  have hS : va_S A s.heap s.heap [] := va_S.rf
  have hP : va_P D vwCl [(h0, .inr (0, [.null, .null, .null]))] s.heap := hP
  have hl := lv_entry ([.ref h0]) (n := 1) (Nat.le_of_ble_eq_true rfl)
  rw [lg_entry_eq]
  generalize (lg_sl ([.ref h0]) ++ List.replicate (1 - (lg_sl ([.ref h0])).length) Slot.unset).toArray = ls at hl ⊢
  have hl : lv_has ls 1 [(0, .ref h0)] := hl
  refine lv_aload_n hx hb dX0_init_0 rfl (lv_at hl 0 rfl) ?_
  refine W.objInit hx hb hown (hT _ t440) (hT _ t129) (hT _ t130) rfl (by rw [hml]; exact hl.1) rfl dX0_init_1 (Nat.le_of_ble_eq_true rfl) (Nat.le_of_ble_eq_true rfl) ?_
  refine W.eq (g2 := F0 m 4 ls []) rfl ?_
  refine lv_aload_n hx hb dX0_init_4 rfl (lv_at hl 0 rfl) ?_
  refine lv_sipush (v := 256) hx hb dX0_init_5 (by decide) ?_
  refine n_newa (atype := .int) (ty := .int) (cT := k 0) (N' := 256) (a0 := (256, .inl (fun _ => 0))) 0 ra_int rfl hx hb (hT _ t194) rfl hK hP hD hS hA (fun _ => rfl) (by decide) (by decide) (Nat.le_of_ble_eq_true rfl) (Nat.le_of_ble_eq_true rfl) (Nat.le_of_ble_eq_true rfl) dX0_init_8 (fun q8_1 H hP9 hD9 hS9 => ?_)
  clear hP hD hS
  have hS := hS9
  have hP := hP9
  have hD := hD9
  clear hP9 hD9 hS9
  replace hP : va_P D vwCl [(h0, .inr (0, [.null, .null, .null])), (q8_1, .inl (k 0, 256, .inl (fun _ => 0)))] H := hP
  replace hD : va_D A [(h0, .inr (0, [.null, .null, .null])), (q8_1, .inl (k 0, 256, .inl (fun _ => 0)))] := hD
  refine W.widen (k := 1) (n := 256) (Nat.le_of_ble_eq_true rfl) (Nat.le_of_ble_eq_true rfl) ?_
  refine va_putF (D := D) (ci := 0) (v := .ref q8_1) (ty := .array .int) (C := RX0) (T := TX0) (N := 3) hx hb hT in_X0 tyX0 tyX0_ok nmX0 hown hK hP hD hS 0 rfl rfl 0 (by decide) (hT _ t441) (fun _ h9 => h9) rfl hin rfl (by decide +kernel) rfl rfl (Nat.le_of_ble_eq_true rfl) dX0_init_10 (fun H locs hP9 hD9 hS9 => ?_)
  clear hP hD hS
  have hS := hS9
  have hP := hP9
  have hD := hD9
  clear hP9 hD9 hS9
  replace hP : va_P D vwCl [(h0, .inr (0, [.ref q8_1, .null, .null])), (q8_1, .inl (k 0, 256, .inl (fun _ => 0)))] H := hP
  replace hD : va_D A [(h0, .inr (0, [.ref q8_1, .null, .null])), (q8_1, .inl (k 0, 256, .inl (fun _ => 0)))] := hD
  refine lv_aload_n hx hb dX0_init_13 rfl (lv_at hl 0 rfl) ?_
  refine lv_bipush (v := 8) hx hb dX0_init_14 (by decide) ?_
  refine n_newa (atype := .int) (ty := .int) (cT := k 0) (N' := 8) (a0 := (8, .inl (fun _ => 0))) 0 ra_int rfl hx hb (hT _ t194) rfl hK hP hD hS hA (fun _ => rfl) (by decide) (by decide) (Nat.le_of_ble_eq_true rfl) (Nat.le_of_ble_eq_true rfl) (Nat.le_of_ble_eq_true rfl) dX0_init_16 (fun q16_2 H hP9 hD9 hS9 => ?_)
  clear hP hD hS
  have hS := hS9
  have hP := hP9
  have hD := hD9
  clear hP9 hD9 hS9
  replace hP : va_P D vwCl [(h0, .inr (0, [.ref q8_1, .null, .null])), (q8_1, .inl (k 0, 256, .inl (fun _ => 0))), (q16_2, .inl (k 0, 8, .inl (fun _ => 0)))] H := hP
  replace hD : va_D A [(h0, .inr (0, [.ref q8_1, .null, .null])), (q8_1, .inl (k 0, 256, .inl (fun _ => 0))), (q16_2, .inl (k 0, 8, .inl (fun _ => 0)))] := hD
  refine W.widen (k := 2) (n := 264) (Nat.le_of_ble_eq_true rfl) (Nat.le_of_ble_eq_true rfl) ?_
  refine va_putF (D := D) (ci := 0) (v := .ref q16_2) (ty := .array .int) (C := RX0) (T := TX0) (N := 3) hx hb hT in_X0 tyX0 tyX0_ok nmX0 hown hK hP hD hS 0 rfl rfl 1 (by decide) (hT _ t442) (fun _ h9 => h9) rfl hin rfl (by decide +kernel) rfl rfl (Nat.le_of_ble_eq_true rfl) dX0_init_18 (fun H locs hP9 hD9 hS9 => ?_)
  clear hP hD hS
  have hS := hS9
  have hP := hP9
  have hD := hD9
  clear hP9 hD9 hS9
  replace hP : va_P D vwCl [(h0, .inr (0, [.ref q8_1, .ref q16_2, .null])), (q8_1, .inl (k 0, 256, .inl (fun _ => 0))), (q16_2, .inl (k 0, 8, .inl (fun _ => 0)))] H := hP
  replace hD : va_D A [(h0, .inr (0, [.ref q8_1, .ref q16_2, .null])), (q8_1, .inl (k 0, 256, .inl (fun _ => 0))), (q16_2, .inl (k 0, 8, .inl (fun _ => 0)))] := hD
  refine lv_aload_n hx hb dX0_init_21 rfl (lv_at hl 0 rfl) ?_
  refine lv_bipush (v := 8) hx hb dX0_init_22 (by decide) ?_
  refine n_newa (atype := .int) (ty := .int) (cT := k 0) (N' := 8) (a0 := (8, .inl (fun _ => 0))) 0 ra_int rfl hx hb (hT _ t194) rfl hK hP hD hS hA (fun _ => rfl) (by decide) (by decide) (Nat.le_of_ble_eq_true rfl) (Nat.le_of_ble_eq_true rfl) (Nat.le_of_ble_eq_true rfl) dX0_init_24 (fun q24_3 H hP9 hD9 hS9 => ?_)
  clear hP hD hS
  have hS := hS9
  have hP := hP9
  have hD := hD9
  clear hP9 hD9 hS9
  replace hP : va_P D vwCl [(h0, .inr (0, [.ref q8_1, .ref q16_2, .null])), (q8_1, .inl (k 0, 256, .inl (fun _ => 0))), (q16_2, .inl (k 0, 8, .inl (fun _ => 0))), (q24_3, .inl (k 0, 8, .inl (fun _ => 0)))] H := hP
  replace hD : va_D A [(h0, .inr (0, [.ref q8_1, .ref q16_2, .null])), (q8_1, .inl (k 0, 256, .inl (fun _ => 0))), (q16_2, .inl (k 0, 8, .inl (fun _ => 0))), (q24_3, .inl (k 0, 8, .inl (fun _ => 0)))] := hD
  refine W.widen (k := 3) (n := 272) (Nat.le_of_ble_eq_true rfl) (Nat.le_of_ble_eq_true rfl) ?_
  refine va_putF (D := D) (ci := 0) (v := .ref q24_3) (ty := .array .int) (C := RX0) (T := TX0) (N := 3) hx hb hT in_X0 tyX0 tyX0_ok nmX0 hown hK hP hD hS 0 rfl rfl 2 (by decide) (hT _ t443) (fun _ h9 => h9) rfl hin rfl (by decide +kernel) rfl rfl (Nat.le_of_ble_eq_true rfl) dX0_init_26 (fun H locs hP9 hD9 hS9 => ?_)
  clear hP hD hS
  have hS := hS9
  have hP := hP9
  have hD := hD9
  clear hP9 hD9 hS9
  replace hP : va_P D vwCl [(h0, .inr (0, [.ref q8_1, .ref q16_2, .ref q24_3])), (q8_1, .inl (k 0, 256, .inl (fun _ => 0))), (q16_2, .inl (k 0, 8, .inl (fun _ => 0))), (q24_3, .inl (k 0, 8, .inl (fun _ => 0)))] H := hP
  replace hD : va_D A [(h0, .inr (0, [.ref q8_1, .ref q16_2, .ref q24_3])), (q8_1, .inl (k 0, 256, .inl (fun _ => 0))), (q16_2, .inl (k 0, 8, .inl (fun _ => 0))), (q24_3, .inl (k 0, 8, .inl (fun _ => 0)))] := hD
  have hP9 := hP.sub (ws' := [(h0, .inr (0, [.ref q8_1, .ref q16_2, .ref q24_3])), (q8_1, .inl (k 0, 256, .inl (fun _ => 0))), (q16_2, .inl (k 0, 8, .inl (fun _ => 0))), (q24_3, .inl (k 0, 8, .inl (fun _ => 0)))]) [0, 1, 2, 3] rfl
  have hD9 := d_sub (ws' := [(h0, .inr (0, [.ref q8_1, .ref q16_2, .ref q24_3])), (q8_1, .inl (k 0, 256, .inl (fun _ => 0))), (q16_2, .inl (k 0, 8, .inl (fun _ => 0))), (q24_3, .inl (k 0, 8, .inl (fun _ => 0)))]) hD [0, 1, 2, 3] (by decide +kernel) rfl
  have hK9 := hK.sub (tys' := []) [] rfl
  exact W.vret hx hb hr (fun t ht hW => ⟨⟨mkU [q8_1, q16_2, q24_3] [], rfl, trivial, by rw [ht]; exact hP9, va_K.moved hW.alike hK9, by rw [hAe]; exact hD9⟩, by rw [hAe]; exact hS.F ht⟩) hS.2.2 dX0_init_29
set_option maxHeartbeats 4000000 in
set_option maxRecDepth 100000 in
theorem c_X3_init (l : Launch) (D : va_G) (k : Nat → ClassId) (h0 sz : Nat) : Met l yX3_init (.code yX3_init cX3_init 2 none :: TB) (rmw 3 35 480) (va_Pc [.ref h0] (PW D k sz [(h0, .inr (3, [.null, .null, .null, .null, .null, .int 0, .int 0, .int 0, .int 0, .int 0]))])) (QV D (S := UT) (fun u => True) (fun u => [(h0, .inr (3, [.ref (u.1 0), .ref (u.1 1), .ref (u.1 2), .ref (u.1 3), .ref (u.1 4), .int 0, .int 0, .int 0, .int 0, .int 0])), (u.1 0, .inl (k 5, 5, .inr (.inr (.inr (.inr (va_up (va_up (va_up (va_up (va_up (fun _ => none) 0 (some (u.1 5))) 1 (some (u.1 11))) 2 (some (u.1 17))) 3 (some (u.1 23))) 4 (some (u.1 29)))))))), (u.1 1, .inl (k 0, 6, .inl (fun _ => 0))), (u.1 2, .inl (k 0, 6, .inl (fun _ => 0))), (u.1 3, .inl (k 0, 4, .inl (fun _ => 0))), (u.1 4, .inl (k 0, 4, .inl (fun _ => 0))), (u.1 5, .inr (5, [.ref (u.1 6), .ref (u.1 7), .ref (u.1 8), .ref (u.1 9), .ref (u.1 10)])), (u.1 6, .inl (k 0, 64, .inl (fun _ => 0))), (u.1 7, .inl (k 0, 8, .inl (fun _ => 0))), (u.1 8, .inl (k 0, 8, .inl (u.2 0))), (u.1 9, .inl (k 0, 3, .inl (fun _ => 0))), (u.1 10, .inl (k 0, 3, .inl (fun _ => 0))), (u.1 11, .inr (5, [.ref (u.1 12), .ref (u.1 13), .ref (u.1 14), .ref (u.1 15), .ref (u.1 16)])), (u.1 12, .inl (k 0, 64, .inl (fun _ => 0))), (u.1 13, .inl (k 0, 8, .inl (fun _ => 0))), (u.1 14, .inl (k 0, 8, .inl (u.2 1))), (u.1 15, .inl (k 0, 3, .inl (fun _ => 0))), (u.1 16, .inl (k 0, 3, .inl (fun _ => 0))), (u.1 17, .inr (5, [.ref (u.1 18), .ref (u.1 19), .ref (u.1 20), .ref (u.1 21), .ref (u.1 22)])), (u.1 18, .inl (k 0, 64, .inl (fun _ => 0))), (u.1 19, .inl (k 0, 8, .inl (fun _ => 0))), (u.1 20, .inl (k 0, 8, .inl (u.2 2))), (u.1 21, .inl (k 0, 3, .inl (fun _ => 0))), (u.1 22, .inl (k 0, 3, .inl (fun _ => 0))), (u.1 23, .inr (5, [.ref (u.1 24), .ref (u.1 25), .ref (u.1 26), .ref (u.1 27), .ref (u.1 28)])), (u.1 24, .inl (k 0, 64, .inl (fun _ => 0))), (u.1 25, .inl (k 0, 8, .inl (fun _ => 0))), (u.1 26, .inl (k 0, 8, .inl (u.2 3))), (u.1 27, .inl (k 0, 3, .inl (fun _ => 0))), (u.1 28, .inl (k 0, 3, .inl (fun _ => 0))), (u.1 29, .inr (5, [.ref (u.1 30), .ref (u.1 31), .ref (u.1 32), .ref (u.1 33), .ref (u.1 34)])), (u.1 30, .inl (k 0, 64, .inl (fun _ => 0))), (u.1 31, .inl (k 0, 8, .inl (fun _ => 0))), (u.1 32, .inl (k 0, 8, .inl (u.2 4))), (u.1 33, .inl (k 0, 3, .inl (fun _ => 0))), (u.1 34, .inl (k 0, 3, .inl (fun _ => 0)))]) (fun _ => []) [(h0, .inr (3, [.null, .null, .null, .null, .null, .int 0, .int 0, .int 0, .int 0, .int 0]))] sz) 35 480 (va_A [(h0, .inr (3, [.null, .null, .null, .null, .null, .int 0, .int 0, .int 0, .int 0, .int 0]))] sz) := by
  refine Met.ofW (cc := cX3_init) (maxL := 2) (ret := none) (by decide) rfl ?_
  intro p e s m args below meth c s₁ B hml hv
  obtain ⟨rfl, hsz, hP, hK, hD0, hN⟩ := hv
  have hx := B.exec
  have hb := B.bytes
  have hr := B.returns
  have hT : ∀ w ∈ TB, w.before ([.ref h0] : List Value).toArray s = true := fun w h => atoms_spec (ws := .code yX3_init cX3_init 2 none :: TB) B.pre w (List.mem_cons_of_mem _ h)
  have hown : s.vm.findClass RX3 = some m.cls := findClass_of_methodNamed B.named
  have S : CallFix p m c cX3_init 2 s _ TB RX3 := ⟨hx, hb, hml, hown, hT⟩
  have hin : meth.name = "<init>" := (name_of_methodNamed B.named B.method).1
  subst hsz
  have hD := hD0.self (sz := s.heap.size)
  generalize hAe : va_A [(h0, .inr (3, [.null, .null, .null, .null, .null, .int 0, .int 0, .int 0, .int 0, .int 0]))] s.heap.size = A at hD ⊢
  have hA : ∀ q : Nat, s.heap.size ≤ q → A q := fun q h => by rw [← hAe]; exact Or.inr h
  have hS : va_S A s.heap s.heap [] := va_S.rf
  have hP : va_P D vwCl [(h0, .inr (3, [.null, .null, .null, .null, .null, .int 0, .int 0, .int 0, .int 0, .int 0]))] s.heap := hP
  have hl := lv_entry ([.ref h0]) (n := 2) (Nat.le_of_ble_eq_true rfl)
  rw [lg_entry_eq]
  generalize (lg_sl ([.ref h0]) ++ List.replicate (2 - (lg_sl ([.ref h0])).length) Slot.unset).toArray = ls at hl ⊢
  have hl : lv_has ls 2 [(0, .ref h0)] := hl
  refine lv_aload_n hx hb dX3_init_0 rfl (lv_at hl 0 rfl) ?_
  refine W.objInit hx hb hown (hT _ t396) (hT _ t129) (hT _ t130) rfl (by rw [hml]; exact hl.1) rfl dX3_init_1 (Nat.le_of_ble_eq_true rfl) (Nat.le_of_ble_eq_true rfl) ?_
  refine W.eq (g2 := F0 m 4 ls []) rfl ?_
  refine lv_aload_n hx hb dX3_init_4 rfl (lv_at hl 0 rfl) ?_
  refine lv_bipush (v := 6) hx hb dX3_init_5 (by decide) ?_
  refine n_newa (atype := .int) (ty := .int) (cT := k 0) (N' := 6) (a0 := (6, .inl (fun _ => 0))) 0 ra_int rfl hx hb (hT _ t194) rfl hK hP hD hS hA (fun _ => rfl) (by decide) (by decide) (Nat.le_of_ble_eq_true rfl) (Nat.le_of_ble_eq_true rfl) (Nat.le_of_ble_eq_true rfl) dX3_init_7 (fun q7_1 H hP9 hD9 hS9 => ?_)
  clear hP hD hS
  have hS := hS9
  have hP := hP9
  have hD := hD9
  clear hP9 hD9 hS9
  replace hP : va_P D vwCl [(h0, .inr (3, [.null, .null, .null, .null, .null, .int 0, .int 0, .int 0, .int 0, .int 0])), (q7_1, .inl (k 0, 6, .inl (fun _ => 0)))] H := hP
  replace hD : va_D A [(h0, .inr (3, [.null, .null, .null, .null, .null, .int 0, .int 0, .int 0, .int 0, .int 0])), (q7_1, .inl (k 0, 6, .inl (fun _ => 0)))] := hD
  refine W.widen (k := 1) (n := 6) (Nat.le_of_ble_eq_true rfl) (Nat.le_of_ble_eq_true rfl) ?_
  refine va_putF (D := D) (ci := 3) (v := .ref q7_1) (ty := .array .int) (C := RX3) (T := TX3) (N := 10) hx hb hT in_X3 tyX3 tyX3_ok nmX3 hown hK hP hD hS 0 rfl rfl 1 (by decide) (hT _ t401) (fun _ h9 => h9) rfl hin rfl (by decide +kernel) rfl rfl (Nat.le_of_ble_eq_true rfl) dX3_init_9 (fun H locs hP9 hD9 hS9 => ?_)
  clear hP hD hS
  have hS := hS9
  have hP := hP9
  have hD := hD9
  clear hP9 hD9 hS9
  replace hP : va_P D vwCl [(h0, .inr (3, [.null, .ref q7_1, .null, .null, .null, .int 0, .int 0, .int 0, .int 0, .int 0])), (q7_1, .inl (k 0, 6, .inl (fun _ => 0)))] H := hP
  replace hD : va_D A [(h0, .inr (3, [.null, .ref q7_1, .null, .null, .null, .int 0, .int 0, .int 0, .int 0, .int 0])), (q7_1, .inl (k 0, 6, .inl (fun _ => 0)))] := hD
  refine lv_aload_n hx hb dX3_init_12 rfl (lv_at hl 0 rfl) ?_
  refine lv_bipush (v := 6) hx hb dX3_init_13 (by decide) ?_
  refine n_newa (atype := .int) (ty := .int) (cT := k 0) (N' := 6) (a0 := (6, .inl (fun _ => 0))) 0 ra_int rfl hx hb (hT _ t194) rfl hK hP hD hS hA (fun _ => rfl) (by decide) (by decide) (Nat.le_of_ble_eq_true rfl) (Nat.le_of_ble_eq_true rfl) (Nat.le_of_ble_eq_true rfl) dX3_init_15 (fun q15_2 H hP9 hD9 hS9 => ?_)
  clear hP hD hS
  have hS := hS9
  have hP := hP9
  have hD := hD9
  clear hP9 hD9 hS9
  replace hP : va_P D vwCl [(h0, .inr (3, [.null, .ref q7_1, .null, .null, .null, .int 0, .int 0, .int 0, .int 0, .int 0])), (q7_1, .inl (k 0, 6, .inl (fun _ => 0))), (q15_2, .inl (k 0, 6, .inl (fun _ => 0)))] H := hP
  replace hD : va_D A [(h0, .inr (3, [.null, .ref q7_1, .null, .null, .null, .int 0, .int 0, .int 0, .int 0, .int 0])), (q7_1, .inl (k 0, 6, .inl (fun _ => 0))), (q15_2, .inl (k 0, 6, .inl (fun _ => 0)))] := hD
  refine W.widen (k := 2) (n := 12) (Nat.le_of_ble_eq_true rfl) (Nat.le_of_ble_eq_true rfl) ?_
  refine va_putF (D := D) (ci := 3) (v := .ref q15_2) (ty := .array .int) (C := RX3) (T := TX3) (N := 10) hx hb hT in_X3 tyX3 tyX3_ok nmX3 hown hK hP hD hS 0 rfl rfl 2 (by decide) (hT _ t403) (fun _ h9 => h9) rfl hin rfl (by decide +kernel) rfl rfl (Nat.le_of_ble_eq_true rfl) dX3_init_17 (fun H locs hP9 hD9 hS9 => ?_)
  clear hP hD hS
  have hS := hS9
  have hP := hP9
  have hD := hD9
  clear hP9 hD9 hS9
  replace hP : va_P D vwCl [(h0, .inr (3, [.null, .ref q7_1, .ref q15_2, .null, .null, .int 0, .int 0, .int 0, .int 0, .int 0])), (q7_1, .inl (k 0, 6, .inl (fun _ => 0))), (q15_2, .inl (k 0, 6, .inl (fun _ => 0)))] H := hP
  replace hD : va_D A [(h0, .inr (3, [.null, .ref q7_1, .ref q15_2, .null, .null, .int 0, .int 0, .int 0, .int 0, .int 0])), (q7_1, .inl (k 0, 6, .inl (fun _ => 0))), (q15_2, .inl (k 0, 6, .inl (fun _ => 0)))] := hD
  refine lv_aload_n hx hb dX3_init_20 rfl (lv_at hl 0 rfl) ?_
  refine lv_iconst (v := 4) hx hb dX3_init_21 (by decide) ?_
  refine n_newa (atype := .int) (ty := .int) (cT := k 0) (N' := 4) (a0 := (4, .inl (fun _ => 0))) 0 ra_int rfl hx hb (hT _ t194) rfl hK hP hD hS hA (fun _ => rfl) (by decide) (by decide) (Nat.le_of_ble_eq_true rfl) (Nat.le_of_ble_eq_true rfl) (Nat.le_of_ble_eq_true rfl) dX3_init_22 (fun q22_3 H hP9 hD9 hS9 => ?_)
  clear hP hD hS
  have hS := hS9
  have hP := hP9
  have hD := hD9
  clear hP9 hD9 hS9
  replace hP : va_P D vwCl [(h0, .inr (3, [.null, .ref q7_1, .ref q15_2, .null, .null, .int 0, .int 0, .int 0, .int 0, .int 0])), (q7_1, .inl (k 0, 6, .inl (fun _ => 0))), (q15_2, .inl (k 0, 6, .inl (fun _ => 0))), (q22_3, .inl (k 0, 4, .inl (fun _ => 0)))] H := hP
  replace hD : va_D A [(h0, .inr (3, [.null, .ref q7_1, .ref q15_2, .null, .null, .int 0, .int 0, .int 0, .int 0, .int 0])), (q7_1, .inl (k 0, 6, .inl (fun _ => 0))), (q15_2, .inl (k 0, 6, .inl (fun _ => 0))), (q22_3, .inl (k 0, 4, .inl (fun _ => 0)))] := hD
  refine W.widen (k := 3) (n := 16) (Nat.le_of_ble_eq_true rfl) (Nat.le_of_ble_eq_true rfl) ?_
  refine va_putF (D := D) (ci := 3) (v := .ref q22_3) (ty := .array .int) (C := RX3) (T := TX3) (N := 10) hx hb hT in_X3 tyX3 tyX3_ok nmX3 hown hK hP hD hS 0 rfl rfl 3 (by decide) (hT _ t404) (fun _ h9 => h9) rfl hin rfl (by decide +kernel) rfl rfl (Nat.le_of_ble_eq_true rfl) dX3_init_24 (fun H locs hP9 hD9 hS9 => ?_)
  clear hP hD hS
  have hS := hS9
  have hP := hP9
  have hD := hD9
  clear hP9 hD9 hS9
  replace hP : va_P D vwCl [(h0, .inr (3, [.null, .ref q7_1, .ref q15_2, .ref q22_3, .null, .int 0, .int 0, .int 0, .int 0, .int 0])), (q7_1, .inl (k 0, 6, .inl (fun _ => 0))), (q15_2, .inl (k 0, 6, .inl (fun _ => 0))), (q22_3, .inl (k 0, 4, .inl (fun _ => 0)))] H := hP
  replace hD : va_D A [(h0, .inr (3, [.null, .ref q7_1, .ref q15_2, .ref q22_3, .null, .int 0, .int 0, .int 0, .int 0, .int 0])), (q7_1, .inl (k 0, 6, .inl (fun _ => 0))), (q15_2, .inl (k 0, 6, .inl (fun _ => 0))), (q22_3, .inl (k 0, 4, .inl (fun _ => 0)))] := hD
  refine lv_aload_n hx hb dX3_init_27 rfl (lv_at hl 0 rfl) ?_
  refine lv_iconst (v := 4) hx hb dX3_init_28 (by decide) ?_
  refine n_newa (atype := .int) (ty := .int) (cT := k 0) (N' := 4) (a0 := (4, .inl (fun _ => 0))) 0 ra_int rfl hx hb (hT _ t194) rfl hK hP hD hS hA (fun _ => rfl) (by decide) (by decide) (Nat.le_of_ble_eq_true rfl) (Nat.le_of_ble_eq_true rfl) (Nat.le_of_ble_eq_true rfl) dX3_init_29 (fun q29_4 H hP9 hD9 hS9 => ?_)
  clear hP hD hS
  have hS := hS9
  have hP := hP9
  have hD := hD9
  clear hP9 hD9 hS9
  replace hP : va_P D vwCl [(h0, .inr (3, [.null, .ref q7_1, .ref q15_2, .ref q22_3, .null, .int 0, .int 0, .int 0, .int 0, .int 0])), (q7_1, .inl (k 0, 6, .inl (fun _ => 0))), (q15_2, .inl (k 0, 6, .inl (fun _ => 0))), (q22_3, .inl (k 0, 4, .inl (fun _ => 0))), (q29_4, .inl (k 0, 4, .inl (fun _ => 0)))] H := hP
  replace hD : va_D A [(h0, .inr (3, [.null, .ref q7_1, .ref q15_2, .ref q22_3, .null, .int 0, .int 0, .int 0, .int 0, .int 0])), (q7_1, .inl (k 0, 6, .inl (fun _ => 0))), (q15_2, .inl (k 0, 6, .inl (fun _ => 0))), (q22_3, .inl (k 0, 4, .inl (fun _ => 0))), (q29_4, .inl (k 0, 4, .inl (fun _ => 0)))] := hD
  refine W.widen (k := 4) (n := 20) (Nat.le_of_ble_eq_true rfl) (Nat.le_of_ble_eq_true rfl) ?_
  refine va_putF (D := D) (ci := 3) (v := .ref q29_4) (ty := .array .int) (C := RX3) (T := TX3) (N := 10) hx hb hT in_X3 tyX3 tyX3_ok nmX3 hown hK hP hD hS 0 rfl rfl 4 (by decide) (hT _ t405) (fun _ h9 => h9) rfl hin rfl (by decide +kernel) rfl rfl (Nat.le_of_ble_eq_true rfl) dX3_init_31 (fun H locs hP9 hD9 hS9 => ?_)
  clear hP hD hS
  have hS := hS9
  have hP := hP9
  have hD := hD9
  clear hP9 hD9 hS9
  replace hP : va_P D vwCl [(h0, .inr (3, [.null, .ref q7_1, .ref q15_2, .ref q22_3, .ref q29_4, .int 0, .int 0, .int 0, .int 0, .int 0])), (q7_1, .inl (k 0, 6, .inl (fun _ => 0))), (q15_2, .inl (k 0, 6, .inl (fun _ => 0))), (q22_3, .inl (k 0, 4, .inl (fun _ => 0))), (q29_4, .inl (k 0, 4, .inl (fun _ => 0)))] H := hP
  replace hD : va_D A [(h0, .inr (3, [.null, .ref q7_1, .ref q15_2, .ref q22_3, .ref q29_4, .int 0, .int 0, .int 0, .int 0, .int 0])), (q7_1, .inl (k 0, 6, .inl (fun _ => 0))), (q15_2, .inl (k 0, 6, .inl (fun _ => 0))), (q22_3, .inl (k 0, 4, .inl (fun _ => 0))), (q29_4, .inl (k 0, 4, .inl (fun _ => 0)))] := hD
  refine lv_aload_n hx hb dX3_init_34 rfl (lv_at hl 0 rfl) ?_
  refine lv_iconst (v := 5) hx hb dX3_init_35 (by decide) ?_
  refine n_newq (cT := k 5) (N' := 5) 5 rfl hx hb hown (hT _ t397) hN.2.2.1 hK hP hD hS hA (by decide) (by decide) (Nat.le_of_ble_eq_true rfl) (Nat.le_of_ble_eq_true rfl) (Nat.le_of_ble_eq_true rfl) dX3_init_36 (fun q36_5 H hP9 hD9 hS9 => ?_)
  clear hP hD hS
  have hS := hS9
  have hP := hP9
  have hD := hD9
  clear hP9 hD9 hS9
  replace hP : va_P D vwCl [(h0, .inr (3, [.null, .ref q7_1, .ref q15_2, .ref q22_3, .ref q29_4, .int 0, .int 0, .int 0, .int 0, .int 0])), (q7_1, .inl (k 0, 6, .inl (fun _ => 0))), (q15_2, .inl (k 0, 6, .inl (fun _ => 0))), (q22_3, .inl (k 0, 4, .inl (fun _ => 0))), (q29_4, .inl (k 0, 4, .inl (fun _ => 0))), (q36_5, .inl (k 5, 5, .inr (.inr (.inr (.inr (fun _ => none))))))] H := hP
  replace hD : va_D A [(h0, .inr (3, [.null, .ref q7_1, .ref q15_2, .ref q22_3, .ref q29_4, .int 0, .int 0, .int 0, .int 0, .int 0])), (q7_1, .inl (k 0, 6, .inl (fun _ => 0))), (q15_2, .inl (k 0, 6, .inl (fun _ => 0))), (q22_3, .inl (k 0, 4, .inl (fun _ => 0))), (q29_4, .inl (k 0, 4, .inl (fun _ => 0))), (q36_5, .inl (k 5, 5, .inr (.inr (.inr (.inr (fun _ => none))))))] := hD
  refine W.widen (k := 5) (n := 25) (Nat.le_of_ble_eq_true rfl) (Nat.le_of_ble_eq_true rfl) ?_
  refine va_putF (D := D) (ci := 3) (v := .ref q36_5) (ty := .array (.object "WheelMemory$State")) (C := RX3) (T := TX3) (N := 10) hx hb hT in_X3 tyX3 tyX3_ok nmX3 hown hK hP hD hS 0 rfl rfl 0 (by decide) (hT _ t400) (fun _ h9 => h9) rfl hin rfl (by decide +kernel) rfl rfl (Nat.le_of_ble_eq_true rfl) dX3_init_39 (fun H locs hP9 hD9 hS9 => ?_)
  clear hP hD hS
  have hS := hS9
  have hP := hP9
  have hD := hD9
  clear hP9 hD9 hS9
  replace hP : va_P D vwCl [(h0, .inr (3, [.ref q36_5, .ref q7_1, .ref q15_2, .ref q22_3, .ref q29_4, .int 0, .int 0, .int 0, .int 0, .int 0])), (q7_1, .inl (k 0, 6, .inl (fun _ => 0))), (q15_2, .inl (k 0, 6, .inl (fun _ => 0))), (q22_3, .inl (k 0, 4, .inl (fun _ => 0))), (q29_4, .inl (k 0, 4, .inl (fun _ => 0))), (q36_5, .inl (k 5, 5, .inr (.inr (.inr (.inr (fun _ => none))))))] H := hP
  replace hD : va_D A [(h0, .inr (3, [.ref q36_5, .ref q7_1, .ref q15_2, .ref q22_3, .ref q29_4, .int 0, .int 0, .int 0, .int 0, .int 0])), (q7_1, .inl (k 0, 6, .inl (fun _ => 0))), (q15_2, .inl (k 0, 6, .inl (fun _ => 0))), (q22_3, .inl (k 0, 4, .inl (fun _ => 0))), (q29_4, .inl (k 0, 4, .inl (fun _ => 0))), (q36_5, .inl (k 5, 5, .inr (.inr (.inr (.inr (fun _ => none))))))] := hD
  refine lv_iconst (v := 0) hx hb dX3_init_42 (by decide) ?_
  refine lv_istore_n (lv' := [(1, .int 0), (0, .ref h0)]) hx hb dX3_init_43 rfl hl (by decide) rfl (fun ls hl => ?_)
  refine lv_iload_n hx hb dX3_init_44 rfl (lv_at hl 0 rfl) ?_
  refine lv_iconst (v := 4) hx hb dX3_init_45 (by decide) ?_
  refine lv_icmp_gt (tgt := 68) hx hb dX3_init_46 (by decide) (fun c_1 => ?_) (fun c_1 => ?_)
  · first | exact absurd c_1 (by decide) | exact absurd (by decide) c_1
  refine lv_aload_n hx hb dX3_init_49 rfl (lv_at hl 1 rfl) ?_
  refine va_get (D := D) (ci := 3) (v := .ref q36_5) (C := RX3) (T := TX3) (N := 10) hx hb hT in_X3 hown hK hP 0 rfl rfl 0 (by decide) (hT _ t400) (fun _ h9 => h9) rfl dX3_init_50 ?_
  refine lv_iload_n hx hb dX3_init_53 rfl (lv_at hl 0 rfl) ?_
  refine va_new (ci := 5) (fs := [.null, .null, .null, .null, .null]) (C := RX5) (T := TX5) (N := 5) hx hb hT in_X5 tyX5 tyX5_ok hown (hT _ t397) (hT _ t159) (hT _ t108) hK hP hD hS hA rfl (fun j hj => by rcases (show j = 0 ∨ j = 1 ∨ j = 2 ∨ j = 3 ∨ j = 4 by omega) with rfl | rfl | rfl | rfl | rfl <;> rfl) (Nat.le_of_ble_eq_true rfl) (Nat.le_of_ble_eq_true rfl) dX3_init_54 (fun q54_6 H hP9 hD9 hS9 => ?_)
  clear hP hD hS
  have hS := hS9
  have hP := hP9
  have hD := hD9
  clear hP9 hD9 hS9
  replace hP : va_P D vwCl [(h0, .inr (3, [.ref q36_5, .ref q7_1, .ref q15_2, .ref q22_3, .ref q29_4, .int 0, .int 0, .int 0, .int 0, .int 0])), (q7_1, .inl (k 0, 6, .inl (fun _ => 0))), (q15_2, .inl (k 0, 6, .inl (fun _ => 0))), (q22_3, .inl (k 0, 4, .inl (fun _ => 0))), (q29_4, .inl (k 0, 4, .inl (fun _ => 0))), (q36_5, .inl (k 5, 5, .inr (.inr (.inr (.inr (fun _ => none)))))), (q54_6, .inr (5, [.null, .null, .null, .null, .null]))] H := hP
  replace hD : va_D A [(h0, .inr (3, [.ref q36_5, .ref q7_1, .ref q15_2, .ref q22_3, .ref q29_4, .int 0, .int 0, .int 0, .int 0, .int 0])), (q7_1, .inl (k 0, 6, .inl (fun _ => 0))), (q15_2, .inl (k 0, 6, .inl (fun _ => 0))), (q22_3, .inl (k 0, 4, .inl (fun _ => 0))), (q29_4, .inl (k 0, 4, .inl (fun _ => 0))), (q36_5, .inl (k 5, 5, .inr (.inr (.inr (.inr (fun _ => none)))))), (q54_6, .inr (5, [.null, .null, .null, .null, .null]))] := hD
  refine W.widen (k := 6) (n := 30) (Nat.le_of_ble_eq_true rfl) (Nat.le_of_ble_eq_true rfl) ?_
  refine lv_dup hx hb dX3_init_57 rfl ?_
  refine rw_v (wc := [(q54_6, .inr (5, [.null, .null, .null, .null, .null]))]) (wr := [(h0, .inr (3, [.ref q36_5, .ref q7_1, .ref q15_2, .ref q22_3, .ref q29_4, .int 0, .int 0, .int 0, .int 0, .int 0])), (q7_1, .inl (k 0, 6, .inl (fun _ => 0))), (q15_2, .inl (k 0, 6, .inl (fun _ => 0))), (q22_3, .inl (k 0, 4, .inl (fun _ => 0))), (q29_4, .inl (k 0, 4, .inl (fun _ => 0))), (q36_5, .inl (k 5, 5, .inr (.inr (.inr (.inr (fun _ => none))))))]) [6] [0, 1, 2, 3, 4, 5] rfl rfl (by decide +kernel) (by decide +kernel) (by decide +kernel) hP hD hS hA (fun hPc hDc => run_I (C := RX5) (As := []) (rest := [.ref q54_6, .int 0, .ref q36_5]) S (c_X5_init l D k q54_6 _) (gdC t162) t399 t161 t108 rfl ok_X5_init ⟨rfl, rfl, Nat.le_of_ble_eq_true rfl, Nat.le_of_ble_eq_true rfl⟩ (pw_S hK hN hPc hDc) rfl hl.1 rfl (Nat.le_of_ble_eq_true rfl) ⟨Nat.le_of_ble_eq_true rfl, Nat.le_of_ble_eq_true rfl⟩ dX3_init_58) (fun u58_7 H locs hu58_7 hKu58_7 hP9 hD9 hS9 => ?_)
  clear hP hD hS
  have hS := hS9
  have hP := hP9
  have hD := hD9
  clear hP9 hD9 hS9
  replace hP : va_P D vwCl [(h0, .inr (3, [.ref q36_5, .ref q7_1, .ref q15_2, .ref q22_3, .ref q29_4, .int 0, .int 0, .int 0, .int 0, .int 0])), (q7_1, .inl (k 0, 6, .inl (fun _ => 0))), (q15_2, .inl (k 0, 6, .inl (fun _ => 0))), (q22_3, .inl (k 0, 4, .inl (fun _ => 0))), (q29_4, .inl (k 0, 4, .inl (fun _ => 0))), (q36_5, .inl (k 5, 5, .inr (.inr (.inr (.inr (fun _ => none)))))), (q54_6, .inr (5, [.ref (u58_7.1 0), .ref (u58_7.1 1), .ref (u58_7.1 2), .ref (u58_7.1 3), .ref (u58_7.1 4)])), (u58_7.1 0, .inl (k 0, 64, .inl (fun _ => 0))), (u58_7.1 1, .inl (k 0, 8, .inl (fun _ => 0))), (u58_7.1 2, .inl (k 0, 8, .inl (u58_7.2 0))), (u58_7.1 3, .inl (k 0, 3, .inl (fun _ => 0))), (u58_7.1 4, .inl (k 0, 3, .inl (fun _ => 0)))] H := hP
  replace hD : va_D A [(h0, .inr (3, [.ref q36_5, .ref q7_1, .ref q15_2, .ref q22_3, .ref q29_4, .int 0, .int 0, .int 0, .int 0, .int 0])), (q7_1, .inl (k 0, 6, .inl (fun _ => 0))), (q15_2, .inl (k 0, 6, .inl (fun _ => 0))), (q22_3, .inl (k 0, 4, .inl (fun _ => 0))), (q29_4, .inl (k 0, 4, .inl (fun _ => 0))), (q36_5, .inl (k 5, 5, .inr (.inr (.inr (.inr (fun _ => none)))))), (q54_6, .inr (5, [.ref (u58_7.1 0), .ref (u58_7.1 1), .ref (u58_7.1 2), .ref (u58_7.1 3), .ref (u58_7.1 4)])), (u58_7.1 0, .inl (k 0, 64, .inl (fun _ => 0))), (u58_7.1 1, .inl (k 0, 8, .inl (fun _ => 0))), (u58_7.1 2, .inl (k 0, 8, .inl (u58_7.2 0))), (u58_7.1 3, .inl (k 0, 3, .inl (fun _ => 0))), (u58_7.1 4, .inl (k 0, 3, .inl (fun _ => 0)))] := hD
  refine W.widen (k := 11) (n := 116) (Nat.le_of_ble_eq_true rfl) (Nat.le_of_ble_eq_true rfl) ?_
  refine va_astq hx hb hK hP hD hS 5 5 6 5 rfl rfl rfl rfl (by unfold vp_in; decide) dX3_init_61 (fun H locs hP9 hD9 hS9 => ?_)
  clear hP hD hS
  have hS := hS9
  have hP := hP9
  have hD := hD9
  clear hP9 hD9 hS9
  rw [show ((0 : Int32)).toNatClampNeg = 0 from by decide] at hP hD
  replace hP : va_P D vwCl [(h0, .inr (3, [.ref q36_5, .ref q7_1, .ref q15_2, .ref q22_3, .ref q29_4, .int 0, .int 0, .int 0, .int 0, .int 0])), (q7_1, .inl (k 0, 6, .inl (fun _ => 0))), (q15_2, .inl (k 0, 6, .inl (fun _ => 0))), (q22_3, .inl (k 0, 4, .inl (fun _ => 0))), (q29_4, .inl (k 0, 4, .inl (fun _ => 0))), (q36_5, .inl (k 5, 5, .inr (.inr (.inr (.inr (va_up (fun _ => none) 0 (some q54_6))))))), (q54_6, .inr (5, [.ref (u58_7.1 0), .ref (u58_7.1 1), .ref (u58_7.1 2), .ref (u58_7.1 3), .ref (u58_7.1 4)])), (u58_7.1 0, .inl (k 0, 64, .inl (fun _ => 0))), (u58_7.1 1, .inl (k 0, 8, .inl (fun _ => 0))), (u58_7.1 2, .inl (k 0, 8, .inl (u58_7.2 0))), (u58_7.1 3, .inl (k 0, 3, .inl (fun _ => 0))), (u58_7.1 4, .inl (k 0, 3, .inl (fun _ => 0)))] H := hP
  replace hD : va_D A [(h0, .inr (3, [.ref q36_5, .ref q7_1, .ref q15_2, .ref q22_3, .ref q29_4, .int 0, .int 0, .int 0, .int 0, .int 0])), (q7_1, .inl (k 0, 6, .inl (fun _ => 0))), (q15_2, .inl (k 0, 6, .inl (fun _ => 0))), (q22_3, .inl (k 0, 4, .inl (fun _ => 0))), (q29_4, .inl (k 0, 4, .inl (fun _ => 0))), (q36_5, .inl (k 5, 5, .inr (.inr (.inr (.inr (va_up (fun _ => none) 0 (some q54_6))))))), (q54_6, .inr (5, [.ref (u58_7.1 0), .ref (u58_7.1 1), .ref (u58_7.1 2), .ref (u58_7.1 3), .ref (u58_7.1 4)])), (u58_7.1 0, .inl (k 0, 64, .inl (fun _ => 0))), (u58_7.1 1, .inl (k 0, 8, .inl (fun _ => 0))), (u58_7.1 2, .inl (k 0, 8, .inl (u58_7.2 0))), (u58_7.1 3, .inl (k 0, 3, .inl (fun _ => 0))), (u58_7.1 4, .inl (k 0, 3, .inl (fun _ => 0)))] := hD
  refine lv_iinc (v := 1) (lv' := [(1, .int 1), (0, .ref h0)]) hx hb dX3_init_62 hl (k := 0) rfl (by decide) (by decide) rfl (fun ls hl => ?_)
  refine lv_goto (tgt := 44) hx hb dX3_init_65 (by decide) ?_
  refine lv_iload_n hx hb dX3_init_44 rfl (lv_at hl 0 rfl) ?_
  refine lv_iconst (v := 4) hx hb dX3_init_45 (by decide) ?_
  refine lv_icmp_gt (tgt := 68) hx hb dX3_init_46 (by decide) (fun c_2 => ?_) (fun c_2 => ?_)
  · first | exact absurd c_2 (by decide) | exact absurd (by decide) c_2
  refine lv_aload_n hx hb dX3_init_49 rfl (lv_at hl 1 rfl) ?_
  refine va_get (D := D) (ci := 3) (v := .ref q36_5) (C := RX3) (T := TX3) (N := 10) hx hb hT in_X3 hown hK hP 0 rfl rfl 0 (by decide) (hT _ t400) (fun _ h9 => h9) rfl dX3_init_50 ?_
  refine lv_iload_n hx hb dX3_init_53 rfl (lv_at hl 0 rfl) ?_
  refine va_new (ci := 5) (fs := [.null, .null, .null, .null, .null]) (C := RX5) (T := TX5) (N := 5) hx hb hT in_X5 tyX5 tyX5_ok hown (hT _ t397) (hT _ t159) (hT _ t108) hK hP hD hS hA rfl (fun j hj => by rcases (show j = 0 ∨ j = 1 ∨ j = 2 ∨ j = 3 ∨ j = 4 by omega) with rfl | rfl | rfl | rfl | rfl <;> rfl) (Nat.le_of_ble_eq_true rfl) (Nat.le_of_ble_eq_true rfl) dX3_init_54 (fun q54_8 H hP9 hD9 hS9 => ?_)
  clear hP hD hS
  have hS := hS9
  have hP := hP9
  have hD := hD9
  clear hP9 hD9 hS9
  replace hP : va_P D vwCl [(h0, .inr (3, [.ref q36_5, .ref q7_1, .ref q15_2, .ref q22_3, .ref q29_4, .int 0, .int 0, .int 0, .int 0, .int 0])), (q7_1, .inl (k 0, 6, .inl (fun _ => 0))), (q15_2, .inl (k 0, 6, .inl (fun _ => 0))), (q22_3, .inl (k 0, 4, .inl (fun _ => 0))), (q29_4, .inl (k 0, 4, .inl (fun _ => 0))), (q36_5, .inl (k 5, 5, .inr (.inr (.inr (.inr (va_up (fun _ => none) 0 (some q54_6))))))), (q54_6, .inr (5, [.ref (u58_7.1 0), .ref (u58_7.1 1), .ref (u58_7.1 2), .ref (u58_7.1 3), .ref (u58_7.1 4)])), (u58_7.1 0, .inl (k 0, 64, .inl (fun _ => 0))), (u58_7.1 1, .inl (k 0, 8, .inl (fun _ => 0))), (u58_7.1 2, .inl (k 0, 8, .inl (u58_7.2 0))), (u58_7.1 3, .inl (k 0, 3, .inl (fun _ => 0))), (u58_7.1 4, .inl (k 0, 3, .inl (fun _ => 0))), (q54_8, .inr (5, [.null, .null, .null, .null, .null]))] H := hP
  replace hD : va_D A [(h0, .inr (3, [.ref q36_5, .ref q7_1, .ref q15_2, .ref q22_3, .ref q29_4, .int 0, .int 0, .int 0, .int 0, .int 0])), (q7_1, .inl (k 0, 6, .inl (fun _ => 0))), (q15_2, .inl (k 0, 6, .inl (fun _ => 0))), (q22_3, .inl (k 0, 4, .inl (fun _ => 0))), (q29_4, .inl (k 0, 4, .inl (fun _ => 0))), (q36_5, .inl (k 5, 5, .inr (.inr (.inr (.inr (va_up (fun _ => none) 0 (some q54_6))))))), (q54_6, .inr (5, [.ref (u58_7.1 0), .ref (u58_7.1 1), .ref (u58_7.1 2), .ref (u58_7.1 3), .ref (u58_7.1 4)])), (u58_7.1 0, .inl (k 0, 64, .inl (fun _ => 0))), (u58_7.1 1, .inl (k 0, 8, .inl (fun _ => 0))), (u58_7.1 2, .inl (k 0, 8, .inl (u58_7.2 0))), (u58_7.1 3, .inl (k 0, 3, .inl (fun _ => 0))), (u58_7.1 4, .inl (k 0, 3, .inl (fun _ => 0))), (q54_8, .inr (5, [.null, .null, .null, .null, .null]))] := hD
  refine W.widen (k := 12) (n := 121) (Nat.le_of_ble_eq_true rfl) (Nat.le_of_ble_eq_true rfl) ?_
  refine lv_dup hx hb dX3_init_57 rfl ?_
  refine rw_v (wc := [(q54_8, .inr (5, [.null, .null, .null, .null, .null]))]) (wr := [(h0, .inr (3, [.ref q36_5, .ref q7_1, .ref q15_2, .ref q22_3, .ref q29_4, .int 0, .int 0, .int 0, .int 0, .int 0])), (q7_1, .inl (k 0, 6, .inl (fun _ => 0))), (q15_2, .inl (k 0, 6, .inl (fun _ => 0))), (q22_3, .inl (k 0, 4, .inl (fun _ => 0))), (q29_4, .inl (k 0, 4, .inl (fun _ => 0))), (q36_5, .inl (k 5, 5, .inr (.inr (.inr (.inr (va_up (fun _ => none) 0 (some q54_6))))))), (q54_6, .inr (5, [.ref (u58_7.1 0), .ref (u58_7.1 1), .ref (u58_7.1 2), .ref (u58_7.1 3), .ref (u58_7.1 4)])), (u58_7.1 0, .inl (k 0, 64, .inl (fun _ => 0))), (u58_7.1 1, .inl (k 0, 8, .inl (fun _ => 0))), (u58_7.1 2, .inl (k 0, 8, .inl (u58_7.2 0))), (u58_7.1 3, .inl (k 0, 3, .inl (fun _ => 0))), (u58_7.1 4, .inl (k 0, 3, .inl (fun _ => 0)))]) [12] [0, 1, 2, 3, 4, 5, 6, 7, 8, 9, 10, 11] rfl rfl (by decide +kernel) (by decide +kernel) (by decide +kernel) hP hD hS hA (fun hPc hDc => run_I (C := RX5) (As := []) (rest := [.ref q54_8, .int 1, .ref q36_5]) S (c_X5_init l D k q54_8 _) (gdC t162) t399 t161 t108 rfl ok_X5_init ⟨rfl, rfl, Nat.le_of_ble_eq_true rfl, Nat.le_of_ble_eq_true rfl⟩ (pw_S hK hN hPc hDc) rfl hl.1 rfl (Nat.le_of_ble_eq_true rfl) ⟨Nat.le_of_ble_eq_true rfl, Nat.le_of_ble_eq_true rfl⟩ dX3_init_58) (fun u58_9 H locs hu58_9 hKu58_9 hP9 hD9 hS9 => ?_)
  clear hP hD hS
  have hS := hS9
  have hP := hP9
  have hD := hD9
  clear hP9 hD9 hS9
  replace hP : va_P D vwCl [(h0, .inr (3, [.ref q36_5, .ref q7_1, .ref q15_2, .ref q22_3, .ref q29_4, .int 0, .int 0, .int 0, .int 0, .int 0])), (q7_1, .inl (k 0, 6, .inl (fun _ => 0))), (q15_2, .inl (k 0, 6, .inl (fun _ => 0))), (q22_3, .inl (k 0, 4, .inl (fun _ => 0))), (q29_4, .inl (k 0, 4, .inl (fun _ => 0))), (q36_5, .inl (k 5, 5, .inr (.inr (.inr (.inr (va_up (fun _ => none) 0 (some q54_6))))))), (q54_6, .inr (5, [.ref (u58_7.1 0), .ref (u58_7.1 1), .ref (u58_7.1 2), .ref (u58_7.1 3), .ref (u58_7.1 4)])), (u58_7.1 0, .inl (k 0, 64, .inl (fun _ => 0))), (u58_7.1 1, .inl (k 0, 8, .inl (fun _ => 0))), (u58_7.1 2, .inl (k 0, 8, .inl (u58_7.2 0))), (u58_7.1 3, .inl (k 0, 3, .inl (fun _ => 0))), (u58_7.1 4, .inl (k 0, 3, .inl (fun _ => 0))), (q54_8, .inr (5, [.ref (u58_9.1 0), .ref (u58_9.1 1), .ref (u58_9.1 2), .ref (u58_9.1 3), .ref (u58_9.1 4)])), (u58_9.1 0, .inl (k 0, 64, .inl (fun _ => 0))), (u58_9.1 1, .inl (k 0, 8, .inl (fun _ => 0))), (u58_9.1 2, .inl (k 0, 8, .inl (u58_9.2 0))), (u58_9.1 3, .inl (k 0, 3, .inl (fun _ => 0))), (u58_9.1 4, .inl (k 0, 3, .inl (fun _ => 0)))] H := hP
  replace hD : va_D A [(h0, .inr (3, [.ref q36_5, .ref q7_1, .ref q15_2, .ref q22_3, .ref q29_4, .int 0, .int 0, .int 0, .int 0, .int 0])), (q7_1, .inl (k 0, 6, .inl (fun _ => 0))), (q15_2, .inl (k 0, 6, .inl (fun _ => 0))), (q22_3, .inl (k 0, 4, .inl (fun _ => 0))), (q29_4, .inl (k 0, 4, .inl (fun _ => 0))), (q36_5, .inl (k 5, 5, .inr (.inr (.inr (.inr (va_up (fun _ => none) 0 (some q54_6))))))), (q54_6, .inr (5, [.ref (u58_7.1 0), .ref (u58_7.1 1), .ref (u58_7.1 2), .ref (u58_7.1 3), .ref (u58_7.1 4)])), (u58_7.1 0, .inl (k 0, 64, .inl (fun _ => 0))), (u58_7.1 1, .inl (k 0, 8, .inl (fun _ => 0))), (u58_7.1 2, .inl (k 0, 8, .inl (u58_7.2 0))), (u58_7.1 3, .inl (k 0, 3, .inl (fun _ => 0))), (u58_7.1 4, .inl (k 0, 3, .inl (fun _ => 0))), (q54_8, .inr (5, [.ref (u58_9.1 0), .ref (u58_9.1 1), .ref (u58_9.1 2), .ref (u58_9.1 3), .ref (u58_9.1 4)])), (u58_9.1 0, .inl (k 0, 64, .inl (fun _ => 0))), (u58_9.1 1, .inl (k 0, 8, .inl (fun _ => 0))), (u58_9.1 2, .inl (k 0, 8, .inl (u58_9.2 0))), (u58_9.1 3, .inl (k 0, 3, .inl (fun _ => 0))), (u58_9.1 4, .inl (k 0, 3, .inl (fun _ => 0)))] := hD
  refine W.widen (k := 17) (n := 207) (Nat.le_of_ble_eq_true rfl) (Nat.le_of_ble_eq_true rfl) ?_
  refine va_astq hx hb hK hP hD hS 5 5 12 5 rfl rfl rfl rfl (by unfold vp_in; decide) dX3_init_61 (fun H locs hP9 hD9 hS9 => ?_)
  clear hP hD hS
  have hS := hS9
  have hP := hP9
  have hD := hD9
  clear hP9 hD9 hS9
  rw [show ((1 : Int32)).toNatClampNeg = 1 from by decide] at hP hD
  replace hP : va_P D vwCl [(h0, .inr (3, [.ref q36_5, .ref q7_1, .ref q15_2, .ref q22_3, .ref q29_4, .int 0, .int 0, .int 0, .int 0, .int 0])), (q7_1, .inl (k 0, 6, .inl (fun _ => 0))), (q15_2, .inl (k 0, 6, .inl (fun _ => 0))), (q22_3, .inl (k 0, 4, .inl (fun _ => 0))), (q29_4, .inl (k 0, 4, .inl (fun _ => 0))), (q36_5, .inl (k 5, 5, .inr (.inr (.inr (.inr (va_up (va_up (fun _ => none) 0 (some q54_6)) 1 (some q54_8))))))), (q54_6, .inr (5, [.ref (u58_7.1 0), .ref (u58_7.1 1), .ref (u58_7.1 2), .ref (u58_7.1 3), .ref (u58_7.1 4)])), (u58_7.1 0, .inl (k 0, 64, .inl (fun _ => 0))), (u58_7.1 1, .inl (k 0, 8, .inl (fun _ => 0))), (u58_7.1 2, .inl (k 0, 8, .inl (u58_7.2 0))), (u58_7.1 3, .inl (k 0, 3, .inl (fun _ => 0))), (u58_7.1 4, .inl (k 0, 3, .inl (fun _ => 0))), (q54_8, .inr (5, [.ref (u58_9.1 0), .ref (u58_9.1 1), .ref (u58_9.1 2), .ref (u58_9.1 3), .ref (u58_9.1 4)])), (u58_9.1 0, .inl (k 0, 64, .inl (fun _ => 0))), (u58_9.1 1, .inl (k 0, 8, .inl (fun _ => 0))), (u58_9.1 2, .inl (k 0, 8, .inl (u58_9.2 0))), (u58_9.1 3, .inl (k 0, 3, .inl (fun _ => 0))), (u58_9.1 4, .inl (k 0, 3, .inl (fun _ => 0)))] H := hP
  replace hD : va_D A [(h0, .inr (3, [.ref q36_5, .ref q7_1, .ref q15_2, .ref q22_3, .ref q29_4, .int 0, .int 0, .int 0, .int 0, .int 0])), (q7_1, .inl (k 0, 6, .inl (fun _ => 0))), (q15_2, .inl (k 0, 6, .inl (fun _ => 0))), (q22_3, .inl (k 0, 4, .inl (fun _ => 0))), (q29_4, .inl (k 0, 4, .inl (fun _ => 0))), (q36_5, .inl (k 5, 5, .inr (.inr (.inr (.inr (va_up (va_up (fun _ => none) 0 (some q54_6)) 1 (some q54_8))))))), (q54_6, .inr (5, [.ref (u58_7.1 0), .ref (u58_7.1 1), .ref (u58_7.1 2), .ref (u58_7.1 3), .ref (u58_7.1 4)])), (u58_7.1 0, .inl (k 0, 64, .inl (fun _ => 0))), (u58_7.1 1, .inl (k 0, 8, .inl (fun _ => 0))), (u58_7.1 2, .inl (k 0, 8, .inl (u58_7.2 0))), (u58_7.1 3, .inl (k 0, 3, .inl (fun _ => 0))), (u58_7.1 4, .inl (k 0, 3, .inl (fun _ => 0))), (q54_8, .inr (5, [.ref (u58_9.1 0), .ref (u58_9.1 1), .ref (u58_9.1 2), .ref (u58_9.1 3), .ref (u58_9.1 4)])), (u58_9.1 0, .inl (k 0, 64, .inl (fun _ => 0))), (u58_9.1 1, .inl (k 0, 8, .inl (fun _ => 0))), (u58_9.1 2, .inl (k 0, 8, .inl (u58_9.2 0))), (u58_9.1 3, .inl (k 0, 3, .inl (fun _ => 0))), (u58_9.1 4, .inl (k 0, 3, .inl (fun _ => 0)))] := hD
  refine lv_iinc (v := 2) (lv' := [(1, .int 2), (0, .ref h0)]) hx hb dX3_init_62 hl (k := 0) rfl (by decide) (by decide) rfl (fun ls hl => ?_)
  refine lv_goto (tgt := 44) hx hb dX3_init_65 (by decide) ?_
  refine lv_iload_n hx hb dX3_init_44 rfl (lv_at hl 0 rfl) ?_
  refine lv_iconst (v := 4) hx hb dX3_init_45 (by decide) ?_
  refine lv_icmp_gt (tgt := 68) hx hb dX3_init_46 (by decide) (fun c_3 => ?_) (fun c_3 => ?_)
  · first | exact absurd c_3 (by decide) | exact absurd (by decide) c_3
  refine lv_aload_n hx hb dX3_init_49 rfl (lv_at hl 1 rfl) ?_
  refine va_get (D := D) (ci := 3) (v := .ref q36_5) (C := RX3) (T := TX3) (N := 10) hx hb hT in_X3 hown hK hP 0 rfl rfl 0 (by decide) (hT _ t400) (fun _ h9 => h9) rfl dX3_init_50 ?_
  refine lv_iload_n hx hb dX3_init_53 rfl (lv_at hl 0 rfl) ?_
  refine va_new (ci := 5) (fs := [.null, .null, .null, .null, .null]) (C := RX5) (T := TX5) (N := 5) hx hb hT in_X5 tyX5 tyX5_ok hown (hT _ t397) (hT _ t159) (hT _ t108) hK hP hD hS hA rfl (fun j hj => by rcases (show j = 0 ∨ j = 1 ∨ j = 2 ∨ j = 3 ∨ j = 4 by omega) with rfl | rfl | rfl | rfl | rfl <;> rfl) (Nat.le_of_ble_eq_true rfl) (Nat.le_of_ble_eq_true rfl) dX3_init_54 (fun q54_10 H hP9 hD9 hS9 => ?_)
  clear hP hD hS
  have hS := hS9
  have hP := hP9
  have hD := hD9
  clear hP9 hD9 hS9
  replace hP : va_P D vwCl [(h0, .inr (3, [.ref q36_5, .ref q7_1, .ref q15_2, .ref q22_3, .ref q29_4, .int 0, .int 0, .int 0, .int 0, .int 0])), (q7_1, .inl (k 0, 6, .inl (fun _ => 0))), (q15_2, .inl (k 0, 6, .inl (fun _ => 0))), (q22_3, .inl (k 0, 4, .inl (fun _ => 0))), (q29_4, .inl (k 0, 4, .inl (fun _ => 0))), (q36_5, .inl (k 5, 5, .inr (.inr (.inr (.inr (va_up (va_up (fun _ => none) 0 (some q54_6)) 1 (some q54_8))))))), (q54_6, .inr (5, [.ref (u58_7.1 0), .ref (u58_7.1 1), .ref (u58_7.1 2), .ref (u58_7.1 3), .ref (u58_7.1 4)])), (u58_7.1 0, .inl (k 0, 64, .inl (fun _ => 0))), (u58_7.1 1, .inl (k 0, 8, .inl (fun _ => 0))), (u58_7.1 2, .inl (k 0, 8, .inl (u58_7.2 0))), (u58_7.1 3, .inl (k 0, 3, .inl (fun _ => 0))), (u58_7.1 4, .inl (k 0, 3, .inl (fun _ => 0))), (q54_8, .inr (5, [.ref (u58_9.1 0), .ref (u58_9.1 1), .ref (u58_9.1 2), .ref (u58_9.1 3), .ref (u58_9.1 4)])), (u58_9.1 0, .inl (k 0, 64, .inl (fun _ => 0))), (u58_9.1 1, .inl (k 0, 8, .inl (fun _ => 0))), (u58_9.1 2, .inl (k 0, 8, .inl (u58_9.2 0))), (u58_9.1 3, .inl (k 0, 3, .inl (fun _ => 0))), (u58_9.1 4, .inl (k 0, 3, .inl (fun _ => 0))), (q54_10, .inr (5, [.null, .null, .null, .null, .null]))] H := hP
  replace hD : va_D A [(h0, .inr (3, [.ref q36_5, .ref q7_1, .ref q15_2, .ref q22_3, .ref q29_4, .int 0, .int 0, .int 0, .int 0, .int 0])), (q7_1, .inl (k 0, 6, .inl (fun _ => 0))), (q15_2, .inl (k 0, 6, .inl (fun _ => 0))), (q22_3, .inl (k 0, 4, .inl (fun _ => 0))), (q29_4, .inl (k 0, 4, .inl (fun _ => 0))), (q36_5, .inl (k 5, 5, .inr (.inr (.inr (.inr (va_up (va_up (fun _ => none) 0 (some q54_6)) 1 (some q54_8))))))), (q54_6, .inr (5, [.ref (u58_7.1 0), .ref (u58_7.1 1), .ref (u58_7.1 2), .ref (u58_7.1 3), .ref (u58_7.1 4)])), (u58_7.1 0, .inl (k 0, 64, .inl (fun _ => 0))), (u58_7.1 1, .inl (k 0, 8, .inl (fun _ => 0))), (u58_7.1 2, .inl (k 0, 8, .inl (u58_7.2 0))), (u58_7.1 3, .inl (k 0, 3, .inl (fun _ => 0))), (u58_7.1 4, .inl (k 0, 3, .inl (fun _ => 0))), (q54_8, .inr (5, [.ref (u58_9.1 0), .ref (u58_9.1 1), .ref (u58_9.1 2), .ref (u58_9.1 3), .ref (u58_9.1 4)])), (u58_9.1 0, .inl (k 0, 64, .inl (fun _ => 0))), (u58_9.1 1, .inl (k 0, 8, .inl (fun _ => 0))), (u58_9.1 2, .inl (k 0, 8, .inl (u58_9.2 0))), (u58_9.1 3, .inl (k 0, 3, .inl (fun _ => 0))), (u58_9.1 4, .inl (k 0, 3, .inl (fun _ => 0))), (q54_10, .inr (5, [.null, .null, .null, .null, .null]))] := hD
  refine W.widen (k := 18) (n := 212) (Nat.le_of_ble_eq_true rfl) (Nat.le_of_ble_eq_true rfl) ?_
  refine lv_dup hx hb dX3_init_57 rfl ?_
  refine rw_v (wc := [(q54_10, .inr (5, [.null, .null, .null, .null, .null]))]) (wr := [(h0, .inr (3, [.ref q36_5, .ref q7_1, .ref q15_2, .ref q22_3, .ref q29_4, .int 0, .int 0, .int 0, .int 0, .int 0])), (q7_1, .inl (k 0, 6, .inl (fun _ => 0))), (q15_2, .inl (k 0, 6, .inl (fun _ => 0))), (q22_3, .inl (k 0, 4, .inl (fun _ => 0))), (q29_4, .inl (k 0, 4, .inl (fun _ => 0))), (q36_5, .inl (k 5, 5, .inr (.inr (.inr (.inr (va_up (va_up (fun _ => none) 0 (some q54_6)) 1 (some q54_8))))))), (q54_6, .inr (5, [.ref (u58_7.1 0), .ref (u58_7.1 1), .ref (u58_7.1 2), .ref (u58_7.1 3), .ref (u58_7.1 4)])), (u58_7.1 0, .inl (k 0, 64, .inl (fun _ => 0))), (u58_7.1 1, .inl (k 0, 8, .inl (fun _ => 0))), (u58_7.1 2, .inl (k 0, 8, .inl (u58_7.2 0))), (u58_7.1 3, .inl (k 0, 3, .inl (fun _ => 0))), (u58_7.1 4, .inl (k 0, 3, .inl (fun _ => 0))), (q54_8, .inr (5, [.ref (u58_9.1 0), .ref (u58_9.1 1), .ref (u58_9.1 2), .ref (u58_9.1 3), .ref (u58_9.1 4)])), (u58_9.1 0, .inl (k 0, 64, .inl (fun _ => 0))), (u58_9.1 1, .inl (k 0, 8, .inl (fun _ => 0))), (u58_9.1 2, .inl (k 0, 8, .inl (u58_9.2 0))), (u58_9.1 3, .inl (k 0, 3, .inl (fun _ => 0))), (u58_9.1 4, .inl (k 0, 3, .inl (fun _ => 0)))]) [18] [0, 1, 2, 3, 4, 5, 6, 7, 8, 9, 10, 11, 12, 13, 14, 15, 16, 17] rfl rfl (by decide +kernel) (by decide +kernel) (by decide +kernel) hP hD hS hA (fun hPc hDc => run_I (C := RX5) (As := []) (rest := [.ref q54_10, .int 2, .ref q36_5]) S (c_X5_init l D k q54_10 _) (gdC t162) t399 t161 t108 rfl ok_X5_init ⟨rfl, rfl, Nat.le_of_ble_eq_true rfl, Nat.le_of_ble_eq_true rfl⟩ (pw_S hK hN hPc hDc) rfl hl.1 rfl (Nat.le_of_ble_eq_true rfl) ⟨Nat.le_of_ble_eq_true rfl, Nat.le_of_ble_eq_true rfl⟩ dX3_init_58) (fun u58_11 H locs hu58_11 hKu58_11 hP9 hD9 hS9 => ?_)
  clear hP hD hS
  have hS := hS9
  have hP := hP9
  have hD := hD9
  clear hP9 hD9 hS9
  replace hP : va_P D vwCl [(h0, .inr (3, [.ref q36_5, .ref q7_1, .ref q15_2, .ref q22_3, .ref q29_4, .int 0, .int 0, .int 0, .int 0, .int 0])), (q7_1, .inl (k 0, 6, .inl (fun _ => 0))), (q15_2, .inl (k 0, 6, .inl (fun _ => 0))), (q22_3, .inl (k 0, 4, .inl (fun _ => 0))), (q29_4, .inl (k 0, 4, .inl (fun _ => 0))), (q36_5, .inl (k 5, 5, .inr (.inr (.inr (.inr (va_up (va_up (fun _ => none) 0 (some q54_6)) 1 (some q54_8))))))), (q54_6, .inr (5, [.ref (u58_7.1 0), .ref (u58_7.1 1), .ref (u58_7.1 2), .ref (u58_7.1 3), .ref (u58_7.1 4)])), (u58_7.1 0, .inl (k 0, 64, .inl (fun _ => 0))), (u58_7.1 1, .inl (k 0, 8, .inl (fun _ => 0))), (u58_7.1 2, .inl (k 0, 8, .inl (u58_7.2 0))), (u58_7.1 3, .inl (k 0, 3, .inl (fun _ => 0))), (u58_7.1 4, .inl (k 0, 3, .inl (fun _ => 0))), (q54_8, .inr (5, [.ref (u58_9.1 0), .ref (u58_9.1 1), .ref (u58_9.1 2), .ref (u58_9.1 3), .ref (u58_9.1 4)])), (u58_9.1 0, .inl (k 0, 64, .inl (fun _ => 0))), (u58_9.1 1, .inl (k 0, 8, .inl (fun _ => 0))), (u58_9.1 2, .inl (k 0, 8, .inl (u58_9.2 0))), (u58_9.1 3, .inl (k 0, 3, .inl (fun _ => 0))), (u58_9.1 4, .inl (k 0, 3, .inl (fun _ => 0))), (q54_10, .inr (5, [.ref (u58_11.1 0), .ref (u58_11.1 1), .ref (u58_11.1 2), .ref (u58_11.1 3), .ref (u58_11.1 4)])), (u58_11.1 0, .inl (k 0, 64, .inl (fun _ => 0))), (u58_11.1 1, .inl (k 0, 8, .inl (fun _ => 0))), (u58_11.1 2, .inl (k 0, 8, .inl (u58_11.2 0))), (u58_11.1 3, .inl (k 0, 3, .inl (fun _ => 0))), (u58_11.1 4, .inl (k 0, 3, .inl (fun _ => 0)))] H := hP
  replace hD : va_D A [(h0, .inr (3, [.ref q36_5, .ref q7_1, .ref q15_2, .ref q22_3, .ref q29_4, .int 0, .int 0, .int 0, .int 0, .int 0])), (q7_1, .inl (k 0, 6, .inl (fun _ => 0))), (q15_2, .inl (k 0, 6, .inl (fun _ => 0))), (q22_3, .inl (k 0, 4, .inl (fun _ => 0))), (q29_4, .inl (k 0, 4, .inl (fun _ => 0))), (q36_5, .inl (k 5, 5, .inr (.inr (.inr (.inr (va_up (va_up (fun _ => none) 0 (some q54_6)) 1 (some q54_8))))))), (q54_6, .inr (5, [.ref (u58_7.1 0), .ref (u58_7.1 1), .ref (u58_7.1 2), .ref (u58_7.1 3), .ref (u58_7.1 4)])), (u58_7.1 0, .inl (k 0, 64, .inl (fun _ => 0))), (u58_7.1 1, .inl (k 0, 8, .inl (fun _ => 0))), (u58_7.1 2, .inl (k 0, 8, .inl (u58_7.2 0))), (u58_7.1 3, .inl (k 0, 3, .inl (fun _ => 0))), (u58_7.1 4, .inl (k 0, 3, .inl (fun _ => 0))), (q54_8, .inr (5, [.ref (u58_9.1 0), .ref (u58_9.1 1), .ref (u58_9.1 2), .ref (u58_9.1 3), .ref (u58_9.1 4)])), (u58_9.1 0, .inl (k 0, 64, .inl (fun _ => 0))), (u58_9.1 1, .inl (k 0, 8, .inl (fun _ => 0))), (u58_9.1 2, .inl (k 0, 8, .inl (u58_9.2 0))), (u58_9.1 3, .inl (k 0, 3, .inl (fun _ => 0))), (u58_9.1 4, .inl (k 0, 3, .inl (fun _ => 0))), (q54_10, .inr (5, [.ref (u58_11.1 0), .ref (u58_11.1 1), .ref (u58_11.1 2), .ref (u58_11.1 3), .ref (u58_11.1 4)])), (u58_11.1 0, .inl (k 0, 64, .inl (fun _ => 0))), (u58_11.1 1, .inl (k 0, 8, .inl (fun _ => 0))), (u58_11.1 2, .inl (k 0, 8, .inl (u58_11.2 0))), (u58_11.1 3, .inl (k 0, 3, .inl (fun _ => 0))), (u58_11.1 4, .inl (k 0, 3, .inl (fun _ => 0)))] := hD
  refine W.widen (k := 23) (n := 298) (Nat.le_of_ble_eq_true rfl) (Nat.le_of_ble_eq_true rfl) ?_
  refine va_astq hx hb hK hP hD hS 5 5 18 5 rfl rfl rfl rfl (by unfold vp_in; decide) dX3_init_61 (fun H locs hP9 hD9 hS9 => ?_)
  clear hP hD hS
  have hS := hS9
  have hP := hP9
  have hD := hD9
  clear hP9 hD9 hS9
  rw [show ((2 : Int32)).toNatClampNeg = 2 from by decide] at hP hD
  replace hP : va_P D vwCl [(h0, .inr (3, [.ref q36_5, .ref q7_1, .ref q15_2, .ref q22_3, .ref q29_4, .int 0, .int 0, .int 0, .int 0, .int 0])), (q7_1, .inl (k 0, 6, .inl (fun _ => 0))), (q15_2, .inl (k 0, 6, .inl (fun _ => 0))), (q22_3, .inl (k 0, 4, .inl (fun _ => 0))), (q29_4, .inl (k 0, 4, .inl (fun _ => 0))), (q36_5, .inl (k 5, 5, .inr (.inr (.inr (.inr (va_up (va_up (va_up (fun _ => none) 0 (some q54_6)) 1 (some q54_8)) 2 (some q54_10))))))), (q54_6, .inr (5, [.ref (u58_7.1 0), .ref (u58_7.1 1), .ref (u58_7.1 2), .ref (u58_7.1 3), .ref (u58_7.1 4)])), (u58_7.1 0, .inl (k 0, 64, .inl (fun _ => 0))), (u58_7.1 1, .inl (k 0, 8, .inl (fun _ => 0))), (u58_7.1 2, .inl (k 0, 8, .inl (u58_7.2 0))), (u58_7.1 3, .inl (k 0, 3, .inl (fun _ => 0))), (u58_7.1 4, .inl (k 0, 3, .inl (fun _ => 0))), (q54_8, .inr (5, [.ref (u58_9.1 0), .ref (u58_9.1 1), .ref (u58_9.1 2), .ref (u58_9.1 3), .ref (u58_9.1 4)])), (u58_9.1 0, .inl (k 0, 64, .inl (fun _ => 0))), (u58_9.1 1, .inl (k 0, 8, .inl (fun _ => 0))), (u58_9.1 2, .inl (k 0, 8, .inl (u58_9.2 0))), (u58_9.1 3, .inl (k 0, 3, .inl (fun _ => 0))), (u58_9.1 4, .inl (k 0, 3, .inl (fun _ => 0))), (q54_10, .inr (5, [.ref (u58_11.1 0), .ref (u58_11.1 1), .ref (u58_11.1 2), .ref (u58_11.1 3), .ref (u58_11.1 4)])), (u58_11.1 0, .inl (k 0, 64, .inl (fun _ => 0))), (u58_11.1 1, .inl (k 0, 8, .inl (fun _ => 0))), (u58_11.1 2, .inl (k 0, 8, .inl (u58_11.2 0))), (u58_11.1 3, .inl (k 0, 3, .inl (fun _ => 0))), (u58_11.1 4, .inl (k 0, 3, .inl (fun _ => 0)))] H := hP
  replace hD : va_D A [(h0, .inr (3, [.ref q36_5, .ref q7_1, .ref q15_2, .ref q22_3, .ref q29_4, .int 0, .int 0, .int 0, .int 0, .int 0])), (q7_1, .inl (k 0, 6, .inl (fun _ => 0))), (q15_2, .inl (k 0, 6, .inl (fun _ => 0))), (q22_3, .inl (k 0, 4, .inl (fun _ => 0))), (q29_4, .inl (k 0, 4, .inl (fun _ => 0))), (q36_5, .inl (k 5, 5, .inr (.inr (.inr (.inr (va_up (va_up (va_up (fun _ => none) 0 (some q54_6)) 1 (some q54_8)) 2 (some q54_10))))))), (q54_6, .inr (5, [.ref (u58_7.1 0), .ref (u58_7.1 1), .ref (u58_7.1 2), .ref (u58_7.1 3), .ref (u58_7.1 4)])), (u58_7.1 0, .inl (k 0, 64, .inl (fun _ => 0))), (u58_7.1 1, .inl (k 0, 8, .inl (fun _ => 0))), (u58_7.1 2, .inl (k 0, 8, .inl (u58_7.2 0))), (u58_7.1 3, .inl (k 0, 3, .inl (fun _ => 0))), (u58_7.1 4, .inl (k 0, 3, .inl (fun _ => 0))), (q54_8, .inr (5, [.ref (u58_9.1 0), .ref (u58_9.1 1), .ref (u58_9.1 2), .ref (u58_9.1 3), .ref (u58_9.1 4)])), (u58_9.1 0, .inl (k 0, 64, .inl (fun _ => 0))), (u58_9.1 1, .inl (k 0, 8, .inl (fun _ => 0))), (u58_9.1 2, .inl (k 0, 8, .inl (u58_9.2 0))), (u58_9.1 3, .inl (k 0, 3, .inl (fun _ => 0))), (u58_9.1 4, .inl (k 0, 3, .inl (fun _ => 0))), (q54_10, .inr (5, [.ref (u58_11.1 0), .ref (u58_11.1 1), .ref (u58_11.1 2), .ref (u58_11.1 3), .ref (u58_11.1 4)])), (u58_11.1 0, .inl (k 0, 64, .inl (fun _ => 0))), (u58_11.1 1, .inl (k 0, 8, .inl (fun _ => 0))), (u58_11.1 2, .inl (k 0, 8, .inl (u58_11.2 0))), (u58_11.1 3, .inl (k 0, 3, .inl (fun _ => 0))), (u58_11.1 4, .inl (k 0, 3, .inl (fun _ => 0)))] := hD
  refine lv_iinc (v := 3) (lv' := [(1, .int 3), (0, .ref h0)]) hx hb dX3_init_62 hl (k := 0) rfl (by decide) (by decide) rfl (fun ls hl => ?_)
  refine lv_goto (tgt := 44) hx hb dX3_init_65 (by decide) ?_
  refine lv_iload_n hx hb dX3_init_44 rfl (lv_at hl 0 rfl) ?_
  refine lv_iconst (v := 4) hx hb dX3_init_45 (by decide) ?_
  refine lv_icmp_gt (tgt := 68) hx hb dX3_init_46 (by decide) (fun c_4 => ?_) (fun c_4 => ?_)
  · first | exact absurd c_4 (by decide) | exact absurd (by decide) c_4
  refine lv_aload_n hx hb dX3_init_49 rfl (lv_at hl 1 rfl) ?_
  refine va_get (D := D) (ci := 3) (v := .ref q36_5) (C := RX3) (T := TX3) (N := 10) hx hb hT in_X3 hown hK hP 0 rfl rfl 0 (by decide) (hT _ t400) (fun _ h9 => h9) rfl dX3_init_50 ?_
  refine lv_iload_n hx hb dX3_init_53 rfl (lv_at hl 0 rfl) ?_
  refine va_new (ci := 5) (fs := [.null, .null, .null, .null, .null]) (C := RX5) (T := TX5) (N := 5) hx hb hT in_X5 tyX5 tyX5_ok hown (hT _ t397) (hT _ t159) (hT _ t108) hK hP hD hS hA rfl (fun j hj => by rcases (show j = 0 ∨ j = 1 ∨ j = 2 ∨ j = 3 ∨ j = 4 by omega) with rfl | rfl | rfl | rfl | rfl <;> rfl) (Nat.le_of_ble_eq_true rfl) (Nat.le_of_ble_eq_true rfl) dX3_init_54 (fun q54_12 H hP9 hD9 hS9 => ?_)
  clear hP hD hS
  have hS := hS9
  have hP := hP9
  have hD := hD9
  clear hP9 hD9 hS9
  replace hP : va_P D vwCl [(h0, .inr (3, [.ref q36_5, .ref q7_1, .ref q15_2, .ref q22_3, .ref q29_4, .int 0, .int 0, .int 0, .int 0, .int 0])), (q7_1, .inl (k 0, 6, .inl (fun _ => 0))), (q15_2, .inl (k 0, 6, .inl (fun _ => 0))), (q22_3, .inl (k 0, 4, .inl (fun _ => 0))), (q29_4, .inl (k 0, 4, .inl (fun _ => 0))), (q36_5, .inl (k 5, 5, .inr (.inr (.inr (.inr (va_up (va_up (va_up (fun _ => none) 0 (some q54_6)) 1 (some q54_8)) 2 (some q54_10))))))), (q54_6, .inr (5, [.ref (u58_7.1 0), .ref (u58_7.1 1), .ref (u58_7.1 2), .ref (u58_7.1 3), .ref (u58_7.1 4)])), (u58_7.1 0, .inl (k 0, 64, .inl (fun _ => 0))), (u58_7.1 1, .inl (k 0, 8, .inl (fun _ => 0))), (u58_7.1 2, .inl (k 0, 8, .inl (u58_7.2 0))), (u58_7.1 3, .inl (k 0, 3, .inl (fun _ => 0))), (u58_7.1 4, .inl (k 0, 3, .inl (fun _ => 0))), (q54_8, .inr (5, [.ref (u58_9.1 0), .ref (u58_9.1 1), .ref (u58_9.1 2), .ref (u58_9.1 3), .ref (u58_9.1 4)])), (u58_9.1 0, .inl (k 0, 64, .inl (fun _ => 0))), (u58_9.1 1, .inl (k 0, 8, .inl (fun _ => 0))), (u58_9.1 2, .inl (k 0, 8, .inl (u58_9.2 0))), (u58_9.1 3, .inl (k 0, 3, .inl (fun _ => 0))), (u58_9.1 4, .inl (k 0, 3, .inl (fun _ => 0))), (q54_10, .inr (5, [.ref (u58_11.1 0), .ref (u58_11.1 1), .ref (u58_11.1 2), .ref (u58_11.1 3), .ref (u58_11.1 4)])), (u58_11.1 0, .inl (k 0, 64, .inl (fun _ => 0))), (u58_11.1 1, .inl (k 0, 8, .inl (fun _ => 0))), (u58_11.1 2, .inl (k 0, 8, .inl (u58_11.2 0))), (u58_11.1 3, .inl (k 0, 3, .inl (fun _ => 0))), (u58_11.1 4, .inl (k 0, 3, .inl (fun _ => 0))), (q54_12, .inr (5, [.null, .null, .null, .null, .null]))] H := hP
  replace hD : va_D A [(h0, .inr (3, [.ref q36_5, .ref q7_1, .ref q15_2, .ref q22_3, .ref q29_4, .int 0, .int 0, .int 0, .int 0, .int 0])), (q7_1, .inl (k 0, 6, .inl (fun _ => 0))), (q15_2, .inl (k 0, 6, .inl (fun _ => 0))), (q22_3, .inl (k 0, 4, .inl (fun _ => 0))), (q29_4, .inl (k 0, 4, .inl (fun _ => 0))), (q36_5, .inl (k 5, 5, .inr (.inr (.inr (.inr (va_up (va_up (va_up (fun _ => none) 0 (some q54_6)) 1 (some q54_8)) 2 (some q54_10))))))), (q54_6, .inr (5, [.ref (u58_7.1 0), .ref (u58_7.1 1), .ref (u58_7.1 2), .ref (u58_7.1 3), .ref (u58_7.1 4)])), (u58_7.1 0, .inl (k 0, 64, .inl (fun _ => 0))), (u58_7.1 1, .inl (k 0, 8, .inl (fun _ => 0))), (u58_7.1 2, .inl (k 0, 8, .inl (u58_7.2 0))), (u58_7.1 3, .inl (k 0, 3, .inl (fun _ => 0))), (u58_7.1 4, .inl (k 0, 3, .inl (fun _ => 0))), (q54_8, .inr (5, [.ref (u58_9.1 0), .ref (u58_9.1 1), .ref (u58_9.1 2), .ref (u58_9.1 3), .ref (u58_9.1 4)])), (u58_9.1 0, .inl (k 0, 64, .inl (fun _ => 0))), (u58_9.1 1, .inl (k 0, 8, .inl (fun _ => 0))), (u58_9.1 2, .inl (k 0, 8, .inl (u58_9.2 0))), (u58_9.1 3, .inl (k 0, 3, .inl (fun _ => 0))), (u58_9.1 4, .inl (k 0, 3, .inl (fun _ => 0))), (q54_10, .inr (5, [.ref (u58_11.1 0), .ref (u58_11.1 1), .ref (u58_11.1 2), .ref (u58_11.1 3), .ref (u58_11.1 4)])), (u58_11.1 0, .inl (k 0, 64, .inl (fun _ => 0))), (u58_11.1 1, .inl (k 0, 8, .inl (fun _ => 0))), (u58_11.1 2, .inl (k 0, 8, .inl (u58_11.2 0))), (u58_11.1 3, .inl (k 0, 3, .inl (fun _ => 0))), (u58_11.1 4, .inl (k 0, 3, .inl (fun _ => 0))), (q54_12, .inr (5, [.null, .null, .null, .null, .null]))] := hD
  refine W.widen (k := 24) (n := 303) (Nat.le_of_ble_eq_true rfl) (Nat.le_of_ble_eq_true rfl) ?_
  refine lv_dup hx hb dX3_init_57 rfl ?_
  refine rw_v (wc := [(q54_12, .inr (5, [.null, .null, .null, .null, .null]))]) (wr := [(h0, .inr (3, [.ref q36_5, .ref q7_1, .ref q15_2, .ref q22_3, .ref q29_4, .int 0, .int 0, .int 0, .int 0, .int 0])), (q7_1, .inl (k 0, 6, .inl (fun _ => 0))), (q15_2, .inl (k 0, 6, .inl (fun _ => 0))), (q22_3, .inl (k 0, 4, .inl (fun _ => 0))), (q29_4, .inl (k 0, 4, .inl (fun _ => 0))), (q36_5, .inl (k 5, 5, .inr (.inr (.inr (.inr (va_up (va_up (va_up (fun _ => none) 0 (some q54_6)) 1 (some q54_8)) 2 (some q54_10))))))), (q54_6, .inr (5, [.ref (u58_7.1 0), .ref (u58_7.1 1), .ref (u58_7.1 2), .ref (u58_7.1 3), .ref (u58_7.1 4)])), (u58_7.1 0, .inl (k 0, 64, .inl (fun _ => 0))), (u58_7.1 1, .inl (k 0, 8, .inl (fun _ => 0))), (u58_7.1 2, .inl (k 0, 8, .inl (u58_7.2 0))), (u58_7.1 3, .inl (k 0, 3, .inl (fun _ => 0))), (u58_7.1 4, .inl (k 0, 3, .inl (fun _ => 0))), (q54_8, .inr (5, [.ref (u58_9.1 0), .ref (u58_9.1 1), .ref (u58_9.1 2), .ref (u58_9.1 3), .ref (u58_9.1 4)])), (u58_9.1 0, .inl (k 0, 64, .inl (fun _ => 0))), (u58_9.1 1, .inl (k 0, 8, .inl (fun _ => 0))), (u58_9.1 2, .inl (k 0, 8, .inl (u58_9.2 0))), (u58_9.1 3, .inl (k 0, 3, .inl (fun _ => 0))), (u58_9.1 4, .inl (k 0, 3, .inl (fun _ => 0))), (q54_10, .inr (5, [.ref (u58_11.1 0), .ref (u58_11.1 1), .ref (u58_11.1 2), .ref (u58_11.1 3), .ref (u58_11.1 4)])), (u58_11.1 0, .inl (k 0, 64, .inl (fun _ => 0))), (u58_11.1 1, .inl (k 0, 8, .inl (fun _ => 0))), (u58_11.1 2, .inl (k 0, 8, .inl (u58_11.2 0))), (u58_11.1 3, .inl (k 0, 3, .inl (fun _ => 0))), (u58_11.1 4, .inl (k 0, 3, .inl (fun _ => 0)))]) [24] [0, 1, 2, 3, 4, 5, 6, 7, 8, 9, 10, 11, 12, 13, 14, 15, 16, 17, 18, 19, 20, 21, 22, 23] rfl rfl (by decide +kernel) (by decide +kernel) (by decide +kernel) hP hD hS hA (fun hPc hDc => run_I (C := RX5) (As := []) (rest := [.ref q54_12, .int 3, .ref q36_5]) S (c_X5_init l D k q54_12 _) (gdC t162) t399 t161 t108 rfl ok_X5_init ⟨rfl, rfl, Nat.le_of_ble_eq_true rfl, Nat.le_of_ble_eq_true rfl⟩ (pw_S hK hN hPc hDc) rfl hl.1 rfl (Nat.le_of_ble_eq_true rfl) ⟨Nat.le_of_ble_eq_true rfl, Nat.le_of_ble_eq_true rfl⟩ dX3_init_58) (fun u58_13 H locs hu58_13 hKu58_13 hP9 hD9 hS9 => ?_)
  clear hP hD hS
  have hS := hS9
  have hP := hP9
  have hD := hD9
  clear hP9 hD9 hS9
  replace hP : va_P D vwCl [(h0, .inr (3, [.ref q36_5, .ref q7_1, .ref q15_2, .ref q22_3, .ref q29_4, .int 0, .int 0, .int 0, .int 0, .int 0])), (q7_1, .inl (k 0, 6, .inl (fun _ => 0))), (q15_2, .inl (k 0, 6, .inl (fun _ => 0))), (q22_3, .inl (k 0, 4, .inl (fun _ => 0))), (q29_4, .inl (k 0, 4, .inl (fun _ => 0))), (q36_5, .inl (k 5, 5, .inr (.inr (.inr (.inr (va_up (va_up (va_up (fun _ => none) 0 (some q54_6)) 1 (some q54_8)) 2 (some q54_10))))))), (q54_6, .inr (5, [.ref (u58_7.1 0), .ref (u58_7.1 1), .ref (u58_7.1 2), .ref (u58_7.1 3), .ref (u58_7.1 4)])), (u58_7.1 0, .inl (k 0, 64, .inl (fun _ => 0))), (u58_7.1 1, .inl (k 0, 8, .inl (fun _ => 0))), (u58_7.1 2, .inl (k 0, 8, .inl (u58_7.2 0))), (u58_7.1 3, .inl (k 0, 3, .inl (fun _ => 0))), (u58_7.1 4, .inl (k 0, 3, .inl (fun _ => 0))), (q54_8, .inr (5, [.ref (u58_9.1 0), .ref (u58_9.1 1), .ref (u58_9.1 2), .ref (u58_9.1 3), .ref (u58_9.1 4)])), (u58_9.1 0, .inl (k 0, 64, .inl (fun _ => 0))), (u58_9.1 1, .inl (k 0, 8, .inl (fun _ => 0))), (u58_9.1 2, .inl (k 0, 8, .inl (u58_9.2 0))), (u58_9.1 3, .inl (k 0, 3, .inl (fun _ => 0))), (u58_9.1 4, .inl (k 0, 3, .inl (fun _ => 0))), (q54_10, .inr (5, [.ref (u58_11.1 0), .ref (u58_11.1 1), .ref (u58_11.1 2), .ref (u58_11.1 3), .ref (u58_11.1 4)])), (u58_11.1 0, .inl (k 0, 64, .inl (fun _ => 0))), (u58_11.1 1, .inl (k 0, 8, .inl (fun _ => 0))), (u58_11.1 2, .inl (k 0, 8, .inl (u58_11.2 0))), (u58_11.1 3, .inl (k 0, 3, .inl (fun _ => 0))), (u58_11.1 4, .inl (k 0, 3, .inl (fun _ => 0))), (q54_12, .inr (5, [.ref (u58_13.1 0), .ref (u58_13.1 1), .ref (u58_13.1 2), .ref (u58_13.1 3), .ref (u58_13.1 4)])), (u58_13.1 0, .inl (k 0, 64, .inl (fun _ => 0))), (u58_13.1 1, .inl (k 0, 8, .inl (fun _ => 0))), (u58_13.1 2, .inl (k 0, 8, .inl (u58_13.2 0))), (u58_13.1 3, .inl (k 0, 3, .inl (fun _ => 0))), (u58_13.1 4, .inl (k 0, 3, .inl (fun _ => 0)))] H := hP
  replace hD : va_D A [(h0, .inr (3, [.ref q36_5, .ref q7_1, .ref q15_2, .ref q22_3, .ref q29_4, .int 0, .int 0, .int 0, .int 0, .int 0])), (q7_1, .inl (k 0, 6, .inl (fun _ => 0))), (q15_2, .inl (k 0, 6, .inl (fun _ => 0))), (q22_3, .inl (k 0, 4, .inl (fun _ => 0))), (q29_4, .inl (k 0, 4, .inl (fun _ => 0))), (q36_5, .inl (k 5, 5, .inr (.inr (.inr (.inr (va_up (va_up (va_up (fun _ => none) 0 (some q54_6)) 1 (some q54_8)) 2 (some q54_10))))))), (q54_6, .inr (5, [.ref (u58_7.1 0), .ref (u58_7.1 1), .ref (u58_7.1 2), .ref (u58_7.1 3), .ref (u58_7.1 4)])), (u58_7.1 0, .inl (k 0, 64, .inl (fun _ => 0))), (u58_7.1 1, .inl (k 0, 8, .inl (fun _ => 0))), (u58_7.1 2, .inl (k 0, 8, .inl (u58_7.2 0))), (u58_7.1 3, .inl (k 0, 3, .inl (fun _ => 0))), (u58_7.1 4, .inl (k 0, 3, .inl (fun _ => 0))), (q54_8, .inr (5, [.ref (u58_9.1 0), .ref (u58_9.1 1), .ref (u58_9.1 2), .ref (u58_9.1 3), .ref (u58_9.1 4)])), (u58_9.1 0, .inl (k 0, 64, .inl (fun _ => 0))), (u58_9.1 1, .inl (k 0, 8, .inl (fun _ => 0))), (u58_9.1 2, .inl (k 0, 8, .inl (u58_9.2 0))), (u58_9.1 3, .inl (k 0, 3, .inl (fun _ => 0))), (u58_9.1 4, .inl (k 0, 3, .inl (fun _ => 0))), (q54_10, .inr (5, [.ref (u58_11.1 0), .ref (u58_11.1 1), .ref (u58_11.1 2), .ref (u58_11.1 3), .ref (u58_11.1 4)])), (u58_11.1 0, .inl (k 0, 64, .inl (fun _ => 0))), (u58_11.1 1, .inl (k 0, 8, .inl (fun _ => 0))), (u58_11.1 2, .inl (k 0, 8, .inl (u58_11.2 0))), (u58_11.1 3, .inl (k 0, 3, .inl (fun _ => 0))), (u58_11.1 4, .inl (k 0, 3, .inl (fun _ => 0))), (q54_12, .inr (5, [.ref (u58_13.1 0), .ref (u58_13.1 1), .ref (u58_13.1 2), .ref (u58_13.1 3), .ref (u58_13.1 4)])), (u58_13.1 0, .inl (k 0, 64, .inl (fun _ => 0))), (u58_13.1 1, .inl (k 0, 8, .inl (fun _ => 0))), (u58_13.1 2, .inl (k 0, 8, .inl (u58_13.2 0))), (u58_13.1 3, .inl (k 0, 3, .inl (fun _ => 0))), (u58_13.1 4, .inl (k 0, 3, .inl (fun _ => 0)))] := hD
  refine W.widen (k := 29) (n := 389) (Nat.le_of_ble_eq_true rfl) (Nat.le_of_ble_eq_true rfl) ?_
  refine va_astq hx hb hK hP hD hS 5 5 24 5 rfl rfl rfl rfl (by unfold vp_in; decide) dX3_init_61 (fun H locs hP9 hD9 hS9 => ?_)
  clear hP hD hS
  have hS := hS9
  have hP := hP9
  have hD := hD9
  clear hP9 hD9 hS9
  rw [show ((3 : Int32)).toNatClampNeg = 3 from by decide] at hP hD
  replace hP : va_P D vwCl [(h0, .inr (3, [.ref q36_5, .ref q7_1, .ref q15_2, .ref q22_3, .ref q29_4, .int 0, .int 0, .int 0, .int 0, .int 0])), (q7_1, .inl (k 0, 6, .inl (fun _ => 0))), (q15_2, .inl (k 0, 6, .inl (fun _ => 0))), (q22_3, .inl (k 0, 4, .inl (fun _ => 0))), (q29_4, .inl (k 0, 4, .inl (fun _ => 0))), (q36_5, .inl (k 5, 5, .inr (.inr (.inr (.inr (va_up (va_up (va_up (va_up (fun _ => none) 0 (some q54_6)) 1 (some q54_8)) 2 (some q54_10)) 3 (some q54_12))))))), (q54_6, .inr (5, [.ref (u58_7.1 0), .ref (u58_7.1 1), .ref (u58_7.1 2), .ref (u58_7.1 3), .ref (u58_7.1 4)])), (u58_7.1 0, .inl (k 0, 64, .inl (fun _ => 0))), (u58_7.1 1, .inl (k 0, 8, .inl (fun _ => 0))), (u58_7.1 2, .inl (k 0, 8, .inl (u58_7.2 0))), (u58_7.1 3, .inl (k 0, 3, .inl (fun _ => 0))), (u58_7.1 4, .inl (k 0, 3, .inl (fun _ => 0))), (q54_8, .inr (5, [.ref (u58_9.1 0), .ref (u58_9.1 1), .ref (u58_9.1 2), .ref (u58_9.1 3), .ref (u58_9.1 4)])), (u58_9.1 0, .inl (k 0, 64, .inl (fun _ => 0))), (u58_9.1 1, .inl (k 0, 8, .inl (fun _ => 0))), (u58_9.1 2, .inl (k 0, 8, .inl (u58_9.2 0))), (u58_9.1 3, .inl (k 0, 3, .inl (fun _ => 0))), (u58_9.1 4, .inl (k 0, 3, .inl (fun _ => 0))), (q54_10, .inr (5, [.ref (u58_11.1 0), .ref (u58_11.1 1), .ref (u58_11.1 2), .ref (u58_11.1 3), .ref (u58_11.1 4)])), (u58_11.1 0, .inl (k 0, 64, .inl (fun _ => 0))), (u58_11.1 1, .inl (k 0, 8, .inl (fun _ => 0))), (u58_11.1 2, .inl (k 0, 8, .inl (u58_11.2 0))), (u58_11.1 3, .inl (k 0, 3, .inl (fun _ => 0))), (u58_11.1 4, .inl (k 0, 3, .inl (fun _ => 0))), (q54_12, .inr (5, [.ref (u58_13.1 0), .ref (u58_13.1 1), .ref (u58_13.1 2), .ref (u58_13.1 3), .ref (u58_13.1 4)])), (u58_13.1 0, .inl (k 0, 64, .inl (fun _ => 0))), (u58_13.1 1, .inl (k 0, 8, .inl (fun _ => 0))), (u58_13.1 2, .inl (k 0, 8, .inl (u58_13.2 0))), (u58_13.1 3, .inl (k 0, 3, .inl (fun _ => 0))), (u58_13.1 4, .inl (k 0, 3, .inl (fun _ => 0)))] H := hP
  replace hD : va_D A [(h0, .inr (3, [.ref q36_5, .ref q7_1, .ref q15_2, .ref q22_3, .ref q29_4, .int 0, .int 0, .int 0, .int 0, .int 0])), (q7_1, .inl (k 0, 6, .inl (fun _ => 0))), (q15_2, .inl (k 0, 6, .inl (fun _ => 0))), (q22_3, .inl (k 0, 4, .inl (fun _ => 0))), (q29_4, .inl (k 0, 4, .inl (fun _ => 0))), (q36_5, .inl (k 5, 5, .inr (.inr (.inr (.inr (va_up (va_up (va_up (va_up (fun _ => none) 0 (some q54_6)) 1 (some q54_8)) 2 (some q54_10)) 3 (some q54_12))))))), (q54_6, .inr (5, [.ref (u58_7.1 0), .ref (u58_7.1 1), .ref (u58_7.1 2), .ref (u58_7.1 3), .ref (u58_7.1 4)])), (u58_7.1 0, .inl (k 0, 64, .inl (fun _ => 0))), (u58_7.1 1, .inl (k 0, 8, .inl (fun _ => 0))), (u58_7.1 2, .inl (k 0, 8, .inl (u58_7.2 0))), (u58_7.1 3, .inl (k 0, 3, .inl (fun _ => 0))), (u58_7.1 4, .inl (k 0, 3, .inl (fun _ => 0))), (q54_8, .inr (5, [.ref (u58_9.1 0), .ref (u58_9.1 1), .ref (u58_9.1 2), .ref (u58_9.1 3), .ref (u58_9.1 4)])), (u58_9.1 0, .inl (k 0, 64, .inl (fun _ => 0))), (u58_9.1 1, .inl (k 0, 8, .inl (fun _ => 0))), (u58_9.1 2, .inl (k 0, 8, .inl (u58_9.2 0))), (u58_9.1 3, .inl (k 0, 3, .inl (fun _ => 0))), (u58_9.1 4, .inl (k 0, 3, .inl (fun _ => 0))), (q54_10, .inr (5, [.ref (u58_11.1 0), .ref (u58_11.1 1), .ref (u58_11.1 2), .ref (u58_11.1 3), .ref (u58_11.1 4)])), (u58_11.1 0, .inl (k 0, 64, .inl (fun _ => 0))), (u58_11.1 1, .inl (k 0, 8, .inl (fun _ => 0))), (u58_11.1 2, .inl (k 0, 8, .inl (u58_11.2 0))), (u58_11.1 3, .inl (k 0, 3, .inl (fun _ => 0))), (u58_11.1 4, .inl (k 0, 3, .inl (fun _ => 0))), (q54_12, .inr (5, [.ref (u58_13.1 0), .ref (u58_13.1 1), .ref (u58_13.1 2), .ref (u58_13.1 3), .ref (u58_13.1 4)])), (u58_13.1 0, .inl (k 0, 64, .inl (fun _ => 0))), (u58_13.1 1, .inl (k 0, 8, .inl (fun _ => 0))), (u58_13.1 2, .inl (k 0, 8, .inl (u58_13.2 0))), (u58_13.1 3, .inl (k 0, 3, .inl (fun _ => 0))), (u58_13.1 4, .inl (k 0, 3, .inl (fun _ => 0)))] := hD
  refine lv_iinc (v := 4) (lv' := [(1, .int 4), (0, .ref h0)]) hx hb dX3_init_62 hl (k := 0) rfl (by decide) (by decide) rfl (fun ls hl => ?_)
  refine lv_goto (tgt := 44) hx hb dX3_init_65 (by decide) ?_
  refine lv_iload_n hx hb dX3_init_44 rfl (lv_at hl 0 rfl) ?_
  refine lv_iconst (v := 4) hx hb dX3_init_45 (by decide) ?_
  refine lv_icmp_gt (tgt := 68) hx hb dX3_init_46 (by decide) (fun c_5 => ?_) (fun c_5 => ?_)
  · first | exact absurd c_5 (by decide) | exact absurd (by decide) c_5
  refine lv_aload_n hx hb dX3_init_49 rfl (lv_at hl 1 rfl) ?_
  refine va_get (D := D) (ci := 3) (v := .ref q36_5) (C := RX3) (T := TX3) (N := 10) hx hb hT in_X3 hown hK hP 0 rfl rfl 0 (by decide) (hT _ t400) (fun _ h9 => h9) rfl dX3_init_50 ?_
  refine lv_iload_n hx hb dX3_init_53 rfl (lv_at hl 0 rfl) ?_
  refine va_new (ci := 5) (fs := [.null, .null, .null, .null, .null]) (C := RX5) (T := TX5) (N := 5) hx hb hT in_X5 tyX5 tyX5_ok hown (hT _ t397) (hT _ t159) (hT _ t108) hK hP hD hS hA rfl (fun j hj => by rcases (show j = 0 ∨ j = 1 ∨ j = 2 ∨ j = 3 ∨ j = 4 by omega) with rfl | rfl | rfl | rfl | rfl <;> rfl) (Nat.le_of_ble_eq_true rfl) (Nat.le_of_ble_eq_true rfl) dX3_init_54 (fun q54_14 H hP9 hD9 hS9 => ?_)
  clear hP hD hS
  have hS := hS9
  have hP := hP9
  have hD := hD9
  clear hP9 hD9 hS9
  replace hP : va_P D vwCl [(h0, .inr (3, [.ref q36_5, .ref q7_1, .ref q15_2, .ref q22_3, .ref q29_4, .int 0, .int 0, .int 0, .int 0, .int 0])), (q7_1, .inl (k 0, 6, .inl (fun _ => 0))), (q15_2, .inl (k 0, 6, .inl (fun _ => 0))), (q22_3, .inl (k 0, 4, .inl (fun _ => 0))), (q29_4, .inl (k 0, 4, .inl (fun _ => 0))), (q36_5, .inl (k 5, 5, .inr (.inr (.inr (.inr (va_up (va_up (va_up (va_up (fun _ => none) 0 (some q54_6)) 1 (some q54_8)) 2 (some q54_10)) 3 (some q54_12))))))), (q54_6, .inr (5, [.ref (u58_7.1 0), .ref (u58_7.1 1), .ref (u58_7.1 2), .ref (u58_7.1 3), .ref (u58_7.1 4)])), (u58_7.1 0, .inl (k 0, 64, .inl (fun _ => 0))), (u58_7.1 1, .inl (k 0, 8, .inl (fun _ => 0))), (u58_7.1 2, .inl (k 0, 8, .inl (u58_7.2 0))), (u58_7.1 3, .inl (k 0, 3, .inl (fun _ => 0))), (u58_7.1 4, .inl (k 0, 3, .inl (fun _ => 0))), (q54_8, .inr (5, [.ref (u58_9.1 0), .ref (u58_9.1 1), .ref (u58_9.1 2), .ref (u58_9.1 3), .ref (u58_9.1 4)])), (u58_9.1 0, .inl (k 0, 64, .inl (fun _ => 0))), (u58_9.1 1, .inl (k 0, 8, .inl (fun _ => 0))), (u58_9.1 2, .inl (k 0, 8, .inl (u58_9.2 0))), (u58_9.1 3, .inl (k 0, 3, .inl (fun _ => 0))), (u58_9.1 4, .inl (k 0, 3, .inl (fun _ => 0))), (q54_10, .inr (5, [.ref (u58_11.1 0), .ref (u58_11.1 1), .ref (u58_11.1 2), .ref (u58_11.1 3), .ref (u58_11.1 4)])), (u58_11.1 0, .inl (k 0, 64, .inl (fun _ => 0))), (u58_11.1 1, .inl (k 0, 8, .inl (fun _ => 0))), (u58_11.1 2, .inl (k 0, 8, .inl (u58_11.2 0))), (u58_11.1 3, .inl (k 0, 3, .inl (fun _ => 0))), (u58_11.1 4, .inl (k 0, 3, .inl (fun _ => 0))), (q54_12, .inr (5, [.ref (u58_13.1 0), .ref (u58_13.1 1), .ref (u58_13.1 2), .ref (u58_13.1 3), .ref (u58_13.1 4)])), (u58_13.1 0, .inl (k 0, 64, .inl (fun _ => 0))), (u58_13.1 1, .inl (k 0, 8, .inl (fun _ => 0))), (u58_13.1 2, .inl (k 0, 8, .inl (u58_13.2 0))), (u58_13.1 3, .inl (k 0, 3, .inl (fun _ => 0))), (u58_13.1 4, .inl (k 0, 3, .inl (fun _ => 0))), (q54_14, .inr (5, [.null, .null, .null, .null, .null]))] H := hP
  replace hD : va_D A [(h0, .inr (3, [.ref q36_5, .ref q7_1, .ref q15_2, .ref q22_3, .ref q29_4, .int 0, .int 0, .int 0, .int 0, .int 0])), (q7_1, .inl (k 0, 6, .inl (fun _ => 0))), (q15_2, .inl (k 0, 6, .inl (fun _ => 0))), (q22_3, .inl (k 0, 4, .inl (fun _ => 0))), (q29_4, .inl (k 0, 4, .inl (fun _ => 0))), (q36_5, .inl (k 5, 5, .inr (.inr (.inr (.inr (va_up (va_up (va_up (va_up (fun _ => none) 0 (some q54_6)) 1 (some q54_8)) 2 (some q54_10)) 3 (some q54_12))))))), (q54_6, .inr (5, [.ref (u58_7.1 0), .ref (u58_7.1 1), .ref (u58_7.1 2), .ref (u58_7.1 3), .ref (u58_7.1 4)])), (u58_7.1 0, .inl (k 0, 64, .inl (fun _ => 0))), (u58_7.1 1, .inl (k 0, 8, .inl (fun _ => 0))), (u58_7.1 2, .inl (k 0, 8, .inl (u58_7.2 0))), (u58_7.1 3, .inl (k 0, 3, .inl (fun _ => 0))), (u58_7.1 4, .inl (k 0, 3, .inl (fun _ => 0))), (q54_8, .inr (5, [.ref (u58_9.1 0), .ref (u58_9.1 1), .ref (u58_9.1 2), .ref (u58_9.1 3), .ref (u58_9.1 4)])), (u58_9.1 0, .inl (k 0, 64, .inl (fun _ => 0))), (u58_9.1 1, .inl (k 0, 8, .inl (fun _ => 0))), (u58_9.1 2, .inl (k 0, 8, .inl (u58_9.2 0))), (u58_9.1 3, .inl (k 0, 3, .inl (fun _ => 0))), (u58_9.1 4, .inl (k 0, 3, .inl (fun _ => 0))), (q54_10, .inr (5, [.ref (u58_11.1 0), .ref (u58_11.1 1), .ref (u58_11.1 2), .ref (u58_11.1 3), .ref (u58_11.1 4)])), (u58_11.1 0, .inl (k 0, 64, .inl (fun _ => 0))), (u58_11.1 1, .inl (k 0, 8, .inl (fun _ => 0))), (u58_11.1 2, .inl (k 0, 8, .inl (u58_11.2 0))), (u58_11.1 3, .inl (k 0, 3, .inl (fun _ => 0))), (u58_11.1 4, .inl (k 0, 3, .inl (fun _ => 0))), (q54_12, .inr (5, [.ref (u58_13.1 0), .ref (u58_13.1 1), .ref (u58_13.1 2), .ref (u58_13.1 3), .ref (u58_13.1 4)])), (u58_13.1 0, .inl (k 0, 64, .inl (fun _ => 0))), (u58_13.1 1, .inl (k 0, 8, .inl (fun _ => 0))), (u58_13.1 2, .inl (k 0, 8, .inl (u58_13.2 0))), (u58_13.1 3, .inl (k 0, 3, .inl (fun _ => 0))), (u58_13.1 4, .inl (k 0, 3, .inl (fun _ => 0))), (q54_14, .inr (5, [.null, .null, .null, .null, .null]))] := hD
  refine W.widen (k := 30) (n := 394) (Nat.le_of_ble_eq_true rfl) (Nat.le_of_ble_eq_true rfl) ?_
  refine lv_dup hx hb dX3_init_57 rfl ?_
  refine rw_v (wc := [(q54_14, .inr (5, [.null, .null, .null, .null, .null]))]) (wr := [(h0, .inr (3, [.ref q36_5, .ref q7_1, .ref q15_2, .ref q22_3, .ref q29_4, .int 0, .int 0, .int 0, .int 0, .int 0])), (q7_1, .inl (k 0, 6, .inl (fun _ => 0))), (q15_2, .inl (k 0, 6, .inl (fun _ => 0))), (q22_3, .inl (k 0, 4, .inl (fun _ => 0))), (q29_4, .inl (k 0, 4, .inl (fun _ => 0))), (q36_5, .inl (k 5, 5, .inr (.inr (.inr (.inr (va_up (va_up (va_up (va_up (fun _ => none) 0 (some q54_6)) 1 (some q54_8)) 2 (some q54_10)) 3 (some q54_12))))))), (q54_6, .inr (5, [.ref (u58_7.1 0), .ref (u58_7.1 1), .ref (u58_7.1 2), .ref (u58_7.1 3), .ref (u58_7.1 4)])), (u58_7.1 0, .inl (k 0, 64, .inl (fun _ => 0))), (u58_7.1 1, .inl (k 0, 8, .inl (fun _ => 0))), (u58_7.1 2, .inl (k 0, 8, .inl (u58_7.2 0))), (u58_7.1 3, .inl (k 0, 3, .inl (fun _ => 0))), (u58_7.1 4, .inl (k 0, 3, .inl (fun _ => 0))), (q54_8, .inr (5, [.ref (u58_9.1 0), .ref (u58_9.1 1), .ref (u58_9.1 2), .ref (u58_9.1 3), .ref (u58_9.1 4)])), (u58_9.1 0, .inl (k 0, 64, .inl (fun _ => 0))), (u58_9.1 1, .inl (k 0, 8, .inl (fun _ => 0))), (u58_9.1 2, .inl (k 0, 8, .inl (u58_9.2 0))), (u58_9.1 3, .inl (k 0, 3, .inl (fun _ => 0))), (u58_9.1 4, .inl (k 0, 3, .inl (fun _ => 0))), (q54_10, .inr (5, [.ref (u58_11.1 0), .ref (u58_11.1 1), .ref (u58_11.1 2), .ref (u58_11.1 3), .ref (u58_11.1 4)])), (u58_11.1 0, .inl (k 0, 64, .inl (fun _ => 0))), (u58_11.1 1, .inl (k 0, 8, .inl (fun _ => 0))), (u58_11.1 2, .inl (k 0, 8, .inl (u58_11.2 0))), (u58_11.1 3, .inl (k 0, 3, .inl (fun _ => 0))), (u58_11.1 4, .inl (k 0, 3, .inl (fun _ => 0))), (q54_12, .inr (5, [.ref (u58_13.1 0), .ref (u58_13.1 1), .ref (u58_13.1 2), .ref (u58_13.1 3), .ref (u58_13.1 4)])), (u58_13.1 0, .inl (k 0, 64, .inl (fun _ => 0))), (u58_13.1 1, .inl (k 0, 8, .inl (fun _ => 0))), (u58_13.1 2, .inl (k 0, 8, .inl (u58_13.2 0))), (u58_13.1 3, .inl (k 0, 3, .inl (fun _ => 0))), (u58_13.1 4, .inl (k 0, 3, .inl (fun _ => 0)))]) [30] [0, 1, 2, 3, 4, 5, 6, 7, 8, 9, 10, 11, 12, 13, 14, 15, 16, 17, 18, 19, 20, 21, 22, 23, 24, 25, 26, 27, 28, 29] rfl rfl (by decide +kernel) (by decide +kernel) (by decide +kernel) hP hD hS hA (fun hPc hDc => run_I (C := RX5) (As := []) (rest := [.ref q54_14, .int 4, .ref q36_5]) S (c_X5_init l D k q54_14 _) (gdC t162) t399 t161 t108 rfl ok_X5_init ⟨rfl, rfl, Nat.le_of_ble_eq_true rfl, Nat.le_of_ble_eq_true rfl⟩ (pw_S hK hN hPc hDc) rfl hl.1 rfl (Nat.le_of_ble_eq_true rfl) ⟨Nat.le_of_ble_eq_true rfl, Nat.le_of_ble_eq_true rfl⟩ dX3_init_58) (fun u58_15 H locs hu58_15 hKu58_15 hP9 hD9 hS9 => ?_)
  clear hP hD hS
  have hS := hS9
  have hP := hP9
  have hD := hD9
  clear hP9 hD9 hS9
  replace hP : va_P D vwCl [(h0, .inr (3, [.ref q36_5, .ref q7_1, .ref q15_2, .ref q22_3, .ref q29_4, .int 0, .int 0, .int 0, .int 0, .int 0])), (q7_1, .inl (k 0, 6, .inl (fun _ => 0))), (q15_2, .inl (k 0, 6, .inl (fun _ => 0))), (q22_3, .inl (k 0, 4, .inl (fun _ => 0))), (q29_4, .inl (k 0, 4, .inl (fun _ => 0))), (q36_5, .inl (k 5, 5, .inr (.inr (.inr (.inr (va_up (va_up (va_up (va_up (fun _ => none) 0 (some q54_6)) 1 (some q54_8)) 2 (some q54_10)) 3 (some q54_12))))))), (q54_6, .inr (5, [.ref (u58_7.1 0), .ref (u58_7.1 1), .ref (u58_7.1 2), .ref (u58_7.1 3), .ref (u58_7.1 4)])), (u58_7.1 0, .inl (k 0, 64, .inl (fun _ => 0))), (u58_7.1 1, .inl (k 0, 8, .inl (fun _ => 0))), (u58_7.1 2, .inl (k 0, 8, .inl (u58_7.2 0))), (u58_7.1 3, .inl (k 0, 3, .inl (fun _ => 0))), (u58_7.1 4, .inl (k 0, 3, .inl (fun _ => 0))), (q54_8, .inr (5, [.ref (u58_9.1 0), .ref (u58_9.1 1), .ref (u58_9.1 2), .ref (u58_9.1 3), .ref (u58_9.1 4)])), (u58_9.1 0, .inl (k 0, 64, .inl (fun _ => 0))), (u58_9.1 1, .inl (k 0, 8, .inl (fun _ => 0))), (u58_9.1 2, .inl (k 0, 8, .inl (u58_9.2 0))), (u58_9.1 3, .inl (k 0, 3, .inl (fun _ => 0))), (u58_9.1 4, .inl (k 0, 3, .inl (fun _ => 0))), (q54_10, .inr (5, [.ref (u58_11.1 0), .ref (u58_11.1 1), .ref (u58_11.1 2), .ref (u58_11.1 3), .ref (u58_11.1 4)])), (u58_11.1 0, .inl (k 0, 64, .inl (fun _ => 0))), (u58_11.1 1, .inl (k 0, 8, .inl (fun _ => 0))), (u58_11.1 2, .inl (k 0, 8, .inl (u58_11.2 0))), (u58_11.1 3, .inl (k 0, 3, .inl (fun _ => 0))), (u58_11.1 4, .inl (k 0, 3, .inl (fun _ => 0))), (q54_12, .inr (5, [.ref (u58_13.1 0), .ref (u58_13.1 1), .ref (u58_13.1 2), .ref (u58_13.1 3), .ref (u58_13.1 4)])), (u58_13.1 0, .inl (k 0, 64, .inl (fun _ => 0))), (u58_13.1 1, .inl (k 0, 8, .inl (fun _ => 0))), (u58_13.1 2, .inl (k 0, 8, .inl (u58_13.2 0))), (u58_13.1 3, .inl (k 0, 3, .inl (fun _ => 0))), (u58_13.1 4, .inl (k 0, 3, .inl (fun _ => 0))), (q54_14, .inr (5, [.ref (u58_15.1 0), .ref (u58_15.1 1), .ref (u58_15.1 2), .ref (u58_15.1 3), .ref (u58_15.1 4)])), (u58_15.1 0, .inl (k 0, 64, .inl (fun _ => 0))), (u58_15.1 1, .inl (k 0, 8, .inl (fun _ => 0))), (u58_15.1 2, .inl (k 0, 8, .inl (u58_15.2 0))), (u58_15.1 3, .inl (k 0, 3, .inl (fun _ => 0))), (u58_15.1 4, .inl (k 0, 3, .inl (fun _ => 0)))] H := hP
  replace hD : va_D A [(h0, .inr (3, [.ref q36_5, .ref q7_1, .ref q15_2, .ref q22_3, .ref q29_4, .int 0, .int 0, .int 0, .int 0, .int 0])), (q7_1, .inl (k 0, 6, .inl (fun _ => 0))), (q15_2, .inl (k 0, 6, .inl (fun _ => 0))), (q22_3, .inl (k 0, 4, .inl (fun _ => 0))), (q29_4, .inl (k 0, 4, .inl (fun _ => 0))), (q36_5, .inl (k 5, 5, .inr (.inr (.inr (.inr (va_up (va_up (va_up (va_up (fun _ => none) 0 (some q54_6)) 1 (some q54_8)) 2 (some q54_10)) 3 (some q54_12))))))), (q54_6, .inr (5, [.ref (u58_7.1 0), .ref (u58_7.1 1), .ref (u58_7.1 2), .ref (u58_7.1 3), .ref (u58_7.1 4)])), (u58_7.1 0, .inl (k 0, 64, .inl (fun _ => 0))), (u58_7.1 1, .inl (k 0, 8, .inl (fun _ => 0))), (u58_7.1 2, .inl (k 0, 8, .inl (u58_7.2 0))), (u58_7.1 3, .inl (k 0, 3, .inl (fun _ => 0))), (u58_7.1 4, .inl (k 0, 3, .inl (fun _ => 0))), (q54_8, .inr (5, [.ref (u58_9.1 0), .ref (u58_9.1 1), .ref (u58_9.1 2), .ref (u58_9.1 3), .ref (u58_9.1 4)])), (u58_9.1 0, .inl (k 0, 64, .inl (fun _ => 0))), (u58_9.1 1, .inl (k 0, 8, .inl (fun _ => 0))), (u58_9.1 2, .inl (k 0, 8, .inl (u58_9.2 0))), (u58_9.1 3, .inl (k 0, 3, .inl (fun _ => 0))), (u58_9.1 4, .inl (k 0, 3, .inl (fun _ => 0))), (q54_10, .inr (5, [.ref (u58_11.1 0), .ref (u58_11.1 1), .ref (u58_11.1 2), .ref (u58_11.1 3), .ref (u58_11.1 4)])), (u58_11.1 0, .inl (k 0, 64, .inl (fun _ => 0))), (u58_11.1 1, .inl (k 0, 8, .inl (fun _ => 0))), (u58_11.1 2, .inl (k 0, 8, .inl (u58_11.2 0))), (u58_11.1 3, .inl (k 0, 3, .inl (fun _ => 0))), (u58_11.1 4, .inl (k 0, 3, .inl (fun _ => 0))), (q54_12, .inr (5, [.ref (u58_13.1 0), .ref (u58_13.1 1), .ref (u58_13.1 2), .ref (u58_13.1 3), .ref (u58_13.1 4)])), (u58_13.1 0, .inl (k 0, 64, .inl (fun _ => 0))), (u58_13.1 1, .inl (k 0, 8, .inl (fun _ => 0))), (u58_13.1 2, .inl (k 0, 8, .inl (u58_13.2 0))), (u58_13.1 3, .inl (k 0, 3, .inl (fun _ => 0))), (u58_13.1 4, .inl (k 0, 3, .inl (fun _ => 0))), (q54_14, .inr (5, [.ref (u58_15.1 0), .ref (u58_15.1 1), .ref (u58_15.1 2), .ref (u58_15.1 3), .ref (u58_15.1 4)])), (u58_15.1 0, .inl (k 0, 64, .inl (fun _ => 0))), (u58_15.1 1, .inl (k 0, 8, .inl (fun _ => 0))), (u58_15.1 2, .inl (k 0, 8, .inl (u58_15.2 0))), (u58_15.1 3, .inl (k 0, 3, .inl (fun _ => 0))), (u58_15.1 4, .inl (k 0, 3, .inl (fun _ => 0)))] := hD
  refine W.widen (k := 35) (n := 480) (Nat.le_of_ble_eq_true rfl) (Nat.le_of_ble_eq_true rfl) ?_
  refine va_astq hx hb hK hP hD hS 5 5 30 5 rfl rfl rfl rfl (by unfold vp_in; decide) dX3_init_61 (fun H locs hP9 hD9 hS9 => ?_)
  clear hP hD hS
  have hS := hS9
  have hP := hP9
  have hD := hD9
  clear hP9 hD9 hS9
  rw [show ((4 : Int32)).toNatClampNeg = 4 from by decide] at hP hD
  replace hP : va_P D vwCl [(h0, .inr (3, [.ref q36_5, .ref q7_1, .ref q15_2, .ref q22_3, .ref q29_4, .int 0, .int 0, .int 0, .int 0, .int 0])), (q7_1, .inl (k 0, 6, .inl (fun _ => 0))), (q15_2, .inl (k 0, 6, .inl (fun _ => 0))), (q22_3, .inl (k 0, 4, .inl (fun _ => 0))), (q29_4, .inl (k 0, 4, .inl (fun _ => 0))), (q36_5, .inl (k 5, 5, .inr (.inr (.inr (.inr (va_up (va_up (va_up (va_up (va_up (fun _ => none) 0 (some q54_6)) 1 (some q54_8)) 2 (some q54_10)) 3 (some q54_12)) 4 (some q54_14))))))), (q54_6, .inr (5, [.ref (u58_7.1 0), .ref (u58_7.1 1), .ref (u58_7.1 2), .ref (u58_7.1 3), .ref (u58_7.1 4)])), (u58_7.1 0, .inl (k 0, 64, .inl (fun _ => 0))), (u58_7.1 1, .inl (k 0, 8, .inl (fun _ => 0))), (u58_7.1 2, .inl (k 0, 8, .inl (u58_7.2 0))), (u58_7.1 3, .inl (k 0, 3, .inl (fun _ => 0))), (u58_7.1 4, .inl (k 0, 3, .inl (fun _ => 0))), (q54_8, .inr (5, [.ref (u58_9.1 0), .ref (u58_9.1 1), .ref (u58_9.1 2), .ref (u58_9.1 3), .ref (u58_9.1 4)])), (u58_9.1 0, .inl (k 0, 64, .inl (fun _ => 0))), (u58_9.1 1, .inl (k 0, 8, .inl (fun _ => 0))), (u58_9.1 2, .inl (k 0, 8, .inl (u58_9.2 0))), (u58_9.1 3, .inl (k 0, 3, .inl (fun _ => 0))), (u58_9.1 4, .inl (k 0, 3, .inl (fun _ => 0))), (q54_10, .inr (5, [.ref (u58_11.1 0), .ref (u58_11.1 1), .ref (u58_11.1 2), .ref (u58_11.1 3), .ref (u58_11.1 4)])), (u58_11.1 0, .inl (k 0, 64, .inl (fun _ => 0))), (u58_11.1 1, .inl (k 0, 8, .inl (fun _ => 0))), (u58_11.1 2, .inl (k 0, 8, .inl (u58_11.2 0))), (u58_11.1 3, .inl (k 0, 3, .inl (fun _ => 0))), (u58_11.1 4, .inl (k 0, 3, .inl (fun _ => 0))), (q54_12, .inr (5, [.ref (u58_13.1 0), .ref (u58_13.1 1), .ref (u58_13.1 2), .ref (u58_13.1 3), .ref (u58_13.1 4)])), (u58_13.1 0, .inl (k 0, 64, .inl (fun _ => 0))), (u58_13.1 1, .inl (k 0, 8, .inl (fun _ => 0))), (u58_13.1 2, .inl (k 0, 8, .inl (u58_13.2 0))), (u58_13.1 3, .inl (k 0, 3, .inl (fun _ => 0))), (u58_13.1 4, .inl (k 0, 3, .inl (fun _ => 0))), (q54_14, .inr (5, [.ref (u58_15.1 0), .ref (u58_15.1 1), .ref (u58_15.1 2), .ref (u58_15.1 3), .ref (u58_15.1 4)])), (u58_15.1 0, .inl (k 0, 64, .inl (fun _ => 0))), (u58_15.1 1, .inl (k 0, 8, .inl (fun _ => 0))), (u58_15.1 2, .inl (k 0, 8, .inl (u58_15.2 0))), (u58_15.1 3, .inl (k 0, 3, .inl (fun _ => 0))), (u58_15.1 4, .inl (k 0, 3, .inl (fun _ => 0)))] H := hP
  replace hD : va_D A [(h0, .inr (3, [.ref q36_5, .ref q7_1, .ref q15_2, .ref q22_3, .ref q29_4, .int 0, .int 0, .int 0, .int 0, .int 0])), (q7_1, .inl (k 0, 6, .inl (fun _ => 0))), (q15_2, .inl (k 0, 6, .inl (fun _ => 0))), (q22_3, .inl (k 0, 4, .inl (fun _ => 0))), (q29_4, .inl (k 0, 4, .inl (fun _ => 0))), (q36_5, .inl (k 5, 5, .inr (.inr (.inr (.inr (va_up (va_up (va_up (va_up (va_up (fun _ => none) 0 (some q54_6)) 1 (some q54_8)) 2 (some q54_10)) 3 (some q54_12)) 4 (some q54_14))))))), (q54_6, .inr (5, [.ref (u58_7.1 0), .ref (u58_7.1 1), .ref (u58_7.1 2), .ref (u58_7.1 3), .ref (u58_7.1 4)])), (u58_7.1 0, .inl (k 0, 64, .inl (fun _ => 0))), (u58_7.1 1, .inl (k 0, 8, .inl (fun _ => 0))), (u58_7.1 2, .inl (k 0, 8, .inl (u58_7.2 0))), (u58_7.1 3, .inl (k 0, 3, .inl (fun _ => 0))), (u58_7.1 4, .inl (k 0, 3, .inl (fun _ => 0))), (q54_8, .inr (5, [.ref (u58_9.1 0), .ref (u58_9.1 1), .ref (u58_9.1 2), .ref (u58_9.1 3), .ref (u58_9.1 4)])), (u58_9.1 0, .inl (k 0, 64, .inl (fun _ => 0))), (u58_9.1 1, .inl (k 0, 8, .inl (fun _ => 0))), (u58_9.1 2, .inl (k 0, 8, .inl (u58_9.2 0))), (u58_9.1 3, .inl (k 0, 3, .inl (fun _ => 0))), (u58_9.1 4, .inl (k 0, 3, .inl (fun _ => 0))), (q54_10, .inr (5, [.ref (u58_11.1 0), .ref (u58_11.1 1), .ref (u58_11.1 2), .ref (u58_11.1 3), .ref (u58_11.1 4)])), (u58_11.1 0, .inl (k 0, 64, .inl (fun _ => 0))), (u58_11.1 1, .inl (k 0, 8, .inl (fun _ => 0))), (u58_11.1 2, .inl (k 0, 8, .inl (u58_11.2 0))), (u58_11.1 3, .inl (k 0, 3, .inl (fun _ => 0))), (u58_11.1 4, .inl (k 0, 3, .inl (fun _ => 0))), (q54_12, .inr (5, [.ref (u58_13.1 0), .ref (u58_13.1 1), .ref (u58_13.1 2), .ref (u58_13.1 3), .ref (u58_13.1 4)])), (u58_13.1 0, .inl (k 0, 64, .inl (fun _ => 0))), (u58_13.1 1, .inl (k 0, 8, .inl (fun _ => 0))), (u58_13.1 2, .inl (k 0, 8, .inl (u58_13.2 0))), (u58_13.1 3, .inl (k 0, 3, .inl (fun _ => 0))), (u58_13.1 4, .inl (k 0, 3, .inl (fun _ => 0))), (q54_14, .inr (5, [.ref (u58_15.1 0), .ref (u58_15.1 1), .ref (u58_15.1 2), .ref (u58_15.1 3), .ref (u58_15.1 4)])), (u58_15.1 0, .inl (k 0, 64, .inl (fun _ => 0))), (u58_15.1 1, .inl (k 0, 8, .inl (fun _ => 0))), (u58_15.1 2, .inl (k 0, 8, .inl (u58_15.2 0))), (u58_15.1 3, .inl (k 0, 3, .inl (fun _ => 0))), (u58_15.1 4, .inl (k 0, 3, .inl (fun _ => 0)))] := hD
  refine lv_iinc (v := 5) (lv' := [(1, .int 5), (0, .ref h0)]) hx hb dX3_init_62 hl (k := 0) rfl (by decide) (by decide) rfl (fun ls hl => ?_)
  refine lv_goto (tgt := 44) hx hb dX3_init_65 (by decide) ?_
  refine lv_iload_n hx hb dX3_init_44 rfl (lv_at hl 0 rfl) ?_
  refine lv_iconst (v := 4) hx hb dX3_init_45 (by decide) ?_
  refine lv_icmp_gt (tgt := 68) hx hb dX3_init_46 (by decide) (fun c_6 => ?_) (fun c_6 => ?_)
  rotate_left
  · first | exact absurd c_6 (by decide) | exact absurd (by decide) c_6
  have hP9 := hP.sub (ws' := [(h0, .inr (3, [.ref q36_5, .ref q7_1, .ref q15_2, .ref q22_3, .ref q29_4, .int 0, .int 0, .int 0, .int 0, .int 0])), (q36_5, .inl (k 5, 5, .inr (.inr (.inr (.inr (va_up (va_up (va_up (va_up (va_up (fun _ => none) 0 (some q54_6)) 1 (some q54_8)) 2 (some q54_10)) 3 (some q54_12)) 4 (some q54_14))))))), (q7_1, .inl (k 0, 6, .inl (fun _ => 0))), (q15_2, .inl (k 0, 6, .inl (fun _ => 0))), (q22_3, .inl (k 0, 4, .inl (fun _ => 0))), (q29_4, .inl (k 0, 4, .inl (fun _ => 0))), (q54_6, .inr (5, [.ref (u58_7.1 0), .ref (u58_7.1 1), .ref (u58_7.1 2), .ref (u58_7.1 3), .ref (u58_7.1 4)])), (u58_7.1 0, .inl (k 0, 64, .inl (fun _ => 0))), (u58_7.1 1, .inl (k 0, 8, .inl (fun _ => 0))), (u58_7.1 2, .inl (k 0, 8, .inl (u58_7.2 0))), (u58_7.1 3, .inl (k 0, 3, .inl (fun _ => 0))), (u58_7.1 4, .inl (k 0, 3, .inl (fun _ => 0))), (q54_8, .inr (5, [.ref (u58_9.1 0), .ref (u58_9.1 1), .ref (u58_9.1 2), .ref (u58_9.1 3), .ref (u58_9.1 4)])), (u58_9.1 0, .inl (k 0, 64, .inl (fun _ => 0))), (u58_9.1 1, .inl (k 0, 8, .inl (fun _ => 0))), (u58_9.1 2, .inl (k 0, 8, .inl (u58_9.2 0))), (u58_9.1 3, .inl (k 0, 3, .inl (fun _ => 0))), (u58_9.1 4, .inl (k 0, 3, .inl (fun _ => 0))), (q54_10, .inr (5, [.ref (u58_11.1 0), .ref (u58_11.1 1), .ref (u58_11.1 2), .ref (u58_11.1 3), .ref (u58_11.1 4)])), (u58_11.1 0, .inl (k 0, 64, .inl (fun _ => 0))), (u58_11.1 1, .inl (k 0, 8, .inl (fun _ => 0))), (u58_11.1 2, .inl (k 0, 8, .inl (u58_11.2 0))), (u58_11.1 3, .inl (k 0, 3, .inl (fun _ => 0))), (u58_11.1 4, .inl (k 0, 3, .inl (fun _ => 0))), (q54_12, .inr (5, [.ref (u58_13.1 0), .ref (u58_13.1 1), .ref (u58_13.1 2), .ref (u58_13.1 3), .ref (u58_13.1 4)])), (u58_13.1 0, .inl (k 0, 64, .inl (fun _ => 0))), (u58_13.1 1, .inl (k 0, 8, .inl (fun _ => 0))), (u58_13.1 2, .inl (k 0, 8, .inl (u58_13.2 0))), (u58_13.1 3, .inl (k 0, 3, .inl (fun _ => 0))), (u58_13.1 4, .inl (k 0, 3, .inl (fun _ => 0))), (q54_14, .inr (5, [.ref (u58_15.1 0), .ref (u58_15.1 1), .ref (u58_15.1 2), .ref (u58_15.1 3), .ref (u58_15.1 4)])), (u58_15.1 0, .inl (k 0, 64, .inl (fun _ => 0))), (u58_15.1 1, .inl (k 0, 8, .inl (fun _ => 0))), (u58_15.1 2, .inl (k 0, 8, .inl (u58_15.2 0))), (u58_15.1 3, .inl (k 0, 3, .inl (fun _ => 0))), (u58_15.1 4, .inl (k 0, 3, .inl (fun _ => 0)))]) [0, 5, 1, 2, 3, 4, 6, 7, 8, 9, 10, 11, 12, 13, 14, 15, 16, 17, 18, 19, 20, 21, 22, 23, 24, 25, 26, 27, 28, 29, 30, 31, 32, 33, 34, 35] rfl
  have hD9 := d_sub (ws' := [(h0, .inr (3, [.ref q36_5, .ref q7_1, .ref q15_2, .ref q22_3, .ref q29_4, .int 0, .int 0, .int 0, .int 0, .int 0])), (q36_5, .inl (k 5, 5, .inr (.inr (.inr (.inr (va_up (va_up (va_up (va_up (va_up (fun _ => none) 0 (some q54_6)) 1 (some q54_8)) 2 (some q54_10)) 3 (some q54_12)) 4 (some q54_14))))))), (q7_1, .inl (k 0, 6, .inl (fun _ => 0))), (q15_2, .inl (k 0, 6, .inl (fun _ => 0))), (q22_3, .inl (k 0, 4, .inl (fun _ => 0))), (q29_4, .inl (k 0, 4, .inl (fun _ => 0))), (q54_6, .inr (5, [.ref (u58_7.1 0), .ref (u58_7.1 1), .ref (u58_7.1 2), .ref (u58_7.1 3), .ref (u58_7.1 4)])), (u58_7.1 0, .inl (k 0, 64, .inl (fun _ => 0))), (u58_7.1 1, .inl (k 0, 8, .inl (fun _ => 0))), (u58_7.1 2, .inl (k 0, 8, .inl (u58_7.2 0))), (u58_7.1 3, .inl (k 0, 3, .inl (fun _ => 0))), (u58_7.1 4, .inl (k 0, 3, .inl (fun _ => 0))), (q54_8, .inr (5, [.ref (u58_9.1 0), .ref (u58_9.1 1), .ref (u58_9.1 2), .ref (u58_9.1 3), .ref (u58_9.1 4)])), (u58_9.1 0, .inl (k 0, 64, .inl (fun _ => 0))), (u58_9.1 1, .inl (k 0, 8, .inl (fun _ => 0))), (u58_9.1 2, .inl (k 0, 8, .inl (u58_9.2 0))), (u58_9.1 3, .inl (k 0, 3, .inl (fun _ => 0))), (u58_9.1 4, .inl (k 0, 3, .inl (fun _ => 0))), (q54_10, .inr (5, [.ref (u58_11.1 0), .ref (u58_11.1 1), .ref (u58_11.1 2), .ref (u58_11.1 3), .ref (u58_11.1 4)])), (u58_11.1 0, .inl (k 0, 64, .inl (fun _ => 0))), (u58_11.1 1, .inl (k 0, 8, .inl (fun _ => 0))), (u58_11.1 2, .inl (k 0, 8, .inl (u58_11.2 0))), (u58_11.1 3, .inl (k 0, 3, .inl (fun _ => 0))), (u58_11.1 4, .inl (k 0, 3, .inl (fun _ => 0))), (q54_12, .inr (5, [.ref (u58_13.1 0), .ref (u58_13.1 1), .ref (u58_13.1 2), .ref (u58_13.1 3), .ref (u58_13.1 4)])), (u58_13.1 0, .inl (k 0, 64, .inl (fun _ => 0))), (u58_13.1 1, .inl (k 0, 8, .inl (fun _ => 0))), (u58_13.1 2, .inl (k 0, 8, .inl (u58_13.2 0))), (u58_13.1 3, .inl (k 0, 3, .inl (fun _ => 0))), (u58_13.1 4, .inl (k 0, 3, .inl (fun _ => 0))), (q54_14, .inr (5, [.ref (u58_15.1 0), .ref (u58_15.1 1), .ref (u58_15.1 2), .ref (u58_15.1 3), .ref (u58_15.1 4)])), (u58_15.1 0, .inl (k 0, 64, .inl (fun _ => 0))), (u58_15.1 1, .inl (k 0, 8, .inl (fun _ => 0))), (u58_15.1 2, .inl (k 0, 8, .inl (u58_15.2 0))), (u58_15.1 3, .inl (k 0, 3, .inl (fun _ => 0))), (u58_15.1 4, .inl (k 0, 3, .inl (fun _ => 0)))]) hD [0, 5, 1, 2, 3, 4, 6, 7, 8, 9, 10, 11, 12, 13, 14, 15, 16, 17, 18, 19, 20, 21, 22, 23, 24, 25, 26, 27, 28, 29, 30, 31, 32, 33, 34, 35] (by decide +kernel) rfl
  have hK9 := hK.sub (tys' := []) [] rfl
  exact W.vret hx hb hr (fun t ht hW => ⟨⟨mkU [q36_5, q7_1, q15_2, q22_3, q29_4, q54_6, (u58_7.1 0), (u58_7.1 1), (u58_7.1 2), (u58_7.1 3), (u58_7.1 4), q54_8, (u58_9.1 0), (u58_9.1 1), (u58_9.1 2), (u58_9.1 3), (u58_9.1 4), q54_10, (u58_11.1 0), (u58_11.1 1), (u58_11.1 2), (u58_11.1 3), (u58_11.1 4), q54_12, (u58_13.1 0), (u58_13.1 1), (u58_13.1 2), (u58_13.1 3), (u58_13.1 4), q54_14, (u58_15.1 0), (u58_15.1 1), (u58_15.1 2), (u58_15.1 3), (u58_15.1 4)] [(u58_7.2 0), (u58_9.2 0), (u58_11.2 0), (u58_13.2 0), (u58_15.2 0)], rfl, trivial, by rw [ht]; exact hP9, va_K.moved hW.alike hK9, by rw [hAe]; exact hD9⟩, by rw [hAe]; exact hS.F ht⟩) hS.2.2 dX3_init_68
