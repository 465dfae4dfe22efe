set_option maxHeartbeats 4000000 in
set_option maxRecDepth 100000 in
theorem c_X4_init (l : Launch) (D : va_G) (k : Nat → ClassId) (h0 sz : Nat) : Met l yX4_init (.code yX4_init cX4_init 1 none :: TB) (rmw 2 7 252) (va_Pc [.ref h0] (PW D k sz [(h0, .inr (4, [.null, .null, .null]))])) (QV D (S := UT) (fun u => ∀ j : Nat, j < 4 → u.2 0 j = -1) (fun u => [(h0, .inr (4, [.ref (u.1 0), .ref (u.1 1), .ref (u.1 2)])), (u.1 0, .inl (k 0, 4, .inl (u.2 0))), (u.1 1, .inl (k 0, 4, .inl (fun _ => 0))), (u.1 2, .inl (k 6, 4, .inr (.inr (.inr (.inr (va_up (va_up (va_up (va_up (fun _ => none) 0 (some (u.1 3))) 1 (some (u.1 4))) 2 (some (u.1 5))) 3 (some (u.1 6)))))))), (u.1 3, .inl (k 2, 60, .inr (.inl (fun _ => 0)))), (u.1 4, .inl (k 2, 60, .inr (.inl (fun _ => 0)))), (u.1 5, .inl (k 2, 60, .inr (.inl (fun _ => 0)))), (u.1 6, .inl (k 2, 60, .inr (.inl (fun _ => 0))))]) (fun _ => []) [(h0, .inr (4, [.null, .null, .null]))] sz) 7 252 (va_A [(h0, .inr (4, [.null, .null, .null]))] sz) := by
  refine Met.ofW (cc := cX4_init) (maxL := 1) (ret := none) (by decide) rfl ?_
  intro p e s m args below meth c s₁ B hml hv
  obtain ⟨rfl, hsz, hP, hK, hD0, hN⟩ := hv
  have hx := B.exec
  have hb := B.bytes
  have hr := B.returns
  have hT : ∀ w ∈ TB, w.before ([.ref h0] : List Value).toArray s = true := fun w h => atoms_spec (ws := .code yX4_init cX4_init 1 none :: TB) B.pre w (List.mem_cons_of_mem _ h)
  have hown : s.vm.findClass RX4 = some m.cls := findClass_of_methodNamed B.named
  have S : CallFix p m c cX4_init 1 s _ TB RX4 := ⟨hx, hb, hml, hown, hT⟩
  have hin : meth.name = "<init>" := (name_of_methodNamed B.named B.method).1
  subst hsz
  have hD := hD0.self (sz := s.heap.size)
  generalize hAe : va_A [(h0, .inr (4, [.null, .null, .null]))] s.heap.size = A at hD ⊢
  have hA : ∀ q : Nat, s.heap.size ≤ q → A q := fun q h => by rw [← hAe]; exact Or.inr h
  have hS : va_S A s.heap s.heap [] := va_S.rf
  have hP : va_P D vwCl [(h0, .inr (4, [.null, .null, .null]))] s.heap := hP
  have hl := lv_entry ([.ref h0]) (n := 1) (Nat.le_of_ble_eq_true rfl)
  rw [lg_entry_eq]
  generalize (lg_sl ([.ref h0]) ++ List.replicate (1 - (lg_sl ([.ref h0])).length) Slot.unset).toArray = ls at hl ⊢
  have hl : lv_has ls 1 [(0, .ref h0)] := hl
  refine lv_aload_n hx hb dX4_init_0 rfl (lv_at hl 0 rfl) ?_
  refine W.objInit hx hb hown (hT _ t339) (hT _ t129) (hT _ t130) rfl (by rw [hml]; exact hl.1) rfl dX4_init_1 (Nat.le_of_ble_eq_true rfl) (Nat.le_of_ble_eq_true rfl) ?_
  refine W.eq (g2 := F0 m 4 ls []) rfl ?_
  refine lv_aload_n hx hb dX4_init_4 rfl (lv_at hl 0 rfl) ?_
  refine lv_iconst (v := 4) hx hb dX4_init_5 (by decide) ?_
  refine n_newa (atype := .int) (ty := .int) (cT := k 0) (N' := 4) (a0 := (4, .inl (fun _ => 0))) 0 ra_int rfl hx hb (hT _ t194) rfl hK hP hD hS hA (fun _ => rfl) (by decide) (by decide) (Nat.le_of_ble_eq_true rfl) (Nat.le_of_ble_eq_true rfl) (Nat.le_of_ble_eq_true rfl) dX4_init_6 (fun q6_1 H hP9 hD9 hS9 => ?_)
  clear hP hD hS
  have hS := hS9
  have hP := hP9
  have hD := hD9
  clear hP9 hD9 hS9
  replace hP : va_P D vwCl [(h0, .inr (4, [.null, .null, .null])), (q6_1, .inl (k 0, 4, .inl (fun _ => 0)))] H := hP
  replace hD : va_D A [(h0, .inr (4, [.null, .null, .null])), (q6_1, .inl (k 0, 4, .inl (fun _ => 0)))] := hD
  refine W.widen (k := 1) (n := 4) (Nat.le_of_ble_eq_true rfl) (Nat.le_of_ble_eq_true rfl) ?_
  refine va_putF (D := D) (ci := 4) (v := .ref q6_1) (ty := .array .int) (C := RX4) (T := TX4) (N := 3) hx hb hT in_X4 tyX4 tyX4_ok nmX4 hown hK hP hD hS 0 rfl rfl 0 (by decide) (hT _ t343) (fun _ h9 => h9) rfl hin rfl (by decide +kernel) rfl rfl (Nat.le_of_ble_eq_true rfl) dX4_init_8 (fun H locs hP9 hD9 hS9 => ?_)
  clear hP hD hS
  have hS := hS9
  have hP := hP9
  have hD := hD9
  clear hP9 hD9 hS9
  replace hP : va_P D vwCl [(h0, .inr (4, [.ref q6_1, .null, .null])), (q6_1, .inl (k 0, 4, .inl (fun _ => 0)))] H := hP
  replace hD : va_D A [(h0, .inr (4, [.ref q6_1, .null, .null])), (q6_1, .inl (k 0, 4, .inl (fun _ => 0)))] := hD
  refine lv_aload_n hx hb dX4_init_11 rfl (lv_at hl 0 rfl) ?_
  refine lv_iconst (v := 4) hx hb dX4_init_12 (by decide) ?_
  refine n_newa (atype := .int) (ty := .int) (cT := k 0) (N' := 4) (a0 := (4, .inl (fun _ => 0))) 0 ra_int rfl hx hb (hT _ t194) rfl hK hP hD hS hA (fun _ => rfl) (by decide) (by decide) (Nat.le_of_ble_eq_true rfl) (Nat.le_of_ble_eq_true rfl) (Nat.le_of_ble_eq_true rfl) dX4_init_13 (fun q13_2 H hP9 hD9 hS9 => ?_)
  clear hP hD hS
  have hS := hS9
  have hP := hP9
  have hD := hD9
  clear hP9 hD9 hS9
  replace hP : va_P D vwCl [(h0, .inr (4, [.ref q6_1, .null, .null])), (q6_1, .inl (k 0, 4, .inl (fun _ => 0))), (q13_2, .inl (k 0, 4, .inl (fun _ => 0)))] H := hP
  replace hD : va_D A [(h0, .inr (4, [.ref q6_1, .null, .null])), (q6_1, .inl (k 0, 4, .inl (fun _ => 0))), (q13_2, .inl (k 0, 4, .inl (fun _ => 0)))] := hD
  refine W.widen (k := 2) (n := 8) (Nat.le_of_ble_eq_true rfl) (Nat.le_of_ble_eq_true rfl) ?_
  refine va_putF (D := D) (ci := 4) (v := .ref q13_2) (ty := .array .int) (C := RX4) (T := TX4) (N := 3) hx hb hT in_X4 tyX4 tyX4_ok nmX4 hown hK hP hD hS 0 rfl rfl 1 (by decide) (hT _ t345) (fun _ h9 => h9) rfl hin rfl (by decide +kernel) rfl rfl (Nat.le_of_ble_eq_true rfl) dX4_init_15 (fun H locs hP9 hD9 hS9 => ?_)
  clear hP hD hS
  have hS := hS9
  have hP := hP9
  have hD := hD9
  clear hP9 hD9 hS9
  replace hP : va_P D vwCl [(h0, .inr (4, [.ref q6_1, .ref q13_2, .null])), (q6_1, .inl (k 0, 4, .inl (fun _ => 0))), (q13_2, .inl (k 0, 4, .inl (fun _ => 0)))] H := hP
  replace hD : va_D A [(h0, .inr (4, [.ref q6_1, .ref q13_2, .null])), (q6_1, .inl (k 0, 4, .inl (fun _ => 0))), (q13_2, .inl (k 0, 4, .inl (fun _ => 0)))] := hD
  refine lv_aload_n hx hb dX4_init_18 rfl (lv_at hl 0 rfl) ?_
  refine lv_iconst (v := 4) hx hb dX4_init_19 (by decide) ?_
  refine lv_bipush (v := 60) hx hb dX4_init_20 (by decide) ?_
  refine n_mna (k := k) hx hb hown (hT _ t340) hN.2.2.2 (hT _ t357) hK hP hD hS hA (Nat.le_of_ble_eq_true rfl) (Nat.le_of_ble_eq_true rfl) dX4_init_22 (fun q22_3 r22_3_0 r22_3_1 r22_3_2 r22_3_3 H hP9 hD9 hS9 => ?_)
  clear hP hD hS
  have hS := hS9
  have hP := hP9
  have hD := hD9
  clear hP9 hD9 hS9
  replace hP : va_P D vwCl [(h0, .inr (4, [.ref q6_1, .ref q13_2, .null])), (q6_1, .inl (k 0, 4, .inl (fun _ => 0))), (q13_2, .inl (k 0, 4, .inl (fun _ => 0))), (q22_3, .inl (k 6, 4, .inr (.inr (.inr (.inr (va_up (va_up (va_up (va_up (fun _ => none) 0 (some r22_3_0)) 1 (some r22_3_1)) 2 (some r22_3_2)) 3 (some r22_3_3))))))), (r22_3_0, .inl (k 2, 60, .inr (.inl (fun _ => 0)))), (r22_3_1, .inl (k 2, 60, .inr (.inl (fun _ => 0)))), (r22_3_2, .inl (k 2, 60, .inr (.inl (fun _ => 0)))), (r22_3_3, .inl (k 2, 60, .inr (.inl (fun _ => 0))))] H := hP
  replace hD : va_D A [(h0, .inr (4, [.ref q6_1, .ref q13_2, .null])), (q6_1, .inl (k 0, 4, .inl (fun _ => 0))), (q13_2, .inl (k 0, 4, .inl (fun _ => 0))), (q22_3, .inl (k 6, 4, .inr (.inr (.inr (.inr (va_up (va_up (va_up (va_up (fun _ => none) 0 (some r22_3_0)) 1 (some r22_3_1)) 2 (some r22_3_2)) 3 (some r22_3_3))))))), (r22_3_0, .inl (k 2, 60, .inr (.inl (fun _ => 0)))), (r22_3_1, .inl (k 2, 60, .inr (.inl (fun _ => 0)))), (r22_3_2, .inl (k 2, 60, .inr (.inl (fun _ => 0)))), (r22_3_3, .inl (k 2, 60, .inr (.inl (fun _ => 0))))] := hD
  refine W.widen (k := 7) (n := 252) (Nat.le_of_ble_eq_true rfl) (Nat.le_of_ble_eq_true rfl) ?_
  refine va_putF (D := D) (ci := 4) (v := .ref q22_3) (ty := .array (.array .long)) (C := RX4) (T := TX4) (N := 3) hx hb hT in_X4 tyX4 tyX4_ok nmX4 hown hK hP hD hS 0 rfl rfl 2 (by decide) (hT _ t347) (fun _ h9 => h9) rfl hin rfl (by decide +kernel) rfl rfl (Nat.le_of_ble_eq_true rfl) dX4_init_26 (fun H locs hP9 hD9 hS9 => ?_)
  clear hP hD hS
  have hS := hS9
  have hP := hP9
  have hD := hD9
  clear hP9 hD9 hS9
  replace hP : va_P D vwCl [(h0, .inr (4, [.ref q6_1, .ref q13_2, .ref q22_3])), (q6_1, .inl (k 0, 4, .inl (fun _ => 0))), (q13_2, .inl (k 0, 4, .inl (fun _ => 0))), (q22_3, .inl (k 6, 4, .inr (.inr (.inr (.inr (va_up (va_up (va_up (va_up (fun _ => none) 0 (some r22_3_0)) 1 (some r22_3_1)) 2 (some r22_3_2)) 3 (some r22_3_3))))))), (r22_3_0, .inl (k 2, 60, .inr (.inl (fun _ => 0)))), (r22_3_1, .inl (k 2, 60, .inr (.inl (fun _ => 0)))), (r22_3_2, .inl (k 2, 60, .inr (.inl (fun _ => 0)))), (r22_3_3, .inl (k 2, 60, .inr (.inl (fun _ => 0))))] H := hP
  replace hD : va_D A [(h0, .inr (4, [.ref q6_1, .ref q13_2, .ref q22_3])), (q6_1, .inl (k 0, 4, .inl (fun _ => 0))), (q13_2, .inl (k 0, 4, .inl (fun _ => 0))), (q22_3, .inl (k 6, 4, .inr (.inr (.inr (.inr (va_up (va_up (va_up (va_up (fun _ => none) 0 (some r22_3_0)) 1 (some r22_3_1)) 2 (some r22_3_2)) 3 (some r22_3_3))))))), (r22_3_0, .inl (k 2, 60, .inr (.inl (fun _ => 0)))), (r22_3_1, .inl (k 2, 60, .inr (.inl (fun _ => 0)))), (r22_3_2, .inl (k 2, 60, .inr (.inl (fun _ => 0)))), (r22_3_3, .inl (k 2, 60, .inr (.inl (fun _ => 0))))] := hD
  refine lv_aload_n hx hb dX4_init_29 rfl (lv_at hl 0 rfl) ?_
  refine va_get (D := D) (ci := 4) (v := .ref q6_1) (C := RX4) (T := TX4) (N := 3) hx hb hT in_X4 hown hK hP 0 rfl rfl 0 (by decide) (hT _ t343) (fun _ h9 => h9) rfl dX4_init_30 ?_
  refine lv_iconst (v := (-1)) hx hb dX4_init_33 (by decide) ?_
  refine rw_v (wc := [(q6_1, .inl (k 0, 4, .inl (fun _ => 0)))]) (wr := [(h0, .inr (4, [.ref q6_1, .ref q13_2, .ref q22_3])), (q13_2, .inl (k 0, 4, .inl (fun _ => 0))), (q22_3, .inl (k 6, 4, .inr (.inr (.inr (.inr (va_up (va_up (va_up (va_up (fun _ => none) 0 (some r22_3_0)) 1 (some r22_3_1)) 2 (some r22_3_2)) 3 (some r22_3_3))))))), (r22_3_0, .inl (k 2, 60, .inr (.inl (fun _ => 0)))), (r22_3_1, .inl (k 2, 60, .inr (.inl (fun _ => 0)))), (r22_3_2, .inl (k 2, 60, .inr (.inl (fun _ => 0)))), (r22_3_3, .inl (k 2, 60, .inr (.inl (fun _ => 0))))]) [1] [0, 2, 3, 4, 5, 6, 7] rfl rfl (by decide +kernel) (by decide +kernel) (by decide +kernel) hP hD hS hA (fun hPc hDc => run_S (C := RJ7) (As := [.ref q6_1, .int (-1)]) (rest := []) S (c_fillI l D k q6_1 4 (fun _ => 0) (-1) (by decide) _) (gdC t166) t342 t165 t109 ok_J7_fill_53178 ⟨rfl, rfl, Nat.le_of_ble_eq_true rfl, Nat.le_of_ble_eq_true rfl⟩ (pw_S hK hN hPc hDc) rfl hl.1 rfl (Nat.le_of_ble_eq_true rfl) ⟨Nat.le_of_ble_eq_true rfl, Nat.le_of_ble_eq_true rfl⟩ dX4_init_34) (fun u34_4 H locs hu34_4 hKu34_4 hP9 hD9 hS9 => ?_)
  clear hP hD hS
  have hS := hS9
  have hP := hP9
  have hD := hD9
  clear hP9 hD9 hS9
  replace hP : va_P D vwCl [(h0, .inr (4, [.ref q6_1, .ref q13_2, .ref q22_3])), (q13_2, .inl (k 0, 4, .inl (fun _ => 0))), (q22_3, .inl (k 6, 4, .inr (.inr (.inr (.inr (va_up (va_up (va_up (va_up (fun _ => none) 0 (some r22_3_0)) 1 (some r22_3_1)) 2 (some r22_3_2)) 3 (some r22_3_3))))))), (r22_3_0, .inl (k 2, 60, .inr (.inl (fun _ => 0)))), (r22_3_1, .inl (k 2, 60, .inr (.inl (fun _ => 0)))), (r22_3_2, .inl (k 2, 60, .inr (.inl (fun _ => 0)))), (r22_3_3, .inl (k 2, 60, .inr (.inl (fun _ => 0)))), (q6_1, .inl (k 0, 4, .inl u34_4))] H := hP
  replace hD : va_D A [(h0, .inr (4, [.ref q6_1, .ref q13_2, .ref q22_3])), (q13_2, .inl (k 0, 4, .inl (fun _ => 0))), (q22_3, .inl (k 6, 4, .inr (.inr (.inr (.inr (va_up (va_up (va_up (va_up (fun _ => none) 0 (some r22_3_0)) 1 (some r22_3_1)) 2 (some r22_3_2)) 3 (some r22_3_3))))))), (r22_3_0, .inl (k 2, 60, .inr (.inl (fun _ => 0)))), (r22_3_1, .inl (k 2, 60, .inr (.inl (fun _ => 0)))), (r22_3_2, .inl (k 2, 60, .inr (.inl (fun _ => 0)))), (r22_3_3, .inl (k 2, 60, .inr (.inl (fun _ => 0)))), (q6_1, .inl (k 0, 4, .inl u34_4))] := hD
  have hP9 := hP.sub (ws' := [(h0, .inr (4, [.ref q6_1, .ref q13_2, .ref q22_3])), (q6_1, .inl (k 0, 4, .inl u34_4)), (q13_2, .inl (k 0, 4, .inl (fun _ => 0))), (q22_3, .inl (k 6, 4, .inr (.inr (.inr (.inr (va_up (va_up (va_up (va_up (fun _ => none) 0 (some r22_3_0)) 1 (some r22_3_1)) 2 (some r22_3_2)) 3 (some r22_3_3))))))), (r22_3_0, .inl (k 2, 60, .inr (.inl (fun _ => 0)))), (r22_3_1, .inl (k 2, 60, .inr (.inl (fun _ => 0)))), (r22_3_2, .inl (k 2, 60, .inr (.inl (fun _ => 0)))), (r22_3_3, .inl (k 2, 60, .inr (.inl (fun _ => 0))))]) [0, 7, 1, 2, 3, 4, 5, 6] rfl
  have hD9 := d_sub (ws' := [(h0, .inr (4, [.ref q6_1, .ref q13_2, .ref q22_3])), (q6_1, .inl (k 0, 4, .inl u34_4)), (q13_2, .inl (k 0, 4, .inl (fun _ => 0))), (q22_3, .inl (k 6, 4, .inr (.inr (.inr (.inr (va_up (va_up (va_up (va_up (fun _ => none) 0 (some r22_3_0)) 1 (some r22_3_1)) 2 (some r22_3_2)) 3 (some r22_3_3))))))), (r22_3_0, .inl (k 2, 60, .inr (.inl (fun _ => 0)))), (r22_3_1, .inl (k 2, 60, .inr (.inl (fun _ => 0)))), (r22_3_2, .inl (k 2, 60, .inr (.inl (fun _ => 0)))), (r22_3_3, .inl (k 2, 60, .inr (.inl (fun _ => 0))))]) hD [0, 7, 1, 2, 3, 4, 5, 6] (by decide +kernel) rfl
  have hK9 := hK.sub (tys' := []) [] rfl
  exact W.vret hx hb hr (fun t ht hW => ⟨⟨mkU [q6_1, q13_2, q22_3, r22_3_0, r22_3_1, r22_3_2, r22_3_3] [u34_4], rfl, hu34_4, by rw [ht]; exact hP9, va_K.moved hW.alike hK9, by rw [hAe]; exact hD9⟩, by rw [hAe]; exact hS.F ht⟩) hS.2.2 dX4_init_37
