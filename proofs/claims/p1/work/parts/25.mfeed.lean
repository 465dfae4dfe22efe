section XST
variable {p : Program} {l : Launch} {e : Env} {R : Room} {s : State} {m : MethodId} {args : Array Value} {below : List Frame} {meth : Method} {c : Code} {H : Heap} {locs : List Loc} {cells slots : Nat} {Q : State → Prop} {cc : ByteArray} {pc : Nat} {ls : Array Slot} {rest : List Value} {D : va_G} {A : Nat → Prop} {a : Nat} {tys : List (ClassId × FieldType)} {ws : va_W} {H0 : Heap}
theorem x_ist (hexec : p.tables.exec = Jvm.exec) (hb : c.code = cc) (hK : va_K D vwCl tys s) (hP : va_P D vwCl ws H) (hD : va_D A ws) (hS : va_S A H0 H locs) (q0 t0 : Nat) {cA : ClassId} {n : Nat} {f : Nat → Int32} (ha : ws[q0]? = some (a, .inl (cA, n, .inl f))) (ht : tys[t0]? = some (cA, .int)) {i : Int32} {x : Int32} (hin : vp_in i n) (hdg : decode cc pc = .ok (.iastore, 1))
    (kk : ∀ (g : Nat → Int32) (H1 : Heap) (locs1 : List Loc), va_P D vwCl (ws.set q0 (a, .inl (cA, n, .inl g))) H1 → va_D A (ws.set q0 (a, .inl (cA, n, .inl g))) → va_S A H0 H1 locs1 → W p l e R s m args below meth c H1 locs1 cells slots Q (F0 m (pc + 1) ls rest)) : W p l e R s m args below meth c H locs cells slots Q (F0 m pc ls (.int x :: .int i :: .ref a :: rest)) :=
  va_iast hexec hb hK hP hD hS q0 t0 ha ht hin hdg (fun H1 locs1 hP1 hD1 hS1 => kk _ H1 locs1 hP1 hD1 hS1)
theorem x_bst (hexec : p.tables.exec = Jvm.exec) (hb : c.code = cc) (hK : va_K D vwCl tys s) (hP : va_P D vwCl ws H) (hD : va_D A ws) (hS : va_S A H0 H locs) (q0 t0 : Nat) {cA : ClassId} {n : Nat} {f : Nat → Int32} (ha : ws[q0]? = some (a, .inl (cA, n, .inl f))) (ht : tys[t0]? = some (cA, .byte)) {i : Int32} {x : Int32} (hin : vp_in i n) (hdg : decode cc pc = .ok (.bastore, 1))
    (kk : ∀ (g : Nat → Int32) (H1 : Heap) (locs1 : List Loc), va_P D vwCl (ws.set q0 (a, .inl (cA, n, .inl g))) H1 → va_D A (ws.set q0 (a, .inl (cA, n, .inl g))) → va_S A H0 H1 locs1 → W p l e R s m args below meth c H1 locs1 cells slots Q (F0 m (pc + 1) ls rest)) : W p l e R s m args below meth c H locs cells slots Q (F0 m pc ls (.int x :: .int i :: .ref a :: rest)) :=
  va_bast hexec hb hK hP hD hS q0 t0 ha ht hin hdg (fun H1 locs1 hP1 hD1 hS1 => kk _ H1 locs1 hP1 hD1 hS1)
theorem x_zst (hexec : p.tables.exec = Jvm.exec) (hb : c.code = cc) (hK : va_K D vwCl tys s) (hP : va_P D vwCl ws H) (hD : va_D A ws) (hS : va_S A H0 H locs) (q0 t0 : Nat) {cA : ClassId} {n : Nat} {f : Nat → Int32} (ha : ws[q0]? = some (a, .inl (cA, n, .inl f))) (ht : tys[t0]? = some (cA, .boolean)) {i : Int32} {x : Int32} (hin : vp_in i n) (hdg : decode cc pc = .ok (.bastore, 1))
    (kk : ∀ (g : Nat → Int32) (H1 : Heap) (locs1 : List Loc), va_P D vwCl (ws.set q0 (a, .inl (cA, n, .inl g))) H1 → va_D A (ws.set q0 (a, .inl (cA, n, .inl g))) → va_S A H0 H1 locs1 → W p l e R s m args below meth c H1 locs1 cells slots Q (F0 m (pc + 1) ls rest)) : W p l e R s m args below meth c H locs cells slots Q (F0 m pc ls (.int x :: .int i :: .ref a :: rest)) :=
  va_zast hexec hb hK hP hD hS q0 t0 ha ht hin hdg (fun H1 locs1 hP1 hD1 hS1 => kk _ H1 locs1 hP1 hD1 hS1)
theorem x_lst (hexec : p.tables.exec = Jvm.exec) (hb : c.code = cc) (hK : va_K D vwCl tys s) (hP : va_P D vwCl ws H) (hD : va_D A ws) (hS : va_S A H0 H locs) (q0 t0 : Nat) {cA : ClassId} {n : Nat} {f : Nat → Int64} (ha : ws[q0]? = some (a, .inl (cA, n, .inr (.inl f)))) (ht : tys[t0]? = some (cA, .long)) {i : Int32} {x : Int64} (hin : vp_in i n) (hdg : decode cc pc = .ok (.lastore, 1))
    (kk : ∀ (g : Nat → Int64) (H1 : Heap) (locs1 : List Loc), va_P D vwCl (ws.set q0 (a, .inl (cA, n, .inr (.inl g)))) H1 → va_D A (ws.set q0 (a, .inl (cA, n, .inr (.inl g)))) → va_S A H0 H1 locs1 → W p l e R s m args below meth c H1 locs1 cells slots Q (F0 m (pc + 1) ls rest)) : W p l e R s m args below meth c H locs cells slots Q (F0 m pc ls (.long x :: .int i :: .ref a :: rest)) :=
  va_last hexec hb hK hP hD hS q0 t0 ha ht hin hdg (fun H1 locs1 hP1 hD1 hS1 => kk _ H1 locs1 hP1 hD1 hS1)
end XST
theorem a_end_64 {x : Int32} (h : (0 : Int64) ≤ x.toInt64 ∧ x.toInt64 ≤ 0) : x = a_end x := by
  have g := (i64_01 0 1 0 (by decide) (by decide)).mp h
  have e : x = 0 := by
    apply Int32.toInt_inj.mp
    have a1 := mt Int32.lt_iff_toInt_lt.mpr g.1
    have a2 := Int32.lt_iff_toInt_lt.mp g.2
    have e0 : (0 : Int32).toInt = 0 := rfl
    have e1 : (1 : Int32).toInt = 1 := by decide
    rw [e0] at a1
    rw [e1] at a2
    rw [e0]
    omega
  rw [a_end, if_pos e, e]
set_option maxHeartbeats 4000000 in
set_option maxRecDepth 100000 in
theorem c_X10_inP (l : Launch) (D : va_G) (k : Nat → ClassId) (p0 p1 p2 : Int64) (sz : Nat) : Met l yX10_in (.code yX10_in cX10_in 6 (some .boolean) :: TB) (rmk 1) (va_Pc [.long p0, .long p1, .long p2] (PW D k sz [])) (vp_Si (fun r => (r = 1 ∧ (p1 ≤ p0 ∧ p0 ≤ p2)) ∨ (r = 0 ∧ ¬ (p1 ≤ p0 ∧ p0 ≤ p2)))) 0 0 (fun _ => False) := by
  refine Met.ofW (cc := cX10_in) (maxL := 6) (ret := (some .boolean)) (by decide) rfl ?_
  intro p e s m args below meth c s₁ B hml hv
  obtain ⟨rfl, hsz, hP, hK, hD0, hN⟩ := hv
  have hx := B.exec
  have hb := B.bytes
  have hr := B.returns
  have hT : ∀ w ∈ TB, w.before ([.long p0, .long p1, .long p2] : List Value).toArray s = true := fun w h => atoms_spec (ws := .code yX10_in cX10_in 6 (some .boolean) :: TB) B.pre w (List.mem_cons_of_mem _ h)
  have hown : s.vm.findClass RX10 = some m.cls := findClass_of_methodNamed B.named
  have S : CallFix p m c cX10_in 6 s _ TB RX10 := ⟨hx, hb, hml, hown, hT⟩
  subst hsz
  have hD := hD0.self (sz := s.heap.size)
  have hP : va_P D vwCl [] s.heap := hP
  have hl := lv_entry ([.long p0, .long p1, .long p2]) (n := 6) (Nat.le_of_ble_eq_true rfl)
  rw [lg_entry_eq]
  generalize (lg_sl ([.long p0, .long p1, .long p2]) ++ List.replicate (6 - (lg_sl ([.long p0, .long p1, .long p2])).length) Slot.unset).toArray = ls at hl ⊢
  have hl : lv_has ls 6 [(0, .long p0), (2, .long p1), (4, .long p2)] := hl
  refine lv_lload_n hx hb dX10_in_0 rfl (lv_at hl 0 rfl) ?_
  refine lv_lload_n hx hb dX10_in_1 rfl (lv_at hl 1 rfl) ?_
  refine W.lcmp hx hb dX10_in_2 ?_
  refine lv_if_lt (tgt := 17) hx hb dX10_in_3 (by decide) (fun c_1 => ?_) (fun c_1 => ?_)
  · skip
    refine lv_iconst (v := 0) hx hb dX10_in_17 (by decide) ?_
    exact W.zret (v := 0) (ty := .boolean) hx hb hr rfl (fun t ht hW => ⟨0, rfl, Or.inr ⟨rfl, fun z => absurd ((lg_cmp_ge p0 p1).mpr z.1) (Int32.not_le.mpr c_1)⟩, ht⟩) (fun _ h9 => by cases h9) dX10_in_18
  · skip
    refine lv_lload_n hx hb dX10_in_6 rfl (lv_at hl 0 rfl) ?_
    refine lv_lload hx hb dX10_in_7 (lv_at hl 2 rfl) ?_
    refine W.lcmp hx hb dX10_in_9 ?_
    refine lv_if_gt (tgt := 17) hx hb dX10_in_10 (by decide) (fun c_2 => ?_) (fun c_2 => ?_)
    · skip
      refine lv_iconst (v := 0) hx hb dX10_in_17 (by decide) ?_
      exact W.zret (v := 0) (ty := .boolean) hx hb hr rfl (fun t ht hW => ⟨0, rfl, Or.inr ⟨rfl, fun z => absurd ((lg_cmp_le p0 p2).mpr z.2) (Int32.not_le.mpr c_2)⟩, ht⟩) (fun _ h9 => by cases h9) dX10_in_18
    · skip
      refine lv_iconst (v := 1) hx hb dX10_in_13 (by decide) ?_
      refine lv_goto (tgt := 18) hx hb dX10_in_14 (by decide) ?_
      exact W.zret (v := 1) (ty := .boolean) hx hb hr rfl (fun t ht hW => ⟨1, rfl, Or.inl ⟨rfl, (lg_cmp_ge p0 p1).mp (Int32.not_lt.mp c_1), (lg_cmp_le p0 p2).mp (Int32.not_lt.mp c_2)⟩, ht⟩) (fun _ h9 => by cases h9) dX10_in_18
set_option maxHeartbeats 4000000 in
set_option maxRecDepth 100000 in
theorem c_X10_isSlotP (l : Launch) (D : va_G) (k : Nat → ClassId) (p0 : Int32) (sz : Nat) : Met l yX10_isSlot (.code yX10_isSlot cX10_isSlot 1 (some .boolean) :: TB) (rmk 2) (va_Pc [.int p0] (PW D k sz [])) (vp_Si (fun r => (r = 1 ∧ in4 p0) ∨ (r = 0 ∧ (p0 < 0 ∨ 4 ≤ p0)))) 0 0 (fun _ => False) := by
  refine Met.ofW (cc := cX10_isSlot) (maxL := 1) (ret := (some .boolean)) (by decide) rfl ?_
  intro p e s m args below meth c s₁ B hml hv
  obtain ⟨rfl, hsz, hP, hK, hD0, hN⟩ := hv
  have hx := B.exec
  have hb := B.bytes
  have hr := B.returns
  have hT : ∀ w ∈ TB, w.before ([.int p0] : List Value).toArray s = true := fun w h => atoms_spec (ws := .code yX10_isSlot cX10_isSlot 1 (some .boolean) :: TB) B.pre w (List.mem_cons_of_mem _ h)
  have hown : s.vm.findClass RX10 = some m.cls := findClass_of_methodNamed B.named
  have S : CallFix p m c cX10_isSlot 1 s _ TB RX10 := ⟨hx, hb, hml, hown, hT⟩
  subst hsz
  have hD := hD0.self (sz := s.heap.size)
  have hP : va_P D vwCl [] s.heap := hP
  have hl := lv_entry ([.int p0]) (n := 1) (Nat.le_of_ble_eq_true rfl)
  rw [lg_entry_eq]
  generalize (lg_sl ([.int p0]) ++ List.replicate (1 - (lg_sl ([.int p0])).length) Slot.unset).toArray = ls at hl ⊢
  have hl : lv_has ls 1 [(0, .int p0)] := hl
  refine lv_iload_n hx hb dX10_isSlot_0 rfl (lv_at hl 0 rfl) ?_
  refine lv_i2l (v := p0.toInt64) hx hb dX10_isSlot_1 rfl ?_
  refine lv_lconst (v := 0) hx hb dX10_isSlot_2 (by decide) ?_
  refine lv_ldc2 (v := 3) hx hb hown (hT _ t1665) dX10_isSlot_3 ?_
  refine ro_S (As := [.long p0.toInt64, .long 0, .long 3]) (rest := []) S (c_X10_inP l D k p0.toInt64 0 3 _) lkX10_85 ok_X10_in ⟨rfl, rfl, Nat.le_of_ble_eq_true rfl, Nat.le_of_ble_eq_true rfl⟩ (pw_S hK hN (hP.sub (ws' := []) [] rfl) ((d_sub (ws' := []) hD [] (by decide +kernel) rfl).weaken (fun _ _ _ _ => trivial))) rfl hl.1 rfl (Nat.le_of_ble_eq_true rfl) ⟨Nat.le_of_ble_eq_true rfl, Nat.le_of_ble_eq_true rfl⟩ dX10_isSlot_6 (fun r_1 er_1 => ?_)
  rcases er_1 with ⟨er_1, gr_1⟩ | ⟨er_1, gr_1⟩
  · subst er_1
    exact W.zret (v := 1) (ty := .boolean) hx hb hr rfl (fun t ht hW => ⟨1, rfl, Or.inl ⟨rfl, in4_of gr_1⟩, ht⟩) (fun _ h9 => by cases h9) dX10_isSlot_9
  · subst er_1
    exact W.zret (v := 0) (ty := .boolean) hx hb hr rfl (fun t ht hW => ⟨0, rfl, Or.inr ⟨rfl, out4_of gr_1⟩, ht⟩) (fun _ h9 => by cases h9) dX10_isSlot_9
set_option maxHeartbeats 4000000 in
set_option maxRecDepth 100000 in
theorem c_X10_end_W (l : Launch) (D : va_G) (k : Nat → ClassId) (x0 x1 x2 x3 x4 x5 x6 x7 x8 x9 x10 x11 x12 x13 x14 x15 x16 x17 x18 x19 x20 x21 : Nat) (p0 : Int32) (sz : Nat) : Met l yX10_end_ (.code yX10_end_ cX10_end_ 2 (some .int) :: TB) (rmw 2 0 0) (va_Pc [.ref x0, .int p0] (PW D k sz [(x0, .inr (10, [.int 0, .ref x1, .ref x2, .ref x3, .ref x4, .int 0, .ref x5, .int 0, .int 0, .int 0, .int 0, .int 0, .int 0, .int (-1), .ref x6, .ref x7, .ref x8, .ref x9, .ref x10, .ref x11, .int 0, .int 0, .int 0, .ref x12, .ref x13, .ref x14, .int 0, .int 0, .ref x15, .int 0, .ref x16, .int 0, .ref x17, .int 0, .ref x18, .ref x19, .ref x20, .ref x21]))])) (QI D (S := UT) (fun r u => r = a_end p0) (fun u => []) (fun _ => []) [(x0, .inr (10, [.int 0, .ref x1, .ref x2, .ref x3, .ref x4, .int 0, .ref x5, .int 0, .int 0, .int 0, .int 0, .int 0, .int 0, .int (-1), .ref x6, .ref x7, .ref x8, .ref x9, .ref x10, .ref x11, .int 0, .int 0, .int 0, .ref x12, .ref x13, .ref x14, .int 0, .int 0, .ref x15, .int 0, .ref x16, .int 0, .ref x17, .int 0, .ref x18, .ref x19, .ref x20, .ref x21]))] sz) 0 0 (va_A [(x0, .inr (10, [.int 0, .ref x1, .ref x2, .ref x3, .ref x4, .int 0, .ref x5, .int 0, .int 0, .int 0, .int 0, .int 0, .int 0, .int (-1), .ref x6, .ref x7, .ref x8, .ref x9, .ref x10, .ref x11, .int 0, .int 0, .int 0, .ref x12, .ref x13, .ref x14, .int 0, .int 0, .ref x15, .int 0, .ref x16, .int 0, .ref x17, .int 0, .ref x18, .ref x19, .ref x20, .ref x21]))] sz) := by
  refine Met.ofW (cc := cX10_end_) (maxL := 2) (ret := (some .int)) (by decide) rfl ?_
  intro p e s m args below meth c s₁ B hml hv
  obtain ⟨rfl, hsz, hP, hK, hD0, hN⟩ := hv
  have hx := B.exec
  have hb := B.bytes
  have hr := B.returns
  have hT : ∀ w ∈ TB, w.before ([.ref x0, .int p0] : List Value).toArray s = true := fun w h => atoms_spec (ws := .code yX10_end_ cX10_end_ 2 (some .int) :: TB) B.pre w (List.mem_cons_of_mem _ h)
  have hown : s.vm.findClass RX10 = some m.cls := findClass_of_methodNamed B.named
  have S : CallFix p m c cX10_end_ 2 s _ TB RX10 := ⟨hx, hb, hml, hown, hT⟩
  subst hsz
  have hD := hD0.self (sz := s.heap.size)
  generalize hAe : va_A [(x0, .inr (10, [.int 0, .ref x1, .ref x2, .ref x3, .ref x4, .int 0, .ref x5, .int 0, .int 0, .int 0, .int 0, .int 0, .int 0, .int (-1), .ref x6, .ref x7, .ref x8, .ref x9, .ref x10, .ref x11, .int 0, .int 0, .int 0, .ref x12, .ref x13, .ref x14, .int 0, .int 0, .ref x15, .int 0, .ref x16, .int 0, .ref x17, .int 0, .ref x18, .ref x19, .ref x20, .ref x21]))] s.heap.size = A at hD ⊢
  have hA : ∀ q : Nat, s.heap.size ≤ q → A q := fun q h => by rw [← hAe]; exact Or.inr h
  have hS : va_S A s.heap s.heap [] := va_S.rf
  have hP : va_P D vwCl [(x0, .inr (10, [.int 0, .ref x1, .ref x2, .ref x3, .ref x4, .int 0, .ref x5, .int 0, .int 0, .int 0, .int 0, .int 0, .int 0, .int (-1), .ref x6, .ref x7, .ref x8, .ref x9, .ref x10, .ref x11, .int 0, .int 0, .int 0, .ref x12, .ref x13, .ref x14, .int 0, .int 0, .ref x15, .int 0, .ref x16, .int 0, .ref x17, .int 0, .ref x18, .ref x19, .ref x20, .ref x21]))] s.heap := hP
  have hl := lv_entry ([.ref x0, .int p0]) (n := 2) (Nat.le_of_ble_eq_true rfl)
  rw [lg_entry_eq]
  generalize (lg_sl ([.ref x0, .int p0]) ++ List.replicate (2 - (lg_sl ([.ref x0, .int p0])).length) Slot.unset).toArray = ls at hl ⊢
  have hl : lv_has ls 2 [(0, .ref x0), (1, .int p0)] := hl
  refine lv_iload_n hx hb dX10_end__0 rfl (lv_at hl 1 rfl) ?_
  refine lv_i2l (v := p0.toInt64) hx hb dX10_end__1 rfl ?_
  refine lv_lconst (v := 0) hx hb dX10_end__2 (by decide) ?_
  refine lv_aload_n hx hb dX10_end__3 rfl (lv_at hl 0 rfl) ?_
  refine va_get (D := D) (ci := 10) (v := .int 0) (C := RX10) (T := TX10) (N := 38) hx hb hT in_X10 hown hK hP 0 rfl rfl 5 (by decide) (hT _ t1267) (fun _ h9 => h9) rfl dX10_end__4 ?_
  refine lv_i2l (v := 0) hx hb dX10_end__7 (by decide) ?_
  refine ro_S (As := [.long p0.toInt64, .long 0, .long 0]) (rest := []) S (c_X10_inP l D k p0.toInt64 0 0 _) lkX10_85 ok_X10_in ⟨rfl, rfl, Nat.le_of_ble_eq_true rfl, Nat.le_of_ble_eq_true rfl⟩ (pw_S hK hN (hP.sub (ws' := []) [] rfl) ((d_sub (ws' := []) hD [] (by decide +kernel) rfl).weaken (fun _ _ _ _ => trivial))) rfl hl.1 rfl (Nat.le_of_ble_eq_true rfl) ⟨Nat.le_of_ble_eq_true rfl, Nat.le_of_ble_eq_true rfl⟩ dX10_end__8 (fun r_1 er_1 => ?_)
  rcases er_1 with ⟨er_1, gr_1⟩ | ⟨er_1, gr_1⟩
  · subst er_1
    refine lv_if_ne (tgt := 16) hx hb dX10_end__11 (by decide) (fun c_2 => ?_) (fun c_2 => ?_)
    rotate_left
    · first | exact absurd c_2 (by decide) | exact absurd (by decide) c_2
    refine lv_aload_n hx hb dX10_end__16 rfl (lv_at hl 0 rfl) ?_
    refine lv_iload_n hx hb dX10_end__17 rfl (lv_at hl 1 rfl) ?_
    refine va_put (D := D) (ci := 10) (v := .int p0) (ty := .int) (C := RX10) (T := TX10) (N := 38) hx hb hT in_X10 tyX10 tyX10_ok nmX10 hown hK hP hD hS 0 rfl rfl 5 (by decide) (hT _ t1267) (fun _ h9 => h9) rfl (by decide +kernel) rfl rfl (Nat.le_of_ble_eq_true rfl) dX10_end__18 (fun H locs hP9 hD9 hS9 => ?_)
    clear hP hD hS
    have hS := hS9
    have hP := hP9
    have hD := hD9
    clear hP9 hD9 hS9
    replace hP : va_P D vwCl [(x0, .inr (10, [.int 0, .ref x1, .ref x2, .ref x3, .ref x4, .int p0, .ref x5, .int 0, .int 0, .int 0, .int 0, .int 0, .int 0, .int (-1), .ref x6, .ref x7, .ref x8, .ref x9, .ref x10, .ref x11, .int 0, .int 0, .int 0, .ref x12, .ref x13, .ref x14, .int 0, .int 0, .ref x15, .int 0, .ref x16, .int 0, .ref x17, .int 0, .ref x18, .ref x19, .ref x20, .ref x21]))] H := hP
    replace hD : va_D A [(x0, .inr (10, [.int 0, .ref x1, .ref x2, .ref x3, .ref x4, .int p0, .ref x5, .int 0, .int 0, .int 0, .int 0, .int 0, .int 0, .int (-1), .ref x6, .ref x7, .ref x8, .ref x9, .ref x10, .ref x11, .int 0, .int 0, .int 0, .ref x12, .ref x13, .ref x14, .int 0, .int 0, .ref x15, .int 0, .ref x16, .int 0, .ref x17, .int 0, .ref x18, .ref x19, .ref x20, .ref x21]))] := hD
    refine lv_iload_n hx hb dX10_end__21 rfl (lv_at hl 1 rfl) ?_
    have hP9 := hP.sub (ws' := []) [] rfl
    have hD9 := d_sub (ws' := []) hD [] (by decide +kernel) rfl
    have hK9 := hK.sub (tys' := []) [] rfl
    exact W.iret (v := p0) hx hb hr (fun t ht hW => ⟨⟨p0, mkU [] [], rfl, (a_end_64 gr_1), by rw [ht]; exact hP9, va_K.moved hW.alike hK9, by rw [hAe]; exact hD9⟩, by rw [hAe]; exact hS.F ht⟩) hS.2.2 dX10_end__22
  · subst er_1
    refine lv_if_ne (tgt := 16) hx hb dX10_end__11 (by decide) (fun c_3 => ?_) (fun c_3 => ?_)
    · first | exact absurd c_3 (by decide) | exact absurd (by decide) c_3
    refine lv_iconst (v := (-1)) hx hb dX10_end__14 (by decide) ?_
    have hP9 := hP.sub (ws' := []) [] rfl
    have hD9 := d_sub (ws' := []) hD [] (by decide +kernel) rfl
    have hK9 := hK.sub (tys' := []) [] rfl
    exact W.iret (v := (-1)) hx hb hr (fun t ht hW => ⟨⟨(-1), mkU [] [], rfl, (a_end_n (fun e9 => gr_1 ⟨by rw [e9]; decide, by rw [e9]; decide⟩)), by rw [ht]; exact hP9, va_K.moved hW.alike hK9, by rw [hAe]; exact hD9⟩, by rw [hAe]; exact hS.F ht⟩) hS.2.2 dX10_end__15
set_option maxHeartbeats 4000000 in
set_option maxRecDepth 100000 in
theorem c_X10_feedW (l : Launch) (D : va_G) (k : Nat → ClassId) (x0 x1 x2 x3 x4 x5 x6 x7 x8 x9 x10 x11 x12 x13 x14 x15 x16 x17 x18 x19 x20 x21 : Nat) (g0 : Nat → Int32) (g1 : Nat → Int32) (p0 p1 p2 p3 p4 : Int32) (sz : Nat) : Met l yX10_feed (.code yX10_feed cX10_feed 7 (some .int) :: TB) (rmw 1 0 0) (va_Pc [.ref x0, .int p0, .int p1, .int p2, .int p3, .int p4] (PW D k sz [(x0, .inr (10, [.int 0, .ref x1, .ref x2, .ref x3, .ref x4, .int 0, .ref x5, .int 0, .int 0, .int 0, .int 0, .int 0, .int 0, .int (-1), .ref x6, .ref x7, .ref x8, .ref x9, .ref x10, .ref x11, .int 0, .int 0, .int 0, .ref x12, .ref x13, .ref x14, .int 0, .int 0, .ref x15, .int 0, .ref x16, .int 0, .ref x17, .int 0, .ref x18, .ref x19, .ref x20, .ref x21])), (x4, .inl (k 1, 1000, .inl g0)), (x5, .inl (k 0, 5, .inl g1))])) (QI D (S := UT) (fun r u => r = 20) (fun u => []) (fun _ => []) [(x0, .inr (10, [.int 0, .ref x1, .ref x2, .ref x3, .ref x4, .int 0, .ref x5, .int 0, .int 0, .int 0, .int 0, .int 0, .int 0, .int (-1), .ref x6, .ref x7, .ref x8, .ref x9, .ref x10, .ref x11, .int 0, .int 0, .int 0, .ref x12, .ref x13, .ref x14, .int 0, .int 0, .ref x15, .int 0, .ref x16, .int 0, .ref x17, .int 0, .ref x18, .ref x19, .ref x20, .ref x21])), (x4, .inl (k 1, 1000, .inl g0)), (x5, .inl (k 0, 5, .inl g1))] sz) 0 0 (va_A [(x0, .inr (10, [.int 0, .ref x1, .ref x2, .ref x3, .ref x4, .int 0, .ref x5, .int 0, .int 0, .int 0, .int 0, .int 0, .int 0, .int (-1), .ref x6, .ref x7, .ref x8, .ref x9, .ref x10, .ref x11, .int 0, .int 0, .int 0, .ref x12, .ref x13, .ref x14, .int 0, .int 0, .ref x15, .int 0, .ref x16, .int 0, .ref x17, .int 0, .ref x18, .ref x19, .ref x20, .ref x21])), (x4, .inl (k 1, 1000, .inl g0)), (x5, .inl (k 0, 5, .inl g1))] sz) := by
  refine Met.ofW (cc := cX10_feed) (maxL := 7) (ret := (some .int)) (by decide) rfl ?_
  intro p e s m args below meth c s₁ B hml hv
  obtain ⟨rfl, hsz, hP, hK, hD0, hN⟩ := hv
  have hx := B.exec
  have hb := B.bytes
  have hr := B.returns
  have hT : ∀ w ∈ TB, w.before ([.ref x0, .int p0, .int p1, .int p2, .int p3, .int p4] : List Value).toArray s = true := fun w h => atoms_spec (ws := .code yX10_feed cX10_feed 7 (some .int) :: TB) B.pre w (List.mem_cons_of_mem _ h)
  have hown : s.vm.findClass RX10 = some m.cls := findClass_of_methodNamed B.named
  have S : CallFix p m c cX10_feed 7 s _ TB RX10 := ⟨hx, hb, hml, hown, hT⟩
  subst hsz
  have hD := hD0.self (sz := s.heap.size)
  generalize hAe : va_A [(x0, .inr (10, [.int 0, .ref x1, .ref x2, .ref x3, .ref x4, .int 0, .ref x5, .int 0, .int 0, .int 0, .int 0, .int 0, .int 0, .int (-1), .ref x6, .ref x7, .ref x8, .ref x9, .ref x10, .ref x11, .int 0, .int 0, .int 0, .ref x12, .ref x13, .ref x14, .int 0, .int 0, .ref x15, .int 0, .ref x16, .int 0, .ref x17, .int 0, .ref x18, .ref x19, .ref x20, .ref x21])), (x4, .inl (k 1, 1000, .inl g0)), (x5, .inl (k 0, 5, .inl g1))] s.heap.size = A at hD ⊢
  have hA : ∀ q : Nat, s.heap.size ≤ q → A q := fun q h => by rw [← hAe]; exact Or.inr h
  have hS : va_S A s.heap s.heap [] := va_S.rf
  have hP : va_P D vwCl [(x0, .inr (10, [.int 0, .ref x1, .ref x2, .ref x3, .ref x4, .int 0, .ref x5, .int 0, .int 0, .int 0, .int 0, .int 0, .int 0, .int (-1), .ref x6, .ref x7, .ref x8, .ref x9, .ref x10, .ref x11, .int 0, .int 0, .int 0, .ref x12, .ref x13, .ref x14, .int 0, .int 0, .ref x15, .int 0, .ref x16, .int 0, .ref x17, .int 0, .ref x18, .ref x19, .ref x20, .ref x21])), (x4, .inl (k 1, 1000, .inl g0)), (x5, .inl (k 0, 5, .inl g1))] s.heap := hP
  have hl := lv_entry ([.ref x0, .int p0, .int p1, .int p2, .int p3, .int p4]) (n := 7) (Nat.le_of_ble_eq_true rfl)
  rw [lg_entry_eq]
  generalize (lg_sl ([.ref x0, .int p0, .int p1, .int p2, .int p3, .int p4]) ++ List.replicate (7 - (lg_sl ([.ref x0, .int p0, .int p1, .int p2, .int p3, .int p4])).length) Slot.unset).toArray = ls at hl ⊢
  have hl : lv_has ls 7 [(0, .ref x0), (1, .int p0), (2, .int p1), (3, .int p2), (4, .int p3), (5, .int p4)] := hl
  refine lv_aload_n hx hb dX10_feed_0 rfl (lv_at hl 0 rfl) ?_
  refine va_get (D := D) (ci := 10) (v := .int 0) (C := RX10) (T := TX10) (N := 38) hx hb hT in_X10 hown hK hP 0 rfl rfl 5 (by decide) (hT _ t1267) (fun _ h9 => h9) rfl dX10_feed_1 ?_
  refine lv_bipush (v := 20) hx hb dX10_feed_4 (by decide) ?_
  refine lv_iadd hx hb dX10_feed_6 ?_
  refine k_top (y := 20) (by decide) ?_
  refine lv_sipush (v := 1000) hx hb dX10_feed_7 (by decide) ?_
  refine lv_icmp_le (tgt := 15) hx hb dX10_feed_10 (by decide) (fun c_1 => ?_) (fun c_1 => ?_)
  rotate_left
  · first | exact absurd c_1 (by decide) | exact absurd (by decide) c_1
  refine lv_aload_n hx hb dX10_feed_15 rfl (lv_at hl 0 rfl) ?_
  refine va_get (D := D) (ci := 10) (v := .ref x5) (C := RX10) (T := TX10) (N := 38) hx hb hT in_X10 hown hK hP 0 rfl rfl 6 (by decide) (hT _ t1268) (fun _ h9 => h9) rfl dX10_feed_16 ?_
  refine lv_iconst (v := 0) hx hb dX10_feed_19 (by decide) ?_
  refine lv_iload_n hx hb dX10_feed_20 rfl (lv_at hl 1 rfl) ?_
  refine x_ist hx hb hK hP hD hS 2 0 rfl rfl (by unfold vp_in; decide) dX10_feed_21 (fun f21_1 H locs hP9 hD9 hS9 => ?_)
  clear hP hD hS
  have hS := hS9
  have hP := hP9
  have hD := hD9
  clear hP9 hD9 hS9
  replace hP : va_P D vwCl [(x0, .inr (10, [.int 0, .ref x1, .ref x2, .ref x3, .ref x4, .int 0, .ref x5, .int 0, .int 0, .int 0, .int 0, .int 0, .int 0, .int (-1), .ref x6, .ref x7, .ref x8, .ref x9, .ref x10, .ref x11, .int 0, .int 0, .int 0, .ref x12, .ref x13, .ref x14, .int 0, .int 0, .ref x15, .int 0, .ref x16, .int 0, .ref x17, .int 0, .ref x18, .ref x19, .ref x20, .ref x21])), (x4, .inl (k 1, 1000, .inl g0)), (x5, .inl (k 0, 5, .inl f21_1))] H := hP
  replace hD : va_D A [(x0, .inr (10, [.int 0, .ref x1, .ref x2, .ref x3, .ref x4, .int 0, .ref x5, .int 0, .int 0, .int 0, .int 0, .int 0, .int 0, .int (-1), .ref x6, .ref x7, .ref x8, .ref x9, .ref x10, .ref x11, .int 0, .int 0, .int 0, .ref x12, .ref x13, .ref x14, .int 0, .int 0, .ref x15, .int 0, .ref x16, .int 0, .ref x17, .int 0, .ref x18, .ref x19, .ref x20, .ref x21])), (x4, .inl (k 1, 1000, .inl g0)), (x5, .inl (k 0, 5, .inl f21_1))] := hD
  refine lv_aload_n hx hb dX10_feed_22 rfl (lv_at hl 0 rfl) ?_
  refine va_get (D := D) (ci := 10) (v := .ref x5) (C := RX10) (T := TX10) (N := 38) hx hb hT in_X10 hown hK hP 0 rfl rfl 6 (by decide) (hT _ t1268) (fun _ h9 => h9) rfl dX10_feed_23 ?_
  refine lv_iconst (v := 1) hx hb dX10_feed_26 (by decide) ?_
  refine lv_iload_n hx hb dX10_feed_27 rfl (lv_at hl 2 rfl) ?_
  refine x_ist hx hb hK hP hD hS 2 0 rfl rfl (by unfold vp_in; decide) dX10_feed_28 (fun f28_2 H locs hP9 hD9 hS9 => ?_)
  clear hP hD hS
  have hS := hS9
  have hP := hP9
  have hD := hD9
  clear hP9 hD9 hS9
  replace hP : va_P D vwCl [(x0, .inr (10, [.int 0, .ref x1, .ref x2, .ref x3, .ref x4, .int 0, .ref x5, .int 0, .int 0, .int 0, .int 0, .int 0, .int 0, .int (-1), .ref x6, .ref x7, .ref x8, .ref x9, .ref x10, .ref x11, .int 0, .int 0, .int 0, .ref x12, .ref x13, .ref x14, .int 0, .int 0, .ref x15, .int 0, .ref x16, .int 0, .ref x17, .int 0, .ref x18, .ref x19, .ref x20, .ref x21])), (x4, .inl (k 1, 1000, .inl g0)), (x5, .inl (k 0, 5, .inl f28_2))] H := hP
  replace hD : va_D A [(x0, .inr (10, [.int 0, .ref x1, .ref x2, .ref x3, .ref x4, .int 0, .ref x5, .int 0, .int 0, .int 0, .int 0, .int 0, .int 0, .int (-1), .ref x6, .ref x7, .ref x8, .ref x9, .ref x10, .ref x11, .int 0, .int 0, .int 0, .ref x12, .ref x13, .ref x14, .int 0, .int 0, .ref x15, .int 0, .ref x16, .int 0, .ref x17, .int 0, .ref x18, .ref x19, .ref x20, .ref x21])), (x4, .inl (k 1, 1000, .inl g0)), (x5, .inl (k 0, 5, .inl f28_2))] := hD
  refine lv_aload_n hx hb dX10_feed_29 rfl (lv_at hl 0 rfl) ?_
  refine va_get (D := D) (ci := 10) (v := .ref x5) (C := RX10) (T := TX10) (N := 38) hx hb hT in_X10 hown hK hP 0 rfl rfl 6 (by decide) (hT _ t1268) (fun _ h9 => h9) rfl dX10_feed_30 ?_
  refine lv_iconst (v := 2) hx hb dX10_feed_33 (by decide) ?_
  refine lv_iload_n hx hb dX10_feed_34 rfl (lv_at hl 3 rfl) ?_
  refine x_ist hx hb hK hP hD hS 2 0 rfl rfl (by unfold vp_in; decide) dX10_feed_35 (fun f35_3 H locs hP9 hD9 hS9 => ?_)
  clear hP hD hS
  have hS := hS9
  have hP := hP9
  have hD := hD9
  clear hP9 hD9 hS9
  replace hP : va_P D vwCl [(x0, .inr (10, [.int 0, .ref x1, .ref x2, .ref x3, .ref x4, .int 0, .ref x5, .int 0, .int 0, .int 0, .int 0, .int 0, .int 0, .int (-1), .ref x6, .ref x7, .ref x8, .ref x9, .ref x10, .ref x11, .int 0, .int 0, .int 0, .ref x12, .ref x13, .ref x14, .int 0, .int 0, .ref x15, .int 0, .ref x16, .int 0, .ref x17, .int 0, .ref x18, .ref x19, .ref x20, .ref x21])), (x4, .inl (k 1, 1000, .inl g0)), (x5, .inl (k 0, 5, .inl f35_3))] H := hP
  replace hD : va_D A [(x0, .inr (10, [.int 0, .ref x1, .ref x2, .ref x3, .ref x4, .int 0, .ref x5, .int 0, .int 0, .int 0, .int 0, .int 0, .int 0, .int (-1), .ref x6, .ref x7, .ref x8, .ref x9, .ref x10, .ref x11, .int 0, .int 0, .int 0, .ref x12, .ref x13, .ref x14, .int 0, .int 0, .ref x15, .int 0, .ref x16, .int 0, .ref x17, .int 0, .ref x18, .ref x19, .ref x20, .ref x21])), (x4, .inl (k 1, 1000, .inl g0)), (x5, .inl (k 0, 5, .inl f35_3))] := hD
  refine lv_aload_n hx hb dX10_feed_36 rfl (lv_at hl 0 rfl) ?_
  refine va_get (D := D) (ci := 10) (v := .ref x5) (C := RX10) (T := TX10) (N := 38) hx hb hT in_X10 hown hK hP 0 rfl rfl 6 (by decide) (hT _ t1268) (fun _ h9 => h9) rfl dX10_feed_37 ?_
  refine lv_iconst (v := 3) hx hb dX10_feed_40 (by decide) ?_
  refine lv_iload hx hb dX10_feed_41 (lv_at hl 4 rfl) ?_
  refine x_ist hx hb hK hP hD hS 2 0 rfl rfl (by unfold vp_in; decide) dX10_feed_43 (fun f43_4 H locs hP9 hD9 hS9 => ?_)
  clear hP hD hS
  have hS := hS9
  have hP := hP9
  have hD := hD9
  clear hP9 hD9 hS9
  replace hP : va_P D vwCl [(x0, .inr (10, [.int 0, .ref x1, .ref x2, .ref x3, .ref x4, .int 0, .ref x5, .int 0, .int 0, .int 0, .int 0, .int 0, .int 0, .int (-1), .ref x6, .ref x7, .ref x8, .ref x9, .ref x10, .ref x11, .int 0, .int 0, .int 0, .ref x12, .ref x13, .ref x14, .int 0, .int 0, .ref x15, .int 0, .ref x16, .int 0, .ref x17, .int 0, .ref x18, .ref x19, .ref x20, .ref x21])), (x4, .inl (k 1, 1000, .inl g0)), (x5, .inl (k 0, 5, .inl f43_4))] H := hP
  replace hD : va_D A [(x0, .inr (10, [.int 0, .ref x1, .ref x2, .ref x3, .ref x4, .int 0, .ref x5, .int 0, .int 0, .int 0, .int 0, .int 0, .int 0, .int (-1), .ref x6, .ref x7, .ref x8, .ref x9, .ref x10, .ref x11, .int 0, .int 0, .int 0, .ref x12, .ref x13, .ref x14, .int 0, .int 0, .ref x15, .int 0, .ref x16, .int 0, .ref x17, .int 0, .ref x18, .ref x19, .ref x20, .ref x21])), (x4, .inl (k 1, 1000, .inl g0)), (x5, .inl (k 0, 5, .inl f43_4))] := hD
  refine lv_aload_n hx hb dX10_feed_44 rfl (lv_at hl 0 rfl) ?_
  refine va_get (D := D) (ci := 10) (v := .ref x5) (C := RX10) (T := TX10) (N := 38) hx hb hT in_X10 hown hK hP 0 rfl rfl 6 (by decide) (hT _ t1268) (fun _ h9 => h9) rfl dX10_feed_45 ?_
  refine lv_iconst (v := 4) hx hb dX10_feed_48 (by decide) ?_
  refine lv_iload hx hb dX10_feed_49 (lv_at hl 5 rfl) ?_
  refine x_ist hx hb hK hP hD hS 2 0 rfl rfl (by unfold vp_in; decide) dX10_feed_51 (fun f51_5 H locs hP9 hD9 hS9 => ?_)
  clear hP hD hS
  have hS := hS9
  have hP := hP9
  have hD := hD9
  clear hP9 hD9 hS9
  replace hP : va_P D vwCl [(x0, .inr (10, [.int 0, .ref x1, .ref x2, .ref x3, .ref x4, .int 0, .ref x5, .int 0, .int 0, .int 0, .int 0, .int 0, .int 0, .int (-1), .ref x6, .ref x7, .ref x8, .ref x9, .ref x10, .ref x11, .int 0, .int 0, .int 0, .ref x12, .ref x13, .ref x14, .int 0, .int 0, .ref x15, .int 0, .ref x16, .int 0, .ref x17, .int 0, .ref x18, .ref x19, .ref x20, .ref x21])), (x4, .inl (k 1, 1000, .inl g0)), (x5, .inl (k 0, 5, .inl f51_5))] H := hP
  replace hD : va_D A [(x0, .inr (10, [.int 0, .ref x1, .ref x2, .ref x3, .ref x4, .int 0, .ref x5, .int 0, .int 0, .int 0, .int 0, .int 0, .int 0, .int (-1), .ref x6, .ref x7, .ref x8, .ref x9, .ref x10, .ref x11, .int 0, .int 0, .int 0, .ref x12, .ref x13, .ref x14, .int 0, .int 0, .ref x15, .int 0, .ref x16, .int 0, .ref x17, .int 0, .ref x18, .ref x19, .ref x20, .ref x21])), (x4, .inl (k 1, 1000, .inl g0)), (x5, .inl (k 0, 5, .inl f51_5))] := hD
  refine lv_iconst (v := 0) hx hb dX10_feed_52 (by decide) ?_
  refine lv_istore (lv' := [(6, .int 0), (0, .ref x0), (1, .int p0), (2, .int p1), (3, .int p2), (4, .int p3), (5, .int p4)]) hx hb dX10_feed_53 hl (by decide) rfl (fun ls hl => ?_)
  refine lv_iload hx hb dX10_feed_55 (lv_at hl 0 rfl) ?_
  refine lv_bipush (v := 20) hx hb dX10_feed_57 (by decide) ?_
  refine lv_icmp_ge (tgt := 101) hx hb dX10_feed_59 (by decide) (fun c_2 => ?_) (fun c_2 => ?_)
  · first | exact absurd c_2 (by decide) | exact absurd (by decide) c_2
  refine lv_aload_n hx hb dX10_feed_62 rfl (lv_at hl 1 rfl) ?_
  refine va_get (D := D) (ci := 10) (v := .ref x4) (C := RX10) (T := TX10) (N := 38) hx hb hT in_X10 hown hK hP 0 rfl rfl 4 (by decide) (hT _ t1266) (fun _ h9 => h9) rfl dX10_feed_63 ?_
  refine lv_aload_n hx hb dX10_feed_66 rfl (lv_at hl 1 rfl) ?_
  refine va_get (D := D) (ci := 10) (v := .int 0) (C := RX10) (T := TX10) (N := 38) hx hb hT in_X10 hown hK hP 0 rfl rfl 5 (by decide) (hT _ t1267) (fun _ h9 => h9) rfl dX10_feed_67 ?_
  refine lv_iload hx hb dX10_feed_70 (lv_at hl 0 rfl) ?_
  refine lv_iadd hx hb dX10_feed_72 ?_
  refine k_top (y := 0) (by decide) ?_
  refine lv_aload_n hx hb dX10_feed_73 rfl (lv_at hl 1 rfl) ?_
  refine va_get (D := D) (ci := 10) (v := .ref x5) (C := RX10) (T := TX10) (N := 38) hx hb hT in_X10 hown hK hP 0 rfl rfl 6 (by decide) (hT _ t1268) (fun _ h9 => h9) rfl dX10_feed_74 ?_
  refine lv_iload hx hb dX10_feed_77 (lv_at hl 0 rfl) ?_
  refine lv_iconst (v := 4) hx hb dX10_feed_79 (by decide) ?_
  refine lv_idiv hx hb dX10_feed_80 (by decide) ?_
  refine k_top (y := 0) (by decide) ?_
  refine va_iald hx hb hK hP 2 0 rfl rfl (by unfold vp_in; decide) dX10_feed_81 ?_
  refine lv_topi (fun z81_6 ez81_6 => ?_)
  clear ez81_6
  refine lv_bipush (v := 24) hx hb dX10_feed_82 (by decide) ?_
  refine lv_bipush (v := 8) hx hb dX10_feed_84 (by decide) ?_
  refine lv_iload hx hb dX10_feed_86 (lv_at hl 0 rfl) ?_
  refine lv_iconst (v := 4) hx hb dX10_feed_88 (by decide) ?_
  refine lv_irem hx hb dX10_feed_89 (by decide) ?_
  refine k_top (y := 0) (by decide) ?_
  refine lv_imul hx hb dX10_feed_90 ?_
  refine k_top (y := 0) (by decide) ?_
  refine lv_isub hx hb dX10_feed_91 ?_
  refine k_top (y := 24) (by decide) ?_
  refine lv_ishr hx hb dX10_feed_92 ?_
  refine lv_i2b (v := ((z81_6 >>> (24 &&& 31)).toInt8.toInt32)) hx hb dX10_feed_93 rfl ?_
  refine x_bst hx hb hK hP hD hS 1 1 rfl rfl (by unfold vp_in; decide) dX10_feed_94 (fun f94_7 H locs hP9 hD9 hS9 => ?_)
  clear hP hD hS
  have hS := hS9
  have hP := hP9
  have hD := hD9
  clear hP9 hD9 hS9
  replace hP : va_P D vwCl [(x0, .inr (10, [.int 0, .ref x1, .ref x2, .ref x3, .ref x4, .int 0, .ref x5, .int 0, .int 0, .int 0, .int 0, .int 0, .int 0, .int (-1), .ref x6, .ref x7, .ref x8, .ref x9, .ref x10, .ref x11, .int 0, .int 0, .int 0, .ref x12, .ref x13, .ref x14, .int 0, .int 0, .ref x15, .int 0, .ref x16, .int 0, .ref x17, .int 0, .ref x18, .ref x19, .ref x20, .ref x21])), (x4, .inl (k 1, 1000, .inl f94_7)), (x5, .inl (k 0, 5, .inl f51_5))] H := hP
  replace hD : va_D A [(x0, .inr (10, [.int 0, .ref x1, .ref x2, .ref x3, .ref x4, .int 0, .ref x5, .int 0, .int 0, .int 0, .int 0, .int 0, .int 0, .int (-1), .ref x6, .ref x7, .ref x8, .ref x9, .ref x10, .ref x11, .int 0, .int 0, .int 0, .ref x12, .ref x13, .ref x14, .int 0, .int 0, .ref x15, .int 0, .ref x16, .int 0, .ref x17, .int 0, .ref x18, .ref x19, .ref x20, .ref x21])), (x4, .inl (k 1, 1000, .inl f94_7)), (x5, .inl (k 0, 5, .inl f51_5))] := hD
  refine lv_iinc (v := 1) (lv' := [(6, .int 1), (0, .ref x0), (1, .int p0), (2, .int p1), (3, .int p2), (4, .int p3), (5, .int p4)]) hx hb dX10_feed_95 hl (k := 0) rfl (by decide) (by decide) rfl (fun ls hl => ?_)
  refine lv_goto (tgt := 55) hx hb dX10_feed_98 (by decide) ?_
  refine lv_iload hx hb dX10_feed_55 (lv_at hl 0 rfl) ?_
  refine lv_bipush (v := 20) hx hb dX10_feed_57 (by decide) ?_
  refine lv_icmp_ge (tgt := 101) hx hb dX10_feed_59 (by decide) (fun c_3 => ?_) (fun c_3 => ?_)
  · first | exact absurd c_3 (by decide) | exact absurd (by decide) c_3
  refine lv_aload_n hx hb dX10_feed_62 rfl (lv_at hl 1 rfl) ?_
  refine va_get (D := D) (ci := 10) (v := .ref x4) (C := RX10) (T := TX10) (N := 38) hx hb hT in_X10 hown hK hP 0 rfl rfl 4 (by decide) (hT _ t1266) (fun _ h9 => h9) rfl dX10_feed_63 ?_
  refine lv_aload_n hx hb dX10_feed_66 rfl (lv_at hl 1 rfl) ?_
  refine va_get (D := D) (ci := 10) (v := .int 0) (C := RX10) (T := TX10) (N := 38) hx hb hT in_X10 hown hK hP 0 rfl rfl 5 (by decide) (hT _ t1267) (fun _ h9 => h9) rfl dX10_feed_67 ?_
  refine lv_iload hx hb dX10_feed_70 (lv_at hl 0 rfl) ?_
  refine lv_iadd hx hb dX10_feed_72 ?_
  refine k_top (y := 1) (by decide) ?_
  refine lv_aload_n hx hb dX10_feed_73 rfl (lv_at hl 1 rfl) ?_
  refine va_get (D := D) (ci := 10) (v := .ref x5) (C := RX10) (T := TX10) (N := 38) hx hb hT in_X10 hown hK hP 0 rfl rfl 6 (by decide) (hT _ t1268) (fun _ h9 => h9) rfl dX10_feed_74 ?_
  refine lv_iload hx hb dX10_feed_77 (lv_at hl 0 rfl) ?_
  refine lv_iconst (v := 4) hx hb dX10_feed_79 (by decide) ?_
  refine lv_idiv hx hb dX10_feed_80 (by decide) ?_
  refine k_top (y := 0) (by decide) ?_
  refine va_iald hx hb hK hP 2 0 rfl rfl (by unfold vp_in; decide) dX10_feed_81 ?_
  refine lv_topi (fun z81_8 ez81_8 => ?_)
  clear ez81_8
  refine lv_bipush (v := 24) hx hb dX10_feed_82 (by decide) ?_
  refine lv_bipush (v := 8) hx hb dX10_feed_84 (by decide) ?_
  refine lv_iload hx hb dX10_feed_86 (lv_at hl 0 rfl) ?_
  refine lv_iconst (v := 4) hx hb dX10_feed_88 (by decide) ?_
  refine lv_irem hx hb dX10_feed_89 (by decide) ?_
  refine k_top (y := 1) (by decide) ?_
  refine lv_imul hx hb dX10_feed_90 ?_
  refine k_top (y := 8) (by decide) ?_
  refine lv_isub hx hb dX10_feed_91 ?_
  refine k_top (y := 16) (by decide) ?_
  refine lv_ishr hx hb dX10_feed_92 ?_
  refine lv_i2b (v := ((z81_8 >>> (16 &&& 31)).toInt8.toInt32)) hx hb dX10_feed_93 rfl ?_
  refine x_bst hx hb hK hP hD hS 1 1 rfl rfl (by unfold vp_in; decide) dX10_feed_94 (fun f94_9 H locs hP9 hD9 hS9 => ?_)
  clear hP hD hS
  have hS := hS9
  have hP := hP9
  have hD := hD9
  clear hP9 hD9 hS9
  replace hP : va_P D vwCl [(x0, .inr (10, [.int 0, .ref x1, .ref x2, .ref x3, .ref x4, .int 0, .ref x5, .int 0, .int 0, .int 0, .int 0, .int 0, .int 0, .int (-1), .ref x6, .ref x7, .ref x8, .ref x9, .ref x10, .ref x11, .int 0, .int 0, .int 0, .ref x12, .ref x13, .ref x14, .int 0, .int 0, .ref x15, .int 0, .ref x16, .int 0, .ref x17, .int 0, .ref x18, .ref x19, .ref x20, .ref x21])), (x4, .inl (k 1, 1000, .inl f94_9)), (x5, .inl (k 0, 5, .inl f51_5))] H := hP
  replace hD : va_D A [(x0, .inr (10, [.int 0, .ref x1, .ref x2, .ref x3, .ref x4, .int 0, .ref x5, .int 0, .int 0, .int 0, .int 0, .int 0, .int 0, .int (-1), .ref x6, .ref x7, .ref x8, .ref x9, .ref x10, .ref x11, .int 0, .int 0, .int 0, .ref x12, .ref x13, .ref x14, .int 0, .int 0, .ref x15, .int 0, .ref x16, .int 0, .ref x17, .int 0, .ref x18, .ref x19, .ref x20, .ref x21])), (x4, .inl (k 1, 1000, .inl f94_9)), (x5, .inl (k 0, 5, .inl f51_5))] := hD
  refine lv_iinc (v := 2) (lv' := [(6, .int 2), (0, .ref x0), (1, .int p0), (2, .int p1), (3, .int p2), (4, .int p3), (5, .int p4)]) hx hb dX10_feed_95 hl (k := 0) rfl (by decide) (by decide) rfl (fun ls hl => ?_)
  refine lv_goto (tgt := 55) hx hb dX10_feed_98 (by decide) ?_
  refine lv_iload hx hb dX10_feed_55 (lv_at hl 0 rfl) ?_
  refine lv_bipush (v := 20) hx hb dX10_feed_57 (by decide) ?_
  refine lv_icmp_ge (tgt := 101) hx hb dX10_feed_59 (by decide) (fun c_4 => ?_) (fun c_4 => ?_)
  · first | exact absurd c_4 (by decide) | exact absurd (by decide) c_4
  refine lv_aload_n hx hb dX10_feed_62 rfl (lv_at hl 1 rfl) ?_
  refine va_get (D := D) (ci := 10) (v := .ref x4) (C := RX10) (T := TX10) (N := 38) hx hb hT in_X10 hown hK hP 0 rfl rfl 4 (by decide) (hT _ t1266) (fun _ h9 => h9) rfl dX10_feed_63 ?_
  refine lv_aload_n hx hb dX10_feed_66 rfl (lv_at hl 1 rfl) ?_
  refine va_get (D := D) (ci := 10) (v := .int 0) (C := RX10) (T := TX10) (N := 38) hx hb hT in_X10 hown hK hP 0 rfl rfl 5 (by decide) (hT _ t1267) (fun _ h9 => h9) rfl dX10_feed_67 ?_
  refine lv_iload hx hb dX10_feed_70 (lv_at hl 0 rfl) ?_
  refine lv_iadd hx hb dX10_feed_72 ?_
  refine k_top (y := 2) (by decide) ?_
  refine lv_aload_n hx hb dX10_feed_73 rfl (lv_at hl 1 rfl) ?_
  refine va_get (D := D) (ci := 10) (v := .ref x5) (C := RX10) (T := TX10) (N := 38) hx hb hT in_X10 hown hK hP 0 rfl rfl 6 (by decide) (hT _ t1268) (fun _ h9 => h9) rfl dX10_feed_74 ?_
  refine lv_iload hx hb dX10_feed_77 (lv_at hl 0 rfl) ?_
  refine lv_iconst (v := 4) hx hb dX10_feed_79 (by decide) ?_
  refine lv_idiv hx hb dX10_feed_80 (by decide) ?_
  refine k_top (y := 0) (by decide) ?_
  refine va_iald hx hb hK hP 2 0 rfl rfl (by unfold vp_in; decide) dX10_feed_81 ?_
  refine lv_topi (fun z81_10 ez81_10 => ?_)
  clear ez81_10
  refine lv_bipush (v := 24) hx hb dX10_feed_82 (by decide) ?_
  refine lv_bipush (v := 8) hx hb dX10_feed_84 (by decide) ?_
  refine lv_iload hx hb dX10_feed_86 (lv_at hl 0 rfl) ?_
  refine lv_iconst (v := 4) hx hb dX10_feed_88 (by decide) ?_
  refine lv_irem hx hb dX10_feed_89 (by decide) ?_
  refine k_top (y := 2) (by decide) ?_
  refine lv_imul hx hb dX10_feed_90 ?_
  refine k_top (y := 16) (by decide) ?_
  refine lv_isub hx hb dX10_feed_91 ?_
  refine k_top (y := 8) (by decide) ?_
  refine lv_ishr hx hb dX10_feed_92 ?_
  refine lv_i2b (v := ((z81_10 >>> (8 &&& 31)).toInt8.toInt32)) hx hb dX10_feed_93 rfl ?_
  refine x_bst hx hb hK hP hD hS 1 1 rfl rfl (by unfold vp_in; decide) dX10_feed_94 (fun f94_11 H locs hP9 hD9 hS9 => ?_)
  clear hP hD hS
  have hS := hS9
  have hP := hP9
  have hD := hD9
  clear hP9 hD9 hS9
  replace hP : va_P D vwCl [(x0, .inr (10, [.int 0, .ref x1, .ref x2, .ref x3, .ref x4, .int 0, .ref x5, .int 0, .int 0, .int 0, .int 0, .int 0, .int 0, .int (-1), .ref x6, .ref x7, .ref x8, .ref x9, .ref x10, .ref x11, .int 0, .int 0, .int 0, .ref x12, .ref x13, .ref x14, .int 0, .int 0, .ref x15, .int 0, .ref x16, .int 0, .ref x17, .int 0, .ref x18, .ref x19, .ref x20, .ref x21])), (x4, .inl (k 1, 1000, .inl f94_11)), (x5, .inl (k 0, 5, .inl f51_5))] H := hP
  replace hD : va_D A [(x0, .inr (10, [.int 0, .ref x1, .ref x2, .ref x3, .ref x4, .int 0, .ref x5, .int 0, .int 0, .int 0, .int 0, .int 0, .int 0, .int (-1), .ref x6, .ref x7, .ref x8, .ref x9, .ref x10, .ref x11, .int 0, .int 0, .int 0, .ref x12, .ref x13, .ref x14, .int 0, .int 0, .ref x15, .int 0, .ref x16, .int 0, .ref x17, .int 0, .ref x18, .ref x19, .ref x20, .ref x21])), (x4, .inl (k 1, 1000, .inl f94_11)), (x5, .inl (k 0, 5, .inl f51_5))] := hD
  refine lv_iinc (v := 3) (lv' := [(6, .int 3), (0, .ref x0), (1, .int p0), (2, .int p1), (3, .int p2), (4, .int p3), (5, .int p4)]) hx hb dX10_feed_95 hl (k := 0) rfl (by decide) (by decide) rfl (fun ls hl => ?_)
  refine lv_goto (tgt := 55) hx hb dX10_feed_98 (by decide) ?_
  refine lv_iload hx hb dX10_feed_55 (lv_at hl 0 rfl) ?_
  refine lv_bipush (v := 20) hx hb dX10_feed_57 (by decide) ?_
  refine lv_icmp_ge (tgt := 101) hx hb dX10_feed_59 (by decide) (fun c_5 => ?_) (fun c_5 => ?_)
  · first | exact absurd c_5 (by decide) | exact absurd (by decide) c_5
  refine lv_aload_n hx hb dX10_feed_62 rfl (lv_at hl 1 rfl) ?_
  refine va_get (D := D) (ci := 10) (v := .ref x4) (C := RX10) (T := TX10) (N := 38) hx hb hT in_X10 hown hK hP 0 rfl rfl 4 (by decide) (hT _ t1266) (fun _ h9 => h9) rfl dX10_feed_63 ?_
  refine lv_aload_n hx hb dX10_feed_66 rfl (lv_at hl 1 rfl) ?_
  refine va_get (D := D) (ci := 10) (v := .int 0) (C := RX10) (T := TX10) (N := 38) hx hb hT in_X10 hown hK hP 0 rfl rfl 5 (by decide) (hT _ t1267) (fun _ h9 => h9) rfl dX10_feed_67 ?_
  refine lv_iload hx hb dX10_feed_70 (lv_at hl 0 rfl) ?_
  refine lv_iadd hx hb dX10_feed_72 ?_
  refine k_top (y := 3) (by decide) ?_
  refine lv_aload_n hx hb dX10_feed_73 rfl (lv_at hl 1 rfl) ?_
  refine va_get (D := D) (ci := 10) (v := .ref x5) (C := RX10) (T := TX10) (N := 38) hx hb hT in_X10 hown hK hP 0 rfl rfl 6 (by decide) (hT _ t1268) (fun _ h9 => h9) rfl dX10_feed_74 ?_
  refine lv_iload hx hb dX10_feed_77 (lv_at hl 0 rfl) ?_
  refine lv_iconst (v := 4) hx hb dX10_feed_79 (by decide) ?_
  refine lv_idiv hx hb dX10_feed_80 (by decide) ?_
  refine k_top (y := 0) (by decide) ?_
  refine va_iald hx hb hK hP 2 0 rfl rfl (by unfold vp_in; decide) dX10_feed_81 ?_
  refine lv_topi (fun z81_12 ez81_12 => ?_)
  clear ez81_12
  refine lv_bipush (v := 24) hx hb dX10_feed_82 (by decide) ?_
  refine lv_bipush (v := 8) hx hb dX10_feed_84 (by decide) ?_
  refine lv_iload hx hb dX10_feed_86 (lv_at hl 0 rfl) ?_
  refine lv_iconst (v := 4) hx hb dX10_feed_88 (by decide) ?_
  refine lv_irem hx hb dX10_feed_89 (by decide) ?_
  refine k_top (y := 3) (by decide) ?_
  refine lv_imul hx hb dX10_feed_90 ?_
  refine k_top (y := 24) (by decide) ?_
  refine lv_isub hx hb dX10_feed_91 ?_
  refine k_top (y := 0) (by decide) ?_
  refine lv_ishr hx hb dX10_feed_92 ?_
  refine lv_i2b (v := ((z81_12 >>> (0 &&& 31)).toInt8.toInt32)) hx hb dX10_feed_93 rfl ?_
  refine x_bst hx hb hK hP hD hS 1 1 rfl rfl (by unfold vp_in; decide) dX10_feed_94 (fun f94_13 H locs hP9 hD9 hS9 => ?_)
  clear hP hD hS
  have hS := hS9
  have hP := hP9
  have hD := hD9
  clear hP9 hD9 hS9
  replace hP : va_P D vwCl [(x0, .inr (10, [.int 0, .ref x1, .ref x2, .ref x3, .ref x4, .int 0, .ref x5, .int 0, .int 0, .int 0, .int 0, .int 0, .int 0, .int (-1), .ref x6, .ref x7, .ref x8, .ref x9, .ref x10, .ref x11, .int 0, .int 0, .int 0, .ref x12, .ref x13, .ref x14, .int 0, .int 0, .ref x15, .int 0, .ref x16, .int 0, .ref x17, .int 0, .ref x18, .ref x19, .ref x20, .ref x21])), (x4, .inl (k 1, 1000, .inl f94_13)), (x5, .inl (k 0, 5, .inl f51_5))] H := hP
  replace hD : va_D A [(x0, .inr (10, [.int 0, .ref x1, .ref x2, .ref x3, .ref x4, .int 0, .ref x5, .int 0, .int 0, .int 0, .int 0, .int 0, .int 0, .int (-1), .ref x6, .ref x7, .ref x8, .ref x9, .ref x10, .ref x11, .int 0, .int 0, .int 0, .ref x12, .ref x13, .ref x14, .int 0, .int 0, .ref x15, .int 0, .ref x16, .int 0, .ref x17, .int 0, .ref x18, .ref x19, .ref x20, .ref x21])), (x4, .inl (k 1, 1000, .inl f94_13)), (x5, .inl (k 0, 5, .inl f51_5))] := hD
  refine lv_iinc (v := 4) (lv' := [(6, .int 4), (0, .ref x0), (1, .int p0), (2, .int p1), (3, .int p2), (4, .int p3), (5, .int p4)]) hx hb dX10_feed_95 hl (k := 0) rfl (by decide) (by decide) rfl (fun ls hl => ?_)
  refine lv_goto (tgt := 55) hx hb dX10_feed_98 (by decide) ?_
  refine lv_iload hx hb dX10_feed_55 (lv_at hl 0 rfl) ?_
  refine lv_bipush (v := 20) hx hb dX10_feed_57 (by decide) ?_
  refine lv_icmp_ge (tgt := 101) hx hb dX10_feed_59 (by decide) (fun c_6 => ?_) (fun c_6 => ?_)
  · first | exact absurd c_6 (by decide) | exact absurd (by decide) c_6
  refine lv_aload_n hx hb dX10_feed_62 rfl (lv_at hl 1 rfl) ?_
  refine va_get (D := D) (ci := 10) (v := .ref x4) (C := RX10) (T := TX10) (N := 38) hx hb hT in_X10 hown hK hP 0 rfl rfl 4 (by decide) (hT _ t1266) (fun _ h9 => h9) rfl dX10_feed_63 ?_
  refine lv_aload_n hx hb dX10_feed_66 rfl (lv_at hl 1 rfl) ?_
  refine va_get (D := D) (ci := 10) (v := .int 0) (C := RX10) (T := TX10) (N := 38) hx hb hT in_X10 hown hK hP 0 rfl rfl 5 (by decide) (hT _ t1267) (fun _ h9 => h9) rfl dX10_feed_67 ?_
  refine lv_iload hx hb dX10_feed_70 (lv_at hl 0 rfl) ?_
  refine lv_iadd hx hb dX10_feed_72 ?_
  refine k_top (y := 4) (by decide) ?_
  refine lv_aload_n hx hb dX10_feed_73 rfl (lv_at hl 1 rfl) ?_
  refine va_get (D := D) (ci := 10) (v := .ref x5) (C := RX10) (T := TX10) (N := 38) hx hb hT in_X10 hown hK hP 0 rfl rfl 6 (by decide) (hT _ t1268) (fun _ h9 => h9) rfl dX10_feed_74 ?_
  refine lv_iload hx hb dX10_feed_77 (lv_at hl 0 rfl) ?_
  refine lv_iconst (v := 4) hx hb dX10_feed_79 (by decide) ?_
  refine lv_idiv hx hb dX10_feed_80 (by decide) ?_
  refine k_top (y := 1) (by decide) ?_
  refine va_iald hx hb hK hP 2 0 rfl rfl (by unfold vp_in; decide) dX10_feed_81 ?_
  refine lv_topi (fun z81_14 ez81_14 => ?_)
  clear ez81_14
  refine lv_bipush (v := 24) hx hb dX10_feed_82 (by decide) ?_
  refine lv_bipush (v := 8) hx hb dX10_feed_84 (by decide) ?_
  refine lv_iload hx hb dX10_feed_86 (lv_at hl 0 rfl) ?_
  refine lv_iconst (v := 4) hx hb dX10_feed_88 (by decide) ?_
  refine lv_irem hx hb dX10_feed_89 (by decide) ?_
  refine k_top (y := 0) (by decide) ?_
  refine lv_imul hx hb dX10_feed_90 ?_
  refine k_top (y := 0) (by decide) ?_
  refine lv_isub hx hb dX10_feed_91 ?_
  refine k_top (y := 24) (by decide) ?_
  refine lv_ishr hx hb dX10_feed_92 ?_
  refine lv_i2b (v := ((z81_14 >>> (24 &&& 31)).toInt8.toInt32)) hx hb dX10_feed_93 rfl ?_
  refine x_bst hx hb hK hP hD hS 1 1 rfl rfl (by unfold vp_in; decide) dX10_feed_94 (fun f94_15 H locs hP9 hD9 hS9 => ?_)
  clear hP hD hS
  have hS := hS9
  have hP := hP9
  have hD := hD9
  clear hP9 hD9 hS9
  replace hP : va_P D vwCl [(x0, .inr (10, [.int 0, .ref x1, .ref x2, .ref x3, .ref x4, .int 0, .ref x5, .int 0, .int 0, .int 0, .int 0, .int 0, .int 0, .int (-1), .ref x6, .ref x7, .ref x8, .ref x9, .ref x10, .ref x11, .int 0, .int 0, .int 0, .ref x12, .ref x13, .ref x14, .int 0, .int 0, .ref x15, .int 0, .ref x16, .int 0, .ref x17, .int 0, .ref x18, .ref x19, .ref x20, .ref x21])), (x4, .inl (k 1, 1000, .inl f94_15)), (x5, .inl (k 0, 5, .inl f51_5))] H := hP
  replace hD : va_D A [(x0, .inr (10, [.int 0, .ref x1, .ref x2, .ref x3, .ref x4, .int 0, .ref x5, .int 0, .int 0, .int 0, .int 0, .int 0, .int 0, .int (-1), .ref x6, .ref x7, .ref x8, .ref x9, .ref x10, .ref x11, .int 0, .int 0, .int 0, .ref x12, .ref x13, .ref x14, .int 0, .int 0, .ref x15, .int 0, .ref x16, .int 0, .ref x17, .int 0, .ref x18, .ref x19, .ref x20, .ref x21])), (x4, .inl (k 1, 1000, .inl f94_15)), (x5, .inl (k 0, 5, .inl f51_5))] := hD
  refine lv_iinc (v := 5) (lv' := [(6, .int 5), (0, .ref x0), (1, .int p0), (2, .int p1), (3, .int p2), (4, .int p3), (5, .int p4)]) hx hb dX10_feed_95 hl (k := 0) rfl (by decide) (by decide) rfl (fun ls hl => ?_)
  refine lv_goto (tgt := 55) hx hb dX10_feed_98 (by decide) ?_
  refine lv_iload hx hb dX10_feed_55 (lv_at hl 0 rfl) ?_
  refine lv_bipush (v := 20) hx hb dX10_feed_57 (by decide) ?_
  refine lv_icmp_ge (tgt := 101) hx hb dX10_feed_59 (by decide) (fun c_7 => ?_) (fun c_7 => ?_)
  · first | exact absurd c_7 (by decide) | exact absurd (by decide) c_7
  refine lv_aload_n hx hb dX10_feed_62 rfl (lv_at hl 1 rfl) ?_
  refine va_get (D := D) (ci := 10) (v := .ref x4) (C := RX10) (T := TX10) (N := 38) hx hb hT in_X10 hown hK hP 0 rfl rfl 4 (by decide) (hT _ t1266) (fun _ h9 => h9) rfl dX10_feed_63 ?_
  refine lv_aload_n hx hb dX10_feed_66 rfl (lv_at hl 1 rfl) ?_
  refine va_get (D := D) (ci := 10) (v := .int 0) (C := RX10) (T := TX10) (N := 38) hx hb hT in_X10 hown hK hP 0 rfl rfl 5 (by decide) (hT _ t1267) (fun _ h9 => h9) rfl dX10_feed_67 ?_
  refine lv_iload hx hb dX10_feed_70 (lv_at hl 0 rfl) ?_
  refine lv_iadd hx hb dX10_feed_72 ?_
  refine k_top (y := 5) (by decide) ?_
  refine lv_aload_n hx hb dX10_feed_73 rfl (lv_at hl 1 rfl) ?_
  refine va_get (D := D) (ci := 10) (v := .ref x5) (C := RX10) (T := TX10) (N := 38) hx hb hT in_X10 hown hK hP 0 rfl rfl 6 (by decide) (hT _ t1268) (fun _ h9 => h9) rfl dX10_feed_74 ?_
  refine lv_iload hx hb dX10_feed_77 (lv_at hl 0 rfl) ?_
  refine lv_iconst (v := 4) hx hb dX10_feed_79 (by decide) ?_
  refine lv_idiv hx hb dX10_feed_80 (by decide) ?_
  refine k_top (y := 1) (by decide) ?_
  refine va_iald hx hb hK hP 2 0 rfl rfl (by unfold vp_in; decide) dX10_feed_81 ?_
  refine lv_topi (fun z81_16 ez81_16 => ?_)
  clear ez81_16
  refine lv_bipush (v := 24) hx hb dX10_feed_82 (by decide) ?_
  refine lv_bipush (v := 8) hx hb dX10_feed_84 (by decide) ?_
  refine lv_iload hx hb dX10_feed_86 (lv_at hl 0 rfl) ?_
  refine lv_iconst (v := 4) hx hb dX10_feed_88 (by decide) ?_
  refine lv_irem hx hb dX10_feed_89 (by decide) ?_
  refine k_top (y := 1) (by decide) ?_
  refine lv_imul hx hb dX10_feed_90 ?_
  refine k_top (y := 8) (by decide) ?_
  refine lv_isub hx hb dX10_feed_91 ?_
  refine k_top (y := 16) (by decide) ?_
  refine lv_ishr hx hb dX10_feed_92 ?_
  refine lv_i2b (v := ((z81_16 >>> (16 &&& 31)).toInt8.toInt32)) hx hb dX10_feed_93 rfl ?_
  refine x_bst hx hb hK hP hD hS 1 1 rfl rfl (by unfold vp_in; decide) dX10_feed_94 (fun f94_17 H locs hP9 hD9 hS9 => ?_)
  clear hP hD hS
  have hS := hS9
  have hP := hP9
  have hD := hD9
  clear hP9 hD9 hS9
  replace hP : va_P D vwCl [(x0, .inr (10, [.int 0, .ref x1, .ref x2, .ref x3, .ref x4, .int 0, .ref x5, .int 0, .int 0, .int 0, .int 0, .int 0, .int 0, .int (-1), .ref x6, .ref x7, .ref x8, .ref x9, .ref x10, .ref x11, .int 0, .int 0, .int 0, .ref x12, .ref x13, .ref x14, .int 0, .int 0, .ref x15, .int 0, .ref x16, .int 0, .ref x17, .int 0, .ref x18, .ref x19, .ref x20, .ref x21])), (x4, .inl (k 1, 1000, .inl f94_17)), (x5, .inl (k 0, 5, .inl f51_5))] H := hP
  replace hD : va_D A [(x0, .inr (10, [.int 0, .ref x1, .ref x2, .ref x3, .ref x4, .int 0, .ref x5, .int 0, .int 0, .int 0, .int 0, .int 0, .int 0, .int (-1), .ref x6, .ref x7, .ref x8, .ref x9, .ref x10, .ref x11, .int 0, .int 0, .int 0, .ref x12, .ref x13, .ref x14, .int 0, .int 0, .ref x15, .int 0, .ref x16, .int 0, .ref x17, .int 0, .ref x18, .ref x19, .ref x20, .ref x21])), (x4, .inl (k 1, 1000, .inl f94_17)), (x5, .inl (k 0, 5, .inl f51_5))] := hD
  refine lv_iinc (v := 6) (lv' := [(6, .int 6), (0, .ref x0), (1, .int p0), (2, .int p1), (3, .int p2), (4, .int p3), (5, .int p4)]) hx hb dX10_feed_95 hl (k := 0) rfl (by decide) (by decide) rfl (fun ls hl => ?_)
  refine lv_goto (tgt := 55) hx hb dX10_feed_98 (by decide) ?_
  refine lv_iload hx hb dX10_feed_55 (lv_at hl 0 rfl) ?_
  refine lv_bipush (v := 20) hx hb dX10_feed_57 (by decide) ?_
  refine lv_icmp_ge (tgt := 101) hx hb dX10_feed_59 (by decide) (fun c_8 => ?_) (fun c_8 => ?_)
  · first | exact absurd c_8 (by decide) | exact absurd (by decide) c_8
  refine lv_aload_n hx hb dX10_feed_62 rfl (lv_at hl 1 rfl) ?_
  refine va_get (D := D) (ci := 10) (v := .ref x4) (C := RX10) (T := TX10) (N := 38) hx hb hT in_X10 hown hK hP 0 rfl rfl 4 (by decide) (hT _ t1266) (fun _ h9 => h9) rfl dX10_feed_63 ?_
  refine lv_aload_n hx hb dX10_feed_66 rfl (lv_at hl 1 rfl) ?_
  refine va_get (D := D) (ci := 10) (v := .int 0) (C := RX10) (T := TX10) (N := 38) hx hb hT in_X10 hown hK hP 0 rfl rfl 5 (by decide) (hT _ t1267) (fun _ h9 => h9) rfl dX10_feed_67 ?_
  refine lv_iload hx hb dX10_feed_70 (lv_at hl 0 rfl) ?_
  refine lv_iadd hx hb dX10_feed_72 ?_
  refine k_top (y := 6) (by decide) ?_
  refine lv_aload_n hx hb dX10_feed_73 rfl (lv_at hl 1 rfl) ?_
  refine va_get (D := D) (ci := 10) (v := .ref x5) (C := RX10) (T := TX10) (N := 38) hx hb hT in_X10 hown hK hP 0 rfl rfl 6 (by decide) (hT _ t1268) (fun _ h9 => h9) rfl dX10_feed_74 ?_
  refine lv_iload hx hb dX10_feed_77 (lv_at hl 0 rfl) ?_
  refine lv_iconst (v := 4) hx hb dX10_feed_79 (by decide) ?_
  refine lv_idiv hx hb dX10_feed_80 (by decide) ?_
  refine k_top (y := 1) (by decide) ?_
  refine va_iald hx hb hK hP 2 0 rfl rfl (by unfold vp_in; decide) dX10_feed_81 ?_
  refine lv_topi (fun z81_18 ez81_18 => ?_)
  clear ez81_18
  refine lv_bipush (v := 24) hx hb dX10_feed_82 (by decide) ?_
  refine lv_bipush (v := 8) hx hb dX10_feed_84 (by decide) ?_
  refine lv_iload hx hb dX10_feed_86 (lv_at hl 0 rfl) ?_
  refine lv_iconst (v := 4) hx hb dX10_feed_88 (by decide) ?_
  refine lv_irem hx hb dX10_feed_89 (by decide) ?_
  refine k_top (y := 2) (by decide) ?_
  refine lv_imul hx hb dX10_feed_90 ?_
  refine k_top (y := 16) (by decide) ?_
  refine lv_isub hx hb dX10_feed_91 ?_
  refine k_top (y := 8) (by decide) ?_
  refine lv_ishr hx hb dX10_feed_92 ?_
  refine lv_i2b (v := ((z81_18 >>> (8 &&& 31)).toInt8.toInt32)) hx hb dX10_feed_93 rfl ?_
  refine x_bst hx hb hK hP hD hS 1 1 rfl rfl (by unfold vp_in; decide) dX10_feed_94 (fun f94_19 H locs hP9 hD9 hS9 => ?_)
  clear hP hD hS
  have hS := hS9
  have hP := hP9
  have hD := hD9
  clear hP9 hD9 hS9
  replace hP : va_P D vwCl [(x0, .inr (10, [.int 0, .ref x1, .ref x2, .ref x3, .ref x4, .int 0, .ref x5, .int 0, .int 0, .int 0, .int 0, .int 0, .int 0, .int (-1), .ref x6, .ref x7, .ref x8, .ref x9, .ref x10, .ref x11, .int 0, .int 0, .int 0, .ref x12, .ref x13, .ref x14, .int 0, .int 0, .ref x15, .int 0, .ref x16, .int 0, .ref x17, .int 0, .ref x18, .ref x19, .ref x20, .ref x21])), (x4, .inl (k 1, 1000, .inl f94_19)), (x5, .inl (k 0, 5, .inl f51_5))] H := hP
  replace hD : va_D A [(x0, .inr (10, [.int 0, .ref x1, .ref x2, .ref x3, .ref x4, .int 0, .ref x5, .int 0, .int 0, .int 0, .int 0, .int 0, .int 0, .int (-1), .ref x6, .ref x7, .ref x8, .ref x9, .ref x10, .ref x11, .int 0, .int 0, .int 0, .ref x12, .ref x13, .ref x14, .int 0, .int 0, .ref x15, .int 0, .ref x16, .int 0, .ref x17, .int 0, .ref x18, .ref x19, .ref x20, .ref x21])), (x4, .inl (k 1, 1000, .inl f94_19)), (x5, .inl (k 0, 5, .inl f51_5))] := hD
  refine lv_iinc (v := 7) (lv' := [(6, .int 7), (0, .ref x0), (1, .int p0), (2, .int p1), (3, .int p2), (4, .int p3), (5, .int p4)]) hx hb dX10_feed_95 hl (k := 0) rfl (by decide) (by decide) rfl (fun ls hl => ?_)
  refine lv_goto (tgt := 55) hx hb dX10_feed_98 (by decide) ?_
  refine lv_iload hx hb dX10_feed_55 (lv_at hl 0 rfl) ?_
  refine lv_bipush (v := 20) hx hb dX10_feed_57 (by decide) ?_
  refine lv_icmp_ge (tgt := 101) hx hb dX10_feed_59 (by decide) (fun c_9 => ?_) (fun c_9 => ?_)
  · first | exact absurd c_9 (by decide) | exact absurd (by decide) c_9
  refine lv_aload_n hx hb dX10_feed_62 rfl (lv_at hl 1 rfl) ?_
  refine va_get (D := D) (ci := 10) (v := .ref x4) (C := RX10) (T := TX10) (N := 38) hx hb hT in_X10 hown hK hP 0 rfl rfl 4 (by decide) (hT _ t1266) (fun _ h9 => h9) rfl dX10_feed_63 ?_
  refine lv_aload_n hx hb dX10_feed_66 rfl (lv_at hl 1 rfl) ?_
  refine va_get (D := D) (ci := 10) (v := .int 0) (C := RX10) (T := TX10) (N := 38) hx hb hT in_X10 hown hK hP 0 rfl rfl 5 (by decide) (hT _ t1267) (fun _ h9 => h9) rfl dX10_feed_67 ?_
  refine lv_iload hx hb dX10_feed_70 (lv_at hl 0 rfl) ?_
  refine lv_iadd hx hb dX10_feed_72 ?_
  refine k_top (y := 7) (by decide) ?_
  refine lv_aload_n hx hb dX10_feed_73 rfl (lv_at hl 1 rfl) ?_
  refine va_get (D := D) (ci := 10) (v := .ref x5) (C := RX10) (T := TX10) (N := 38) hx hb hT in_X10 hown hK hP 0 rfl rfl 6 (by decide) (hT _ t1268) (fun _ h9 => h9) rfl dX10_feed_74 ?_
  refine lv_iload hx hb dX10_feed_77 (lv_at hl 0 rfl) ?_
  refine lv_iconst (v := 4) hx hb dX10_feed_79 (by decide) ?_
  refine lv_idiv hx hb dX10_feed_80 (by decide) ?_
  refine k_top (y := 1) (by decide) ?_
  refine va_iald hx hb hK hP 2 0 rfl rfl (by unfold vp_in; decide) dX10_feed_81 ?_
  refine lv_topi (fun z81_20 ez81_20 => ?_)
  clear ez81_20
  refine lv_bipush (v := 24) hx hb dX10_feed_82 (by decide) ?_
  refine lv_bipush (v := 8) hx hb dX10_feed_84 (by decide) ?_
  refine lv_iload hx hb dX10_feed_86 (lv_at hl 0 rfl) ?_
  refine lv_iconst (v := 4) hx hb dX10_feed_88 (by decide) ?_
  refine lv_irem hx hb dX10_feed_89 (by decide) ?_
  refine k_top (y := 3) (by decide) ?_
  refine lv_imul hx hb dX10_feed_90 ?_
  refine k_top (y := 24) (by decide) ?_
  refine lv_isub hx hb dX10_feed_91 ?_
  refine k_top (y := 0) (by decide) ?_
  refine lv_ishr hx hb dX10_feed_92 ?_
  refine lv_i2b (v := ((z81_20 >>> (0 &&& 31)).toInt8.toInt32)) hx hb dX10_feed_93 rfl ?_
  refine x_bst hx hb hK hP hD hS 1 1 rfl rfl (by unfold vp_in; decide) dX10_feed_94 (fun f94_21 H locs hP9 hD9 hS9 => ?_)
  clear hP hD hS
  have hS := hS9
  have hP := hP9
  have hD := hD9
  clear hP9 hD9 hS9
  replace hP : va_P D vwCl [(x0, .inr (10, [.int 0, .ref x1, .ref x2, .ref x3, .ref x4, .int 0, .ref x5, .int 0, .int 0, .int 0, .int 0, .int 0, .int 0, .int (-1), .ref x6, .ref x7, .ref x8, .ref x9, .ref x10, .ref x11, .int 0, .int 0, .int 0, .ref x12, .ref x13, .ref x14, .int 0, .int 0, .ref x15, .int 0, .ref x16, .int 0, .ref x17, .int 0, .ref x18, .ref x19, .ref x20, .ref x21])), (x4, .inl (k 1, 1000, .inl f94_21)), (x5, .inl (k 0, 5, .inl f51_5))] H := hP
  replace hD : va_D A [(x0, .inr (10, [.int 0, .ref x1, .ref x2, .ref x3, .ref x4, .int 0, .ref x5, .int 0, .int 0, .int 0, .int 0, .int 0, .int 0, .int (-1), .ref x6, .ref x7, .ref x8, .ref x9, .ref x10, .ref x11, .int 0, .int 0, .int 0, .ref x12, .ref x13, .ref x14, .int 0, .int 0, .ref x15, .int 0, .ref x16, .int 0, .ref x17, .int 0, .ref x18, .ref x19, .ref x20, .ref x21])), (x4, .inl (k 1, 1000, .inl f94_21)), (x5, .inl (k 0, 5, .inl f51_5))] := hD
  refine lv_iinc (v := 8) (lv' := [(6, .int 8), (0, .ref x0), (1, .int p0), (2, .int p1), (3, .int p2), (4, .int p3), (5, .int p4)]) hx hb dX10_feed_95 hl (k := 0) rfl (by decide) (by decide) rfl (fun ls hl => ?_)
  refine lv_goto (tgt := 55) hx hb dX10_feed_98 (by decide) ?_
  refine lv_iload hx hb dX10_feed_55 (lv_at hl 0 rfl) ?_
  refine lv_bipush (v := 20) hx hb dX10_feed_57 (by decide) ?_
  refine lv_icmp_ge (tgt := 101) hx hb dX10_feed_59 (by decide) (fun c_10 => ?_) (fun c_10 => ?_)
  · first | exact absurd c_10 (by decide) | exact absurd (by decide) c_10
  refine lv_aload_n hx hb dX10_feed_62 rfl (lv_at hl 1 rfl) ?_
  refine va_get (D := D) (ci := 10) (v := .ref x4) (C := RX10) (T := TX10) (N := 38) hx hb hT in_X10 hown hK hP 0 rfl rfl 4 (by decide) (hT _ t1266) (fun _ h9 => h9) rfl dX10_feed_63 ?_
  refine lv_aload_n hx hb dX10_feed_66 rfl (lv_at hl 1 rfl) ?_
  refine va_get (D := D) (ci := 10) (v := .int 0) (C := RX10) (T := TX10) (N := 38) hx hb hT in_X10 hown hK hP 0 rfl rfl 5 (by decide) (hT _ t1267) (fun _ h9 => h9) rfl dX10_feed_67 ?_
  refine lv_iload hx hb dX10_feed_70 (lv_at hl 0 rfl) ?_
  refine lv_iadd hx hb dX10_feed_72 ?_
  refine k_top (y := 8) (by decide) ?_
  refine lv_aload_n hx hb dX10_feed_73 rfl (lv_at hl 1 rfl) ?_
  refine va_get (D := D) (ci := 10) (v := .ref x5) (C := RX10) (T := TX10) (N := 38) hx hb hT in_X10 hown hK hP 0 rfl rfl 6 (by decide) (hT _ t1268) (fun _ h9 => h9) rfl dX10_feed_74 ?_
  refine lv_iload hx hb dX10_feed_77 (lv_at hl 0 rfl) ?_
  refine lv_iconst (v := 4) hx hb dX10_feed_79 (by decide) ?_
  refine lv_idiv hx hb dX10_feed_80 (by decide) ?_
  refine k_top (y := 2) (by decide) ?_
  refine va_iald hx hb hK hP 2 0 rfl rfl (by unfold vp_in; decide) dX10_feed_81 ?_
  refine lv_topi (fun z81_22 ez81_22 => ?_)
  clear ez81_22
  refine lv_bipush (v := 24) hx hb dX10_feed_82 (by decide) ?_
  refine lv_bipush (v := 8) hx hb dX10_feed_84 (by decide) ?_
  refine lv_iload hx hb dX10_feed_86 (lv_at hl 0 rfl) ?_
  refine lv_iconst (v := 4) hx hb dX10_feed_88 (by decide) ?_
  refine lv_irem hx hb dX10_feed_89 (by decide) ?_
  refine k_top (y := 0) (by decide) ?_
  refine lv_imul hx hb dX10_feed_90 ?_
  refine k_top (y := 0) (by decide) ?_
  refine lv_isub hx hb dX10_feed_91 ?_
  refine k_top (y := 24) (by decide) ?_
  refine lv_ishr hx hb dX10_feed_92 ?_
  refine lv_i2b (v := ((z81_22 >>> (24 &&& 31)).toInt8.toInt32)) hx hb dX10_feed_93 rfl ?_
  refine x_bst hx hb hK hP hD hS 1 1 rfl rfl (by unfold vp_in; decide) dX10_feed_94 (fun f94_23 H locs hP9 hD9 hS9 => ?_)
  clear hP hD hS
  have hS := hS9
  have hP := hP9
  have hD := hD9
  clear hP9 hD9 hS9
  replace hP : va_P D vwCl [(x0, .inr (10, [.int 0, .ref x1, .ref x2, .ref x3, .ref x4, .int 0, .ref x5, .int 0, .int 0, .int 0, .int 0, .int 0, .int 0, .int (-1), .ref x6, .ref x7, .ref x8, .ref x9, .ref x10, .ref x11, .int 0, .int 0, .int 0, .ref x12, .ref x13, .ref x14, .int 0, .int 0, .ref x15, .int 0, .ref x16, .int 0, .ref x17, .int 0, .ref x18, .ref x19, .ref x20, .ref x21])), (x4, .inl (k 1, 1000, .inl f94_23)), (x5, .inl (k 0, 5, .inl f51_5))] H := hP
  replace hD : va_D A [(x0, .inr (10, [.int 0, .ref x1, .ref x2, .ref x3, .ref x4, .int 0, .ref x5, .int 0, .int 0, .int 0, .int 0, .int 0, .int 0, .int (-1), .ref x6, .ref x7, .ref x8, .ref x9, .ref x10, .ref x11, .int 0, .int 0, .int 0, .ref x12, .ref x13, .ref x14, .int 0, .int 0, .ref x15, .int 0, .ref x16, .int 0, .ref x17, .int 0, .ref x18, .ref x19, .ref x20, .ref x21])), (x4, .inl (k 1, 1000, .inl f94_23)), (x5, .inl (k 0, 5, .inl f51_5))] := hD
  refine lv_iinc (v := 9) (lv' := [(6, .int 9), (0, .ref x0), (1, .int p0), (2, .int p1), (3, .int p2), (4, .int p3), (5, .int p4)]) hx hb dX10_feed_95 hl (k := 0) rfl (by decide) (by decide) rfl (fun ls hl => ?_)
  refine lv_goto (tgt := 55) hx hb dX10_feed_98 (by decide) ?_
  refine lv_iload hx hb dX10_feed_55 (lv_at hl 0 rfl) ?_
  refine lv_bipush (v := 20) hx hb dX10_feed_57 (by decide) ?_
  refine lv_icmp_ge (tgt := 101) hx hb dX10_feed_59 (by decide) (fun c_11 => ?_) (fun c_11 => ?_)
  · first | exact absurd c_11 (by decide) | exact absurd (by decide) c_11
  refine lv_aload_n hx hb dX10_feed_62 rfl (lv_at hl 1 rfl) ?_
  refine va_get (D := D) (ci := 10) (v := .ref x4) (C := RX10) (T := TX10) (N := 38) hx hb hT in_X10 hown hK hP 0 rfl rfl 4 (by decide) (hT _ t1266) (fun _ h9 => h9) rfl dX10_feed_63 ?_
  refine lv_aload_n hx hb dX10_feed_66 rfl (lv_at hl 1 rfl) ?_
  refine va_get (D := D) (ci := 10) (v := .int 0) (C := RX10) (T := TX10) (N := 38) hx hb hT in_X10 hown hK hP 0 rfl rfl 5 (by decide) (hT _ t1267) (fun _ h9 => h9) rfl dX10_feed_67 ?_
  refine lv_iload hx hb dX10_feed_70 (lv_at hl 0 rfl) ?_
  refine lv_iadd hx hb dX10_feed_72 ?_
  refine k_top (y := 9) (by decide) ?_
  refine lv_aload_n hx hb dX10_feed_73 rfl (lv_at hl 1 rfl) ?_
  refine va_get (D := D) (ci := 10) (v := .ref x5) (C := RX10) (T := TX10) (N := 38) hx hb hT in_X10 hown hK hP 0 rfl rfl 6 (by decide) (hT _ t1268) (fun _ h9 => h9) rfl dX10_feed_74 ?_
  refine lv_iload hx hb dX10_feed_77 (lv_at hl 0 rfl) ?_
  refine lv_iconst (v := 4) hx hb dX10_feed_79 (by decide) ?_
  refine lv_idiv hx hb dX10_feed_80 (by decide) ?_
  refine k_top (y := 2) (by decide) ?_
  refine va_iald hx hb hK hP 2 0 rfl rfl (by unfold vp_in; decide) dX10_feed_81 ?_
  refine lv_topi (fun z81_24 ez81_24 => ?_)
  clear ez81_24
  refine lv_bipush (v := 24) hx hb dX10_feed_82 (by decide) ?_
  refine lv_bipush (v := 8) hx hb dX10_feed_84 (by decide) ?_
  refine lv_iload hx hb dX10_feed_86 (lv_at hl 0 rfl) ?_
  refine lv_iconst (v := 4) hx hb dX10_feed_88 (by decide) ?_
  refine lv_irem hx hb dX10_feed_89 (by decide) ?_
  refine k_top (y := 1) (by decide) ?_
  refine lv_imul hx hb dX10_feed_90 ?_
  refine k_top (y := 8) (by decide) ?_
  refine lv_isub hx hb dX10_feed_91 ?_
  refine k_top (y := 16) (by decide) ?_
  refine lv_ishr hx hb dX10_feed_92 ?_
  refine lv_i2b (v := ((z81_24 >>> (16 &&& 31)).toInt8.toInt32)) hx hb dX10_feed_93 rfl ?_
  refine x_bst hx hb hK hP hD hS 1 1 rfl rfl (by unfold vp_in; decide) dX10_feed_94 (fun f94_25 H locs hP9 hD9 hS9 => ?_)
  clear hP hD hS
  have hS := hS9
  have hP := hP9
  have hD := hD9
  clear hP9 hD9 hS9
  replace hP : va_P D vwCl [(x0, .inr (10, [.int 0, .ref x1, .ref x2, .ref x3, .ref x4, .int 0, .ref x5, .int 0, .int 0, .int 0, .int 0, .int 0, .int 0, .int (-1), .ref x6, .ref x7, .ref x8, .ref x9, .ref x10, .ref x11, .int 0, .int 0, .int 0, .ref x12, .ref x13, .ref x14, .int 0, .int 0, .ref x15, .int 0, .ref x16, .int 0, .ref x17, .int 0, .ref x18, .ref x19, .ref x20, .ref x21])), (x4, .inl (k 1, 1000, .inl f94_25)), (x5, .inl (k 0, 5, .inl f51_5))] H := hP
  replace hD : va_D A [(x0, .inr (10, [.int 0, .ref x1, .ref x2, .ref x3, .ref x4, .int 0, .ref x5, .int 0, .int 0, .int 0, .int 0, .int 0, .int 0, .int (-1), .ref x6, .ref x7, .ref x8, .ref x9, .ref x10, .ref x11, .int 0, .int 0, .int 0, .ref x12, .ref x13, .ref x14, .int 0, .int 0, .ref x15, .int 0, .ref x16, .int 0, .ref x17, .int 0, .ref x18, .ref x19, .ref x20, .ref x21])), (x4, .inl (k 1, 1000, .inl f94_25)), (x5, .inl (k 0, 5, .inl f51_5))] := hD
  refine lv_iinc (v := 10) (lv' := [(6, .int 10), (0, .ref x0), (1, .int p0), (2, .int p1), (3, .int p2), (4, .int p3), (5, .int p4)]) hx hb dX10_feed_95 hl (k := 0) rfl (by decide) (by decide) rfl (fun ls hl => ?_)
  refine lv_goto (tgt := 55) hx hb dX10_feed_98 (by decide) ?_
  refine lv_iload hx hb dX10_feed_55 (lv_at hl 0 rfl) ?_
  refine lv_bipush (v := 20) hx hb dX10_feed_57 (by decide) ?_
  refine lv_icmp_ge (tgt := 101) hx hb dX10_feed_59 (by decide) (fun c_12 => ?_) (fun c_12 => ?_)
  · first | exact absurd c_12 (by decide) | exact absurd (by decide) c_12
  refine lv_aload_n hx hb dX10_feed_62 rfl (lv_at hl 1 rfl) ?_
  refine va_get (D := D) (ci := 10) (v := .ref x4) (C := RX10) (T := TX10) (N := 38) hx hb hT in_X10 hown hK hP 0 rfl rfl 4 (by decide) (hT _ t1266) (fun _ h9 => h9) rfl dX10_feed_63 ?_
  refine lv_aload_n hx hb dX10_feed_66 rfl (lv_at hl 1 rfl) ?_
  refine va_get (D := D) (ci := 10) (v := .int 0) (C := RX10) (T := TX10) (N := 38) hx hb hT in_X10 hown hK hP 0 rfl rfl 5 (by decide) (hT _ t1267) (fun _ h9 => h9) rfl dX10_feed_67 ?_
  refine lv_iload hx hb dX10_feed_70 (lv_at hl 0 rfl) ?_
  refine lv_iadd hx hb dX10_feed_72 ?_
  refine k_top (y := 10) (by decide) ?_
  refine lv_aload_n hx hb dX10_feed_73 rfl (lv_at hl 1 rfl) ?_
  refine va_get (D := D) (ci := 10) (v := .ref x5) (C := RX10) (T := TX10) (N := 38) hx hb hT in_X10 hown hK hP 0 rfl rfl 6 (by decide) (hT _ t1268) (fun _ h9 => h9) rfl dX10_feed_74 ?_
  refine lv_iload hx hb dX10_feed_77 (lv_at hl 0 rfl) ?_
  refine lv_iconst (v := 4) hx hb dX10_feed_79 (by decide) ?_
  refine lv_idiv hx hb dX10_feed_80 (by decide) ?_
  refine k_top (y := 2) (by decide) ?_
  refine va_iald hx hb hK hP 2 0 rfl rfl (by unfold vp_in; decide) dX10_feed_81 ?_
  refine lv_topi (fun z81_26 ez81_26 => ?_)
  clear ez81_26
  refine lv_bipush (v := 24) hx hb dX10_feed_82 (by decide) ?_
  refine lv_bipush (v := 8) hx hb dX10_feed_84 (by decide) ?_
  refine lv_iload hx hb dX10_feed_86 (lv_at hl 0 rfl) ?_
  refine lv_iconst (v := 4) hx hb dX10_feed_88 (by decide) ?_
  refine lv_irem hx hb dX10_feed_89 (by decide) ?_
  refine k_top (y := 2) (by decide) ?_
  refine lv_imul hx hb dX10_feed_90 ?_
  refine k_top (y := 16) (by decide) ?_
  refine lv_isub hx hb dX10_feed_91 ?_
  refine k_top (y := 8) (by decide) ?_
  refine lv_ishr hx hb dX10_feed_92 ?_
  refine lv_i2b (v := ((z81_26 >>> (8 &&& 31)).toInt8.toInt32)) hx hb dX10_feed_93 rfl ?_
  refine x_bst hx hb hK hP hD hS 1 1 rfl rfl (by unfold vp_in; decide) dX10_feed_94 (fun f94_27 H locs hP9 hD9 hS9 => ?_)
  clear hP hD hS
  have hS := hS9
  have hP := hP9
  have hD := hD9
  clear hP9 hD9 hS9
  replace hP : va_P D vwCl [(x0, .inr (10, [.int 0, .ref x1, .ref x2, .ref x3, .ref x4, .int 0, .ref x5, .int 0, .int 0, .int 0, .int 0, .int 0, .int 0, .int (-1), .ref x6, .ref x7, .ref x8, .ref x9, .ref x10, .ref x11, .int 0, .int 0, .int 0, .ref x12, .ref x13, .ref x14, .int 0, .int 0, .ref x15, .int 0, .ref x16, .int 0, .ref x17, .int 0, .ref x18, .ref x19, .ref x20, .ref x21])), (x4, .inl (k 1, 1000, .inl f94_27)), (x5, .inl (k 0, 5, .inl f51_5))] H := hP
  replace hD : va_D A [(x0, .inr (10, [.int 0, .ref x1, .ref x2, .ref x3, .ref x4, .int 0, .ref x5, .int 0, .int 0, .int 0, .int 0, .int 0, .int 0, .int (-1), .ref x6, .ref x7, .ref x8, .ref x9, .ref x10, .ref x11, .int 0, .int 0, .int 0, .ref x12, .ref x13, .ref x14, .int 0, .int 0, .ref x15, .int 0, .ref x16, .int 0, .ref x17, .int 0, .ref x18, .ref x19, .ref x20, .ref x21])), (x4, .inl (k 1, 1000, .inl f94_27)), (x5, .inl (k 0, 5, .inl f51_5))] := hD
  refine lv_iinc (v := 11) (lv' := [(6, .int 11), (0, .ref x0), (1, .int p0), (2, .int p1), (3, .int p2), (4, .int p3), (5, .int p4)]) hx hb dX10_feed_95 hl (k := 0) rfl (by decide) (by decide) rfl (fun ls hl => ?_)
  refine lv_goto (tgt := 55) hx hb dX10_feed_98 (by decide) ?_
  refine lv_iload hx hb dX10_feed_55 (lv_at hl 0 rfl) ?_
  refine lv_bipush (v := 20) hx hb dX10_feed_57 (by decide) ?_
  refine lv_icmp_ge (tgt := 101) hx hb dX10_feed_59 (by decide) (fun c_13 => ?_) (fun c_13 => ?_)
  · first | exact absurd c_13 (by decide) | exact absurd (by decide) c_13
  refine lv_aload_n hx hb dX10_feed_62 rfl (lv_at hl 1 rfl) ?_
  refine va_get (D := D) (ci := 10) (v := .ref x4) (C := RX10) (T := TX10) (N := 38) hx hb hT in_X10 hown hK hP 0 rfl rfl 4 (by decide) (hT _ t1266) (fun _ h9 => h9) rfl dX10_feed_63 ?_
  refine lv_aload_n hx hb dX10_feed_66 rfl (lv_at hl 1 rfl) ?_
  refine va_get (D := D) (ci := 10) (v := .int 0) (C := RX10) (T := TX10) (N := 38) hx hb hT in_X10 hown hK hP 0 rfl rfl 5 (by decide) (hT _ t1267) (fun _ h9 => h9) rfl dX10_feed_67 ?_
  refine lv_iload hx hb dX10_feed_70 (lv_at hl 0 rfl) ?_
  refine lv_iadd hx hb dX10_feed_72 ?_
  refine k_top (y := 11) (by decide) ?_
  refine lv_aload_n hx hb dX10_feed_73 rfl (lv_at hl 1 rfl) ?_
  refine va_get (D := D) (ci := 10) (v := .ref x5) (C := RX10) (T := TX10) (N := 38) hx hb hT in_X10 hown hK hP 0 rfl rfl 6 (by decide) (hT _ t1268) (fun _ h9 => h9) rfl dX10_feed_74 ?_
  refine lv_iload hx hb dX10_feed_77 (lv_at hl 0 rfl) ?_
  refine lv_iconst (v := 4) hx hb dX10_feed_79 (by decide) ?_
  refine lv_idiv hx hb dX10_feed_80 (by decide) ?_
  refine k_top (y := 2) (by decide) ?_
  refine va_iald hx hb hK hP 2 0 rfl rfl (by unfold vp_in; decide) dX10_feed_81 ?_
  refine lv_topi (fun z81_28 ez81_28 => ?_)
  clear ez81_28
  refine lv_bipush (v := 24) hx hb dX10_feed_82 (by decide) ?_
  refine lv_bipush (v := 8) hx hb dX10_feed_84 (by decide) ?_
  refine lv_iload hx hb dX10_feed_86 (lv_at hl 0 rfl) ?_
  refine lv_iconst (v := 4) hx hb dX10_feed_88 (by decide) ?_
  refine lv_irem hx hb dX10_feed_89 (by decide) ?_
  refine k_top (y := 3) (by decide) ?_
  refine lv_imul hx hb dX10_feed_90 ?_
  refine k_top (y := 24) (by decide) ?_
  refine lv_isub hx hb dX10_feed_91 ?_
  refine k_top (y := 0) (by decide) ?_
  refine lv_ishr hx hb dX10_feed_92 ?_
  refine lv_i2b (v := ((z81_28 >>> (0 &&& 31)).toInt8.toInt32)) hx hb dX10_feed_93 rfl ?_
  refine x_bst hx hb hK hP hD hS 1 1 rfl rfl (by unfold vp_in; decide) dX10_feed_94 (fun f94_29 H locs hP9 hD9 hS9 => ?_)
  clear hP hD hS
  have hS := hS9
  have hP := hP9
  have hD := hD9
  clear hP9 hD9 hS9
  replace hP : va_P D vwCl [(x0, .inr (10, [.int 0, .ref x1, .ref x2, .ref x3, .ref x4, .int 0, .ref x5, .int 0, .int 0, .int 0, .int 0, .int 0, .int 0, .int (-1), .ref x6, .ref x7, .ref x8, .ref x9, .ref x10, .ref x11, .int 0, .int 0, .int 0, .ref x12, .ref x13, .ref x14, .int 0, .int 0, .ref x15, .int 0, .ref x16, .int 0, .ref x17, .int 0, .ref x18, .ref x19, .ref x20, .ref x21])), (x4, .inl (k 1, 1000, .inl f94_29)), (x5, .inl (k 0, 5, .inl f51_5))] H := hP
  replace hD : va_D A [(x0, .inr (10, [.int 0, .ref x1, .ref x2, .ref x3, .ref x4, .int 0, .ref x5, .int 0, .int 0, .int 0, .int 0, .int 0, .int 0, .int (-1), .ref x6, .ref x7, .ref x8, .ref x9, .ref x10, .ref x11, .int 0, .int 0, .int 0, .ref x12, .ref x13, .ref x14, .int 0, .int 0, .ref x15, .int 0, .ref x16, .int 0, .ref x17, .int 0, .ref x18, .ref x19, .ref x20, .ref x21])), (x4, .inl (k 1, 1000, .inl f94_29)), (x5, .inl (k 0, 5, .inl f51_5))] := hD
  refine lv_iinc (v := 12) (lv' := [(6, .int 12), (0, .ref x0), (1, .int p0), (2, .int p1), (3, .int p2), (4, .int p3), (5, .int p4)]) hx hb dX10_feed_95 hl (k := 0) rfl (by decide) (by decide) rfl (fun ls hl => ?_)
  refine lv_goto (tgt := 55) hx hb dX10_feed_98 (by decide) ?_
  refine lv_iload hx hb dX10_feed_55 (lv_at hl 0 rfl) ?_
  refine lv_bipush (v := 20) hx hb dX10_feed_57 (by decide) ?_
  refine lv_icmp_ge (tgt := 101) hx hb dX10_feed_59 (by decide) (fun c_14 => ?_) (fun c_14 => ?_)
  · first | exact absurd c_14 (by decide) | exact absurd (by decide) c_14
  refine lv_aload_n hx hb dX10_feed_62 rfl (lv_at hl 1 rfl) ?_
  refine va_get (D := D) (ci := 10) (v := .ref x4) (C := RX10) (T := TX10) (N := 38) hx hb hT in_X10 hown hK hP 0 rfl rfl 4 (by decide) (hT _ t1266) (fun _ h9 => h9) rfl dX10_feed_63 ?_
  refine lv_aload_n hx hb dX10_feed_66 rfl (lv_at hl 1 rfl) ?_
  refine va_get (D := D) (ci := 10) (v := .int 0) (C := RX10) (T := TX10) (N := 38) hx hb hT in_X10 hown hK hP 0 rfl rfl 5 (by decide) (hT _ t1267) (fun _ h9 => h9) rfl dX10_feed_67 ?_
  refine lv_iload hx hb dX10_feed_70 (lv_at hl 0 rfl) ?_
  refine lv_iadd hx hb dX10_feed_72 ?_
  refine k_top (y := 12) (by decide) ?_
  refine lv_aload_n hx hb dX10_feed_73 rfl (lv_at hl 1 rfl) ?_
  refine va_get (D := D) (ci := 10) (v := .ref x5) (C := RX10) (T := TX10) (N := 38) hx hb hT in_X10 hown hK hP 0 rfl rfl 6 (by decide) (hT _ t1268) (fun _ h9 => h9) rfl dX10_feed_74 ?_
  refine lv_iload hx hb dX10_feed_77 (lv_at hl 0 rfl) ?_
  refine lv_iconst (v := 4) hx hb dX10_feed_79 (by decide) ?_
  refine lv_idiv hx hb dX10_feed_80 (by decide) ?_
  refine k_top (y := 3) (by decide) ?_
  refine va_iald hx hb hK hP 2 0 rfl rfl (by unfold vp_in; decide) dX10_feed_81 ?_
  refine lv_topi (fun z81_30 ez81_30 => ?_)
  clear ez81_30
  refine lv_bipush (v := 24) hx hb dX10_feed_82 (by decide) ?_
  refine lv_bipush (v := 8) hx hb dX10_feed_84 (by decide) ?_
  refine lv_iload hx hb dX10_feed_86 (lv_at hl 0 rfl) ?_
  refine lv_iconst (v := 4) hx hb dX10_feed_88 (by decide) ?_
  refine lv_irem hx hb dX10_feed_89 (by decide) ?_
  refine k_top (y := 0) (by decide) ?_
  refine lv_imul hx hb dX10_feed_90 ?_
  refine k_top (y := 0) (by decide) ?_
  refine lv_isub hx hb dX10_feed_91 ?_
  refine k_top (y := 24) (by decide) ?_
  refine lv_ishr hx hb dX10_feed_92 ?_
  refine lv_i2b (v := ((z81_30 >>> (24 &&& 31)).toInt8.toInt32)) hx hb dX10_feed_93 rfl ?_
  refine x_bst hx hb hK hP hD hS 1 1 rfl rfl (by unfold vp_in; decide) dX10_feed_94 (fun f94_31 H locs hP9 hD9 hS9 => ?_)
  clear hP hD hS
  have hS := hS9
  have hP := hP9
  have hD := hD9
  clear hP9 hD9 hS9
  replace hP : va_P D vwCl [(x0, .inr (10, [.int 0, .ref x1, .ref x2, .ref x3, .ref x4, .int 0, .ref x5, .int 0, .int 0, .int 0, .int 0, .int 0, .int 0, .int (-1), .ref x6, .ref x7, .ref x8, .ref x9, .ref x10, .ref x11, .int 0, .int 0, .int 0, .ref x12, .ref x13, .ref x14, .int 0, .int 0, .ref x15, .int 0, .ref x16, .int 0, .ref x17, .int 0, .ref x18, .ref x19, .ref x20, .ref x21])), (x4, .inl (k 1, 1000, .inl f94_31)), (x5, .inl (k 0, 5, .inl f51_5))] H := hP
  replace hD : va_D A [(x0, .inr (10, [.int 0, .ref x1, .ref x2, .ref x3, .ref x4, .int 0, .ref x5, .int 0, .int 0, .int 0, .int 0, .int 0, .int 0, .int (-1), .ref x6, .ref x7, .ref x8, .ref x9, .ref x10, .ref x11, .int 0, .int 0, .int 0, .ref x12, .ref x13, .ref x14, .int 0, .int 0, .ref x15, .int 0, .ref x16, .int 0, .ref x17, .int 0, .ref x18, .ref x19, .ref x20, .ref x21])), (x4, .inl (k 1, 1000, .inl f94_31)), (x5, .inl (k 0, 5, .inl f51_5))] := hD
  refine lv_iinc (v := 13) (lv' := [(6, .int 13), (0, .ref x0), (1, .int p0), (2, .int p1), (3, .int p2), (4, .int p3), (5, .int p4)]) hx hb dX10_feed_95 hl (k := 0) rfl (by decide) (by decide) rfl (fun ls hl => ?_)
  refine lv_goto (tgt := 55) hx hb dX10_feed_98 (by decide) ?_
  refine lv_iload hx hb dX10_feed_55 (lv_at hl 0 rfl) ?_
  refine lv_bipush (v := 20) hx hb dX10_feed_57 (by decide) ?_
  refine lv_icmp_ge (tgt := 101) hx hb dX10_feed_59 (by decide) (fun c_15 => ?_) (fun c_15 => ?_)
  · first | exact absurd c_15 (by decide) | exact absurd (by decide) c_15
  refine lv_aload_n hx hb dX10_feed_62 rfl (lv_at hl 1 rfl) ?_
  refine va_get (D := D) (ci := 10) (v := .ref x4) (C := RX10) (T := TX10) (N := 38) hx hb hT in_X10 hown hK hP 0 rfl rfl 4 (by decide) (hT _ t1266) (fun _ h9 => h9) rfl dX10_feed_63 ?_
  refine lv_aload_n hx hb dX10_feed_66 rfl (lv_at hl 1 rfl) ?_
  refine va_get (D := D) (ci := 10) (v := .int 0) (C := RX10) (T := TX10) (N := 38) hx hb hT in_X10 hown hK hP 0 rfl rfl 5 (by decide) (hT _ t1267) (fun _ h9 => h9) rfl dX10_feed_67 ?_
  refine lv_iload hx hb dX10_feed_70 (lv_at hl 0 rfl) ?_
  refine lv_iadd hx hb dX10_feed_72 ?_
  refine k_top (y := 13) (by decide) ?_
  refine lv_aload_n hx hb dX10_feed_73 rfl (lv_at hl 1 rfl) ?_
  refine va_get (D := D) (ci := 10) (v := .ref x5) (C := RX10) (T := TX10) (N := 38) hx hb hT in_X10 hown hK hP 0 rfl rfl 6 (by decide) (hT _ t1268) (fun _ h9 => h9) rfl dX10_feed_74 ?_
  refine lv_iload hx hb dX10_feed_77 (lv_at hl 0 rfl) ?_
  refine lv_iconst (v := 4) hx hb dX10_feed_79 (by decide) ?_
  refine lv_idiv hx hb dX10_feed_80 (by decide) ?_
  refine k_top (y := 3) (by decide) ?_
  refine va_iald hx hb hK hP 2 0 rfl rfl (by unfold vp_in; decide) dX10_feed_81 ?_
  refine lv_topi (fun z81_32 ez81_32 => ?_)
  clear ez81_32
  refine lv_bipush (v := 24) hx hb dX10_feed_82 (by decide) ?_
  refine lv_bipush (v := 8) hx hb dX10_feed_84 (by decide) ?_
  refine lv_iload hx hb dX10_feed_86 (lv_at hl 0 rfl) ?_
  refine lv_iconst (v := 4) hx hb dX10_feed_88 (by decide) ?_
  refine lv_irem hx hb dX10_feed_89 (by decide) ?_
  refine k_top (y := 1) (by decide) ?_
  refine lv_imul hx hb dX10_feed_90 ?_
  refine k_top (y := 8) (by decide) ?_
  refine lv_isub hx hb dX10_feed_91 ?_
  refine k_top (y := 16) (by decide) ?_
  refine lv_ishr hx hb dX10_feed_92 ?_
  refine lv_i2b (v := ((z81_32 >>> (16 &&& 31)).toInt8.toInt32)) hx hb dX10_feed_93 rfl ?_
  refine x_bst hx hb hK hP hD hS 1 1 rfl rfl (by unfold vp_in; decide) dX10_feed_94 (fun f94_33 H locs hP9 hD9 hS9 => ?_)
  clear hP hD hS
  have hS := hS9
  have hP := hP9
  have hD := hD9
  clear hP9 hD9 hS9
  replace hP : va_P D vwCl [(x0, .inr (10, [.int 0, .ref x1, .ref x2, .ref x3, .ref x4, .int 0, .ref x5, .int 0, .int 0, .int 0, .int 0, .int 0, .int 0, .int (-1), .ref x6, .ref x7, .ref x8, .ref x9, .ref x10, .ref x11, .int 0, .int 0, .int 0, .ref x12, .ref x13, .ref x14, .int 0, .int 0, .ref x15, .int 0, .ref x16, .int 0, .ref x17, .int 0, .ref x18, .ref x19, .ref x20, .ref x21])), (x4, .inl (k 1, 1000, .inl f94_33)), (x5, .inl (k 0, 5, .inl f51_5))] H := hP
  replace hD : va_D A [(x0, .inr (10, [.int 0, .ref x1, .ref x2, .ref x3, .ref x4, .int 0, .ref x5, .int 0, .int 0, .int 0, .int 0, .int 0, .int 0, .int (-1), .ref x6, .ref x7, .ref x8, .ref x9, .ref x10, .ref x11, .int 0, .int 0, .int 0, .ref x12, .ref x13, .ref x14, .int 0, .int 0, .ref x15, .int 0, .ref x16, .int 0, .ref x17, .int 0, .ref x18, .ref x19, .ref x20, .ref x21])), (x4, .inl (k 1, 1000, .inl f94_33)), (x5, .inl (k 0, 5, .inl f51_5))] := hD
  refine lv_iinc (v := 14) (lv' := [(6, .int 14), (0, .ref x0), (1, .int p0), (2, .int p1), (3, .int p2), (4, .int p3), (5, .int p4)]) hx hb dX10_feed_95 hl (k := 0) rfl (by decide) (by decide) rfl (fun ls hl => ?_)
  refine lv_goto (tgt := 55) hx hb dX10_feed_98 (by decide) ?_
  refine lv_iload hx hb dX10_feed_55 (lv_at hl 0 rfl) ?_
  refine lv_bipush (v := 20) hx hb dX10_feed_57 (by decide) ?_
  refine lv_icmp_ge (tgt := 101) hx hb dX10_feed_59 (by decide) (fun c_16 => ?_) (fun c_16 => ?_)
  · first | exact absurd c_16 (by decide) | exact absurd (by decide) c_16
  refine lv_aload_n hx hb dX10_feed_62 rfl (lv_at hl 1 rfl) ?_
  refine va_get (D := D) (ci := 10) (v := .ref x4) (C := RX10) (T := TX10) (N := 38) hx hb hT in_X10 hown hK hP 0 rfl rfl 4 (by decide) (hT _ t1266) (fun _ h9 => h9) rfl dX10_feed_63 ?_
  refine lv_aload_n hx hb dX10_feed_66 rfl (lv_at hl 1 rfl) ?_
  refine va_get (D := D) (ci := 10) (v := .int 0) (C := RX10) (T := TX10) (N := 38) hx hb hT in_X10 hown hK hP 0 rfl rfl 5 (by decide) (hT _ t1267) (fun _ h9 => h9) rfl dX10_feed_67 ?_
  refine lv_iload hx hb dX10_feed_70 (lv_at hl 0 rfl) ?_
  refine lv_iadd hx hb dX10_feed_72 ?_
  refine k_top (y := 14) (by decide) ?_
  refine lv_aload_n hx hb dX10_feed_73 rfl (lv_at hl 1 rfl) ?_
  refine va_get (D := D) (ci := 10) (v := .ref x5) (C := RX10) (T := TX10) (N := 38) hx hb hT in_X10 hown hK hP 0 rfl rfl 6 (by decide) (hT _ t1268) (fun _ h9 => h9) rfl dX10_feed_74 ?_
  refine lv_iload hx hb dX10_feed_77 (lv_at hl 0 rfl) ?_
  refine lv_iconst (v := 4) hx hb dX10_feed_79 (by decide) ?_
  refine lv_idiv hx hb dX10_feed_80 (by decide) ?_
  refine k_top (y := 3) (by decide) ?_
  refine va_iald hx hb hK hP 2 0 rfl rfl (by unfold vp_in; decide) dX10_feed_81 ?_
  refine lv_topi (fun z81_34 ez81_34 => ?_)
  clear ez81_34
  refine lv_bipush (v := 24) hx hb dX10_feed_82 (by decide) ?_
  refine lv_bipush (v := 8) hx hb dX10_feed_84 (by decide) ?_
  refine lv_iload hx hb dX10_feed_86 (lv_at hl 0 rfl) ?_
  refine lv_iconst (v := 4) hx hb dX10_feed_88 (by decide) ?_
  refine lv_irem hx hb dX10_feed_89 (by decide) ?_
  refine k_top (y := 2) (by decide) ?_
  refine lv_imul hx hb dX10_feed_90 ?_
  refine k_top (y := 16) (by decide) ?_
  refine lv_isub hx hb dX10_feed_91 ?_
  refine k_top (y := 8) (by decide) ?_
  refine lv_ishr hx hb dX10_feed_92 ?_
  refine lv_i2b (v := ((z81_34 >>> (8 &&& 31)).toInt8.toInt32)) hx hb dX10_feed_93 rfl ?_
  refine x_bst hx hb hK hP hD hS 1 1 rfl rfl (by unfold vp_in; decide) dX10_feed_94 (fun f94_35 H locs hP9 hD9 hS9 => ?_)
  clear hP hD hS
  have hS := hS9
  have hP := hP9
  have hD := hD9
  clear hP9 hD9 hS9
  replace hP : va_P D vwCl [(x0, .inr (10, [.int 0, .ref x1, .ref x2, .ref x3, .ref x4, .int 0, .ref x5, .int 0, .int 0, .int 0, .int 0, .int 0, .int 0, .int (-1), .ref x6, .ref x7, .ref x8, .ref x9, .ref x10, .ref x11, .int 0, .int 0, .int 0, .ref x12, .ref x13, .ref x14, .int 0, .int 0, .ref x15, .int 0, .ref x16, .int 0, .ref x17, .int 0, .ref x18, .ref x19, .ref x20, .ref x21])), (x4, .inl (k 1, 1000, .inl f94_35)), (x5, .inl (k 0, 5, .inl f51_5))] H := hP
  replace hD : va_D A [(x0, .inr (10, [.int 0, .ref x1, .ref x2, .ref x3, .ref x4, .int 0, .ref x5, .int 0, .int 0, .int 0, .int 0, .int 0, .int 0, .int (-1), .ref x6, .ref x7, .ref x8, .ref x9, .ref x10, .ref x11, .int 0, .int 0, .int 0, .ref x12, .ref x13, .ref x14, .int 0, .int 0, .ref x15, .int 0, .ref x16, .int 0, .ref x17, .int 0, .ref x18, .ref x19, .ref x20, .ref x21])), (x4, .inl (k 1, 1000, .inl f94_35)), (x5, .inl (k 0, 5, .inl f51_5))] := hD
  refine lv_iinc (v := 15) (lv' := [(6, .int 15), (0, .ref x0), (1, .int p0), (2, .int p1), (3, .int p2), (4, .int p3), (5, .int p4)]) hx hb dX10_feed_95 hl (k := 0) rfl (by decide) (by decide) rfl (fun ls hl => ?_)
  refine lv_goto (tgt := 55) hx hb dX10_feed_98 (by decide) ?_
  refine lv_iload hx hb dX10_feed_55 (lv_at hl 0 rfl) ?_
  refine lv_bipush (v := 20) hx hb dX10_feed_57 (by decide) ?_
  refine lv_icmp_ge (tgt := 101) hx hb dX10_feed_59 (by decide) (fun c_17 => ?_) (fun c_17 => ?_)
  · first | exact absurd c_17 (by decide) | exact absurd (by decide) c_17
  refine lv_aload_n hx hb dX10_feed_62 rfl (lv_at hl 1 rfl) ?_
  refine va_get (D := D) (ci := 10) (v := .ref x4) (C := RX10) (T := TX10) (N := 38) hx hb hT in_X10 hown hK hP 0 rfl rfl 4 (by decide) (hT _ t1266) (fun _ h9 => h9) rfl dX10_feed_63 ?_
  refine lv_aload_n hx hb dX10_feed_66 rfl (lv_at hl 1 rfl) ?_
  refine va_get (D := D) (ci := 10) (v := .int 0) (C := RX10) (T := TX10) (N := 38) hx hb hT in_X10 hown hK hP 0 rfl rfl 5 (by decide) (hT _ t1267) (fun _ h9 => h9) rfl dX10_feed_67 ?_
  refine lv_iload hx hb dX10_feed_70 (lv_at hl 0 rfl) ?_
  refine lv_iadd hx hb dX10_feed_72 ?_
  refine k_top (y := 15) (by decide) ?_
  refine lv_aload_n hx hb dX10_feed_73 rfl (lv_at hl 1 rfl) ?_
  refine va_get (D := D) (ci := 10) (v := .ref x5) (C := RX10) (T := TX10) (N := 38) hx hb hT in_X10 hown hK hP 0 rfl rfl 6 (by decide) (hT _ t1268) (fun _ h9 => h9) rfl dX10_feed_74 ?_
  refine lv_iload hx hb dX10_feed_77 (lv_at hl 0 rfl) ?_
  refine lv_iconst (v := 4) hx hb dX10_feed_79 (by decide) ?_
  refine lv_idiv hx hb dX10_feed_80 (by decide) ?_
  refine k_top (y := 3) (by decide) ?_
  refine va_iald hx hb hK hP 2 0 rfl rfl (by unfold vp_in; decide) dX10_feed_81 ?_
  refine lv_topi (fun z81_36 ez81_36 => ?_)
  clear ez81_36
  refine lv_bipush (v := 24) hx hb dX10_feed_82 (by decide) ?_
  refine lv_bipush (v := 8) hx hb dX10_feed_84 (by decide) ?_
  refine lv_iload hx hb dX10_feed_86 (lv_at hl 0 rfl) ?_
  refine lv_iconst (v := 4) hx hb dX10_feed_88 (by decide) ?_
  refine lv_irem hx hb dX10_feed_89 (by decide) ?_
  refine k_top (y := 3) (by decide) ?_
  refine lv_imul hx hb dX10_feed_90 ?_
  refine k_top (y := 24) (by decide) ?_
  refine lv_isub hx hb dX10_feed_91 ?_
  refine k_top (y := 0) (by decide) ?_
  refine lv_ishr hx hb dX10_feed_92 ?_
  refine lv_i2b (v := ((z81_36 >>> (0 &&& 31)).toInt8.toInt32)) hx hb dX10_feed_93 rfl ?_
  refine x_bst hx hb hK hP hD hS 1 1 rfl rfl (by unfold vp_in; decide) dX10_feed_94 (fun f94_37 H locs hP9 hD9 hS9 => ?_)
  clear hP hD hS
  have hS := hS9
  have hP := hP9
  have hD := hD9
  clear hP9 hD9 hS9
  replace hP : va_P D vwCl [(x0, .inr (10, [.int 0, .ref x1, .ref x2, .ref x3, .ref x4, .int 0, .ref x5, .int 0, .int 0, .int 0, .int 0, .int 0, .int 0, .int (-1), .ref x6, .ref x7, .ref x8, .ref x9, .ref x10, .ref x11, .int 0, .int 0, .int 0, .ref x12, .ref x13, .ref x14, .int 0, .int 0, .ref x15, .int 0, .ref x16, .int 0, .ref x17, .int 0, .ref x18, .ref x19, .ref x20, .ref x21])), (x4, .inl (k 1, 1000, .inl f94_37)), (x5, .inl (k 0, 5, .inl f51_5))] H := hP
  replace hD : va_D A [(x0, .inr (10, [.int 0, .ref x1, .ref x2, .ref x3, .ref x4, .int 0, .ref x5, .int 0, .int 0, .int 0, .int 0, .int 0, .int 0, .int (-1), .ref x6, .ref x7, .ref x8, .ref x9, .ref x10, .ref x11, .int 0, .int 0, .int 0, .ref x12, .ref x13, .ref x14, .int 0, .int 0, .ref x15, .int 0, .ref x16, .int 0, .ref x17, .int 0, .ref x18, .ref x19, .ref x20, .ref x21])), (x4, .inl (k 1, 1000, .inl f94_37)), (x5, .inl (k 0, 5, .inl f51_5))] := hD
  refine lv_iinc (v := 16) (lv' := [(6, .int 16), (0, .ref x0), (1, .int p0), (2, .int p1), (3, .int p2), (4, .int p3), (5, .int p4)]) hx hb dX10_feed_95 hl (k := 0) rfl (by decide) (by decide) rfl (fun ls hl => ?_)
  refine lv_goto (tgt := 55) hx hb dX10_feed_98 (by decide) ?_
  refine lv_iload hx hb dX10_feed_55 (lv_at hl 0 rfl) ?_
  refine lv_bipush (v := 20) hx hb dX10_feed_57 (by decide) ?_
  refine lv_icmp_ge (tgt := 101) hx hb dX10_feed_59 (by decide) (fun c_18 => ?_) (fun c_18 => ?_)
  · first | exact absurd c_18 (by decide) | exact absurd (by decide) c_18
  refine lv_aload_n hx hb dX10_feed_62 rfl (lv_at hl 1 rfl) ?_
  refine va_get (D := D) (ci := 10) (v := .ref x4) (C := RX10) (T := TX10) (N := 38) hx hb hT in_X10 hown hK hP 0 rfl rfl 4 (by decide) (hT _ t1266) (fun _ h9 => h9) rfl dX10_feed_63 ?_
  refine lv_aload_n hx hb dX10_feed_66 rfl (lv_at hl 1 rfl) ?_
  refine va_get (D := D) (ci := 10) (v := .int 0) (C := RX10) (T := TX10) (N := 38) hx hb hT in_X10 hown hK hP 0 rfl rfl 5 (by decide) (hT _ t1267) (fun _ h9 => h9) rfl dX10_feed_67 ?_
  refine lv_iload hx hb dX10_feed_70 (lv_at hl 0 rfl) ?_
  refine lv_iadd hx hb dX10_feed_72 ?_
  refine k_top (y := 16) (by decide) ?_
  refine lv_aload_n hx hb dX10_feed_73 rfl (lv_at hl 1 rfl) ?_
  refine va_get (D := D) (ci := 10) (v := .ref x5) (C := RX10) (T := TX10) (N := 38) hx hb hT in_X10 hown hK hP 0 rfl rfl 6 (by decide) (hT _ t1268) (fun _ h9 => h9) rfl dX10_feed_74 ?_
  refine lv_iload hx hb dX10_feed_77 (lv_at hl 0 rfl) ?_
  refine lv_iconst (v := 4) hx hb dX10_feed_79 (by decide) ?_
  refine lv_idiv hx hb dX10_feed_80 (by decide) ?_
  refine k_top (y := 4) (by decide) ?_
  refine va_iald hx hb hK hP 2 0 rfl rfl (by unfold vp_in; decide) dX10_feed_81 ?_
  refine lv_topi (fun z81_38 ez81_38 => ?_)
  clear ez81_38
  refine lv_bipush (v := 24) hx hb dX10_feed_82 (by decide) ?_
  refine lv_bipush (v := 8) hx hb dX10_feed_84 (by decide) ?_
  refine lv_iload hx hb dX10_feed_86 (lv_at hl 0 rfl) ?_
  refine lv_iconst (v := 4) hx hb dX10_feed_88 (by decide) ?_
  refine lv_irem hx hb dX10_feed_89 (by decide) ?_
  refine k_top (y := 0) (by decide) ?_
  refine lv_imul hx hb dX10_feed_90 ?_
  refine k_top (y := 0) (by decide) ?_
  refine lv_isub hx hb dX10_feed_91 ?_
  refine k_top (y := 24) (by decide) ?_
  refine lv_ishr hx hb dX10_feed_92 ?_
  refine lv_i2b (v := ((z81_38 >>> (24 &&& 31)).toInt8.toInt32)) hx hb dX10_feed_93 rfl ?_
  refine x_bst hx hb hK hP hD hS 1 1 rfl rfl (by unfold vp_in; decide) dX10_feed_94 (fun f94_39 H locs hP9 hD9 hS9 => ?_)
  clear hP hD hS
  have hS := hS9
  have hP := hP9
  have hD := hD9
  clear hP9 hD9 hS9
  replace hP : va_P D vwCl [(x0, .inr (10, [.int 0, .ref x1, .ref x2, .ref x3, .ref x4, .int 0, .ref x5, .int 0, .int 0, .int 0, .int 0, .int 0, .int 0, .int (-1), .ref x6, .ref x7, .ref x8, .ref x9, .ref x10, .ref x11, .int 0, .int 0, .int 0, .ref x12, .ref x13, .ref x14, .int 0, .int 0, .ref x15, .int 0, .ref x16, .int 0, .ref x17, .int 0, .ref x18, .ref x19, .ref x20, .ref x21])), (x4, .inl (k 1, 1000, .inl f94_39)), (x5, .inl (k 0, 5, .inl f51_5))] H := hP
  replace hD : va_D A [(x0, .inr (10, [.int 0, .ref x1, .ref x2, .ref x3, .ref x4, .int 0, .ref x5, .int 0, .int 0, .int 0, .int 0, .int 0, .int 0, .int (-1), .ref x6, .ref x7, .ref x8, .ref x9, .ref x10, .ref x11, .int 0, .int 0, .int 0, .ref x12, .ref x13, .ref x14, .int 0, .int 0, .ref x15, .int 0, .ref x16, .int 0, .ref x17, .int 0, .ref x18, .ref x19, .ref x20, .ref x21])), (x4, .inl (k 1, 1000, .inl f94_39)), (x5, .inl (k 0, 5, .inl f51_5))] := hD
  refine lv_iinc (v := 17) (lv' := [(6, .int 17), (0, .ref x0), (1, .int p0), (2, .int p1), (3, .int p2), (4, .int p3), (5, .int p4)]) hx hb dX10_feed_95 hl (k := 0) rfl (by decide) (by decide) rfl (fun ls hl => ?_)
  refine lv_goto (tgt := 55) hx hb dX10_feed_98 (by decide) ?_
  refine lv_iload hx hb dX10_feed_55 (lv_at hl 0 rfl) ?_
  refine lv_bipush (v := 20) hx hb dX10_feed_57 (by decide) ?_
  refine lv_icmp_ge (tgt := 101) hx hb dX10_feed_59 (by decide) (fun c_19 => ?_) (fun c_19 => ?_)
  · first | exact absurd c_19 (by decide) | exact absurd (by decide) c_19
  refine lv_aload_n hx hb dX10_feed_62 rfl (lv_at hl 1 rfl) ?_
  refine va_get (D := D) (ci := 10) (v := .ref x4) (C := RX10) (T := TX10) (N := 38) hx hb hT in_X10 hown hK hP 0 rfl rfl 4 (by decide) (hT _ t1266) (fun _ h9 => h9) rfl dX10_feed_63 ?_
  refine lv_aload_n hx hb dX10_feed_66 rfl (lv_at hl 1 rfl) ?_
  refine va_get (D := D) (ci := 10) (v := .int 0) (C := RX10) (T := TX10) (N := 38) hx hb hT in_X10 hown hK hP 0 rfl rfl 5 (by decide) (hT _ t1267) (fun _ h9 => h9) rfl dX10_feed_67 ?_
  refine lv_iload hx hb dX10_feed_70 (lv_at hl 0 rfl) ?_
  refine lv_iadd hx hb dX10_feed_72 ?_
  refine k_top (y := 17) (by decide) ?_
  refine lv_aload_n hx hb dX10_feed_73 rfl (lv_at hl 1 rfl) ?_
  refine va_get (D := D) (ci := 10) (v := .ref x5) (C := RX10) (T := TX10) (N := 38) hx hb hT in_X10 hown hK hP 0 rfl rfl 6 (by decide) (hT _ t1268) (fun _ h9 => h9) rfl dX10_feed_74 ?_
  refine lv_iload hx hb dX10_feed_77 (lv_at hl 0 rfl) ?_
  refine lv_iconst (v := 4) hx hb dX10_feed_79 (by decide) ?_
  refine lv_idiv hx hb dX10_feed_80 (by decide) ?_
  refine k_top (y := 4) (by decide) ?_
  refine va_iald hx hb hK hP 2 0 rfl rfl (by unfold vp_in; decide) dX10_feed_81 ?_
  refine lv_topi (fun z81_40 ez81_40 => ?_)
  clear ez81_40
  refine lv_bipush (v := 24) hx hb dX10_feed_82 (by decide) ?_
  refine lv_bipush (v := 8) hx hb dX10_feed_84 (by decide) ?_
  refine lv_iload hx hb dX10_feed_86 (lv_at hl 0 rfl) ?_
  refine lv_iconst (v := 4) hx hb dX10_feed_88 (by decide) ?_
  refine lv_irem hx hb dX10_feed_89 (by decide) ?_
  refine k_top (y := 1) (by decide) ?_
  refine lv_imul hx hb dX10_feed_90 ?_
  refine k_top (y := 8) (by decide) ?_
  refine lv_isub hx hb dX10_feed_91 ?_
  refine k_top (y := 16) (by decide) ?_
  refine lv_ishr hx hb dX10_feed_92 ?_
  refine lv_i2b (v := ((z81_40 >>> (16 &&& 31)).toInt8.toInt32)) hx hb dX10_feed_93 rfl ?_
  refine x_bst hx hb hK hP hD hS 1 1 rfl rfl (by unfold vp_in; decide) dX10_feed_94 (fun f94_41 H locs hP9 hD9 hS9 => ?_)
  clear hP hD hS
  have hS := hS9
  have hP := hP9
  have hD := hD9
  clear hP9 hD9 hS9
  replace hP : va_P D vwCl [(x0, .inr (10, [.int 0, .ref x1, .ref x2, .ref x3, .ref x4, .int 0, .ref x5, .int 0, .int 0, .int 0, .int 0, .int 0, .int 0, .int (-1), .ref x6, .ref x7, .ref x8, .ref x9, .ref x10, .ref x11, .int 0, .int 0, .int 0, .ref x12, .ref x13, .ref x14, .int 0, .int 0, .ref x15, .int 0, .ref x16, .int 0, .ref x17, .int 0, .ref x18, .ref x19, .ref x20, .ref x21])), (x4, .inl (k 1, 1000, .inl f94_41)), (x5, .inl (k 0, 5, .inl f51_5))] H := hP
  replace hD : va_D A [(x0, .inr (10, [.int 0, .ref x1, .ref x2, .ref x3, .ref x4, .int 0, .ref x5, .int 0, .int 0, .int 0, .int 0, .int 0, .int 0, .int (-1), .ref x6, .ref x7, .ref x8, .ref x9, .ref x10, .ref x11, .int 0, .int 0, .int 0, .ref x12, .ref x13, .ref x14, .int 0, .int 0, .ref x15, .int 0, .ref x16, .int 0, .ref x17, .int 0, .ref x18, .ref x19, .ref x20, .ref x21])), (x4, .inl (k 1, 1000, .inl f94_41)), (x5, .inl (k 0, 5, .inl f51_5))] := hD
  refine lv_iinc (v := 18) (lv' := [(6, .int 18), (0, .ref x0), (1, .int p0), (2, .int p1), (3, .int p2), (4, .int p3), (5, .int p4)]) hx hb dX10_feed_95 hl (k := 0) rfl (by decide) (by decide) rfl (fun ls hl => ?_)
  refine lv_goto (tgt := 55) hx hb dX10_feed_98 (by decide) ?_
  refine lv_iload hx hb dX10_feed_55 (lv_at hl 0 rfl) ?_
  refine lv_bipush (v := 20) hx hb dX10_feed_57 (by decide) ?_
  refine lv_icmp_ge (tgt := 101) hx hb dX10_feed_59 (by decide) (fun c_20 => ?_) (fun c_20 => ?_)
  · first | exact absurd c_20 (by decide) | exact absurd (by decide) c_20
  refine lv_aload_n hx hb dX10_feed_62 rfl (lv_at hl 1 rfl) ?_
  refine va_get (D := D) (ci := 10) (v := .ref x4) (C := RX10) (T := TX10) (N := 38) hx hb hT in_X10 hown hK hP 0 rfl rfl 4 (by decide) (hT _ t1266) (fun _ h9 => h9) rfl dX10_feed_63 ?_
  refine lv_aload_n hx hb dX10_feed_66 rfl (lv_at hl 1 rfl) ?_
  refine va_get (D := D) (ci := 10) (v := .int 0) (C := RX10) (T := TX10) (N := 38) hx hb hT in_X10 hown hK hP 0 rfl rfl 5 (by decide) (hT _ t1267) (fun _ h9 => h9) rfl dX10_feed_67 ?_
  refine lv_iload hx hb dX10_feed_70 (lv_at hl 0 rfl) ?_
  refine lv_iadd hx hb dX10_feed_72 ?_
  refine k_top (y := 18) (by decide) ?_
  refine lv_aload_n hx hb dX10_feed_73 rfl (lv_at hl 1 rfl) ?_
  refine va_get (D := D) (ci := 10) (v := .ref x5) (C := RX10) (T := TX10) (N := 38) hx hb hT in_X10 hown hK hP 0 rfl rfl 6 (by decide) (hT _ t1268) (fun _ h9 => h9) rfl dX10_feed_74 ?_
  refine lv_iload hx hb dX10_feed_77 (lv_at hl 0 rfl) ?_
  refine lv_iconst (v := 4) hx hb dX10_feed_79 (by decide) ?_
  refine lv_idiv hx hb dX10_feed_80 (by decide) ?_
  refine k_top (y := 4) (by decide) ?_
  refine va_iald hx hb hK hP 2 0 rfl rfl (by unfold vp_in; decide) dX10_feed_81 ?_
  refine lv_topi (fun z81_42 ez81_42 => ?_)
  clear ez81_42
  refine lv_bipush (v := 24) hx hb dX10_feed_82 (by decide) ?_
  refine lv_bipush (v := 8) hx hb dX10_feed_84 (by decide) ?_
  refine lv_iload hx hb dX10_feed_86 (lv_at hl 0 rfl) ?_
  refine lv_iconst (v := 4) hx hb dX10_feed_88 (by decide) ?_
  refine lv_irem hx hb dX10_feed_89 (by decide) ?_
  refine k_top (y := 2) (by decide) ?_
  refine lv_imul hx hb dX10_feed_90 ?_
  refine k_top (y := 16) (by decide) ?_
  refine lv_isub hx hb dX10_feed_91 ?_
  refine k_top (y := 8) (by decide) ?_
  refine lv_ishr hx hb dX10_feed_92 ?_
  refine lv_i2b (v := ((z81_42 >>> (8 &&& 31)).toInt8.toInt32)) hx hb dX10_feed_93 rfl ?_
  refine x_bst hx hb hK hP hD hS 1 1 rfl rfl (by unfold vp_in; decide) dX10_feed_94 (fun f94_43 H locs hP9 hD9 hS9 => ?_)
  clear hP hD hS
  have hS := hS9
  have hP := hP9
  have hD := hD9
  clear hP9 hD9 hS9
  replace hP : va_P D vwCl [(x0, .inr (10, [.int 0, .ref x1, .ref x2, .ref x3, .ref x4, .int 0, .ref x5, .int 0, .int 0, .int 0, .int 0, .int 0, .int 0, .int (-1), .ref x6, .ref x7, .ref x8, .ref x9, .ref x10, .ref x11, .int 0, .int 0, .int 0, .ref x12, .ref x13, .ref x14, .int 0, .int 0, .ref x15, .int 0, .ref x16, .int 0, .ref x17, .int 0, .ref x18, .ref x19, .ref x20, .ref x21])), (x4, .inl (k 1, 1000, .inl f94_43)), (x5, .inl (k 0, 5, .inl f51_5))] H := hP
  replace hD : va_D A [(x0, .inr (10, [.int 0, .ref x1, .ref x2, .ref x3, .ref x4, .int 0, .ref x5, .int 0, .int 0, .int 0, .int 0, .int 0, .int 0, .int (-1), .ref x6, .ref x7, .ref x8, .ref x9, .ref x10, .ref x11, .int 0, .int 0, .int 0, .ref x12, .ref x13, .ref x14, .int 0, .int 0, .ref x15, .int 0, .ref x16, .int 0, .ref x17, .int 0, .ref x18, .ref x19, .ref x20, .ref x21])), (x4, .inl (k 1, 1000, .inl f94_43)), (x5, .inl (k 0, 5, .inl f51_5))] := hD
  refine lv_iinc (v := 19) (lv' := [(6, .int 19), (0, .ref x0), (1, .int p0), (2, .int p1), (3, .int p2), (4, .int p3), (5, .int p4)]) hx hb dX10_feed_95 hl (k := 0) rfl (by decide) (by decide) rfl (fun ls hl => ?_)
  refine lv_goto (tgt := 55) hx hb dX10_feed_98 (by decide) ?_
  refine lv_iload hx hb dX10_feed_55 (lv_at hl 0 rfl) ?_
  refine lv_bipush (v := 20) hx hb dX10_feed_57 (by decide) ?_
  refine lv_icmp_ge (tgt := 101) hx hb dX10_feed_59 (by decide) (fun c_21 => ?_) (fun c_21 => ?_)
  · first | exact absurd c_21 (by decide) | exact absurd (by decide) c_21
  refine lv_aload_n hx hb dX10_feed_62 rfl (lv_at hl 1 rfl) ?_
  refine va_get (D := D) (ci := 10) (v := .ref x4) (C := RX10) (T := TX10) (N := 38) hx hb hT in_X10 hown hK hP 0 rfl rfl 4 (by decide) (hT _ t1266) (fun _ h9 => h9) rfl dX10_feed_63 ?_
  refine lv_aload_n hx hb dX10_feed_66 rfl (lv_at hl 1 rfl) ?_
  refine va_get (D := D) (ci := 10) (v := .int 0) (C := RX10) (T := TX10) (N := 38) hx hb hT in_X10 hown hK hP 0 rfl rfl 5 (by decide) (hT _ t1267) (fun _ h9 => h9) rfl dX10_feed_67 ?_
  refine lv_iload hx hb dX10_feed_70 (lv_at hl 0 rfl) ?_
  refine lv_iadd hx hb dX10_feed_72 ?_
  refine k_top (y := 19) (by decide) ?_
  refine lv_aload_n hx hb dX10_feed_73 rfl (lv_at hl 1 rfl) ?_
  refine va_get (D := D) (ci := 10) (v := .ref x5) (C := RX10) (T := TX10) (N := 38) hx hb hT in_X10 hown hK hP 0 rfl rfl 6 (by decide) (hT _ t1268) (fun _ h9 => h9) rfl dX10_feed_74 ?_
  refine lv_iload hx hb dX10_feed_77 (lv_at hl 0 rfl) ?_
  refine lv_iconst (v := 4) hx hb dX10_feed_79 (by decide) ?_
  refine lv_idiv hx hb dX10_feed_80 (by decide) ?_
  refine k_top (y := 4) (by decide) ?_
  refine va_iald hx hb hK hP 2 0 rfl rfl (by unfold vp_in; decide) dX10_feed_81 ?_
  refine lv_topi (fun z81_44 ez81_44 => ?_)
  clear ez81_44
  refine lv_bipush (v := 24) hx hb dX10_feed_82 (by decide) ?_
  refine lv_bipush (v := 8) hx hb dX10_feed_84 (by decide) ?_
  refine lv_iload hx hb dX10_feed_86 (lv_at hl 0 rfl) ?_
  refine lv_iconst (v := 4) hx hb dX10_feed_88 (by decide) ?_
  refine lv_irem hx hb dX10_feed_89 (by decide) ?_
  refine k_top (y := 3) (by decide) ?_
  refine lv_imul hx hb dX10_feed_90 ?_
  refine k_top (y := 24) (by decide) ?_
  refine lv_isub hx hb dX10_feed_91 ?_
  refine k_top (y := 0) (by decide) ?_
  refine lv_ishr hx hb dX10_feed_92 ?_
  refine lv_i2b (v := ((z81_44 >>> (0 &&& 31)).toInt8.toInt32)) hx hb dX10_feed_93 rfl ?_
  refine x_bst hx hb hK hP hD hS 1 1 rfl rfl (by unfold vp_in; decide) dX10_feed_94 (fun f94_45 H locs hP9 hD9 hS9 => ?_)
  clear hP hD hS
  have hS := hS9
  have hP := hP9
  have hD := hD9
  clear hP9 hD9 hS9
  replace hP : va_P D vwCl [(x0, .inr (10, [.int 0, .ref x1, .ref x2, .ref x3, .ref x4, .int 0, .ref x5, .int 0, .int 0, .int 0, .int 0, .int 0, .int 0, .int (-1), .ref x6, .ref x7, .ref x8, .ref x9, .ref x10, .ref x11, .int 0, .int 0, .int 0, .ref x12, .ref x13, .ref x14, .int 0, .int 0, .ref x15, .int 0, .ref x16, .int 0, .ref x17, .int 0, .ref x18, .ref x19, .ref x20, .ref x21])), (x4, .inl (k 1, 1000, .inl f94_45)), (x5, .inl (k 0, 5, .inl f51_5))] H := hP
  replace hD : va_D A [(x0, .inr (10, [.int 0, .ref x1, .ref x2, .ref x3, .ref x4, .int 0, .ref x5, .int 0, .int 0, .int 0, .int 0, .int 0, .int 0, .int (-1), .ref x6, .ref x7, .ref x8, .ref x9, .ref x10, .ref x11, .int 0, .int 0, .int 0, .ref x12, .ref x13, .ref x14, .int 0, .int 0, .ref x15, .int 0, .ref x16, .int 0, .ref x17, .int 0, .ref x18, .ref x19, .ref x20, .ref x21])), (x4, .inl (k 1, 1000, .inl f94_45)), (x5, .inl (k 0, 5, .inl f51_5))] := hD
  refine lv_iinc (v := 20) (lv' := [(6, .int 20), (0, .ref x0), (1, .int p0), (2, .int p1), (3, .int p2), (4, .int p3), (5, .int p4)]) hx hb dX10_feed_95 hl (k := 0) rfl (by decide) (by decide) rfl (fun ls hl => ?_)
  refine lv_goto (tgt := 55) hx hb dX10_feed_98 (by decide) ?_
  refine lv_iload hx hb dX10_feed_55 (lv_at hl 0 rfl) ?_
  refine lv_bipush (v := 20) hx hb dX10_feed_57 (by decide) ?_
  refine lv_icmp_ge (tgt := 101) hx hb dX10_feed_59 (by decide) (fun c_22 => ?_) (fun c_22 => ?_)
  rotate_left
  · first | exact absurd c_22 (by decide) | exact absurd (by decide) c_22
  refine lv_aload_n hx hb dX10_feed_101 rfl (lv_at hl 1 rfl) ?_
  refine lv_dup hx hb dX10_feed_102 rfl ?_
  refine va_get (D := D) (ci := 10) (v := .int 0) (C := RX10) (T := TX10) (N := 38) hx hb hT in_X10 hown hK hP 0 rfl rfl 5 (by decide) (hT _ t1267) (fun _ h9 => h9) rfl dX10_feed_103 ?_
  refine lv_bipush (v := 20) hx hb dX10_feed_106 (by decide) ?_
  refine lv_iadd hx hb dX10_feed_108 ?_
  refine k_top (y := 20) (by decide) ?_
  refine va_put (D := D) (ci := 10) (v := .int 20) (ty := .int) (C := RX10) (T := TX10) (N := 38) hx hb hT in_X10 tyX10 tyX10_ok nmX10 hown hK hP hD hS 0 rfl rfl 5 (by decide) (hT _ t1267) (fun _ h9 => h9) rfl (by decide +kernel) rfl rfl (Nat.le_of_ble_eq_true rfl) dX10_feed_109 (fun H locs hP9 hD9 hS9 => ?_)
  clear hP hD hS
  have hS := hS9
  have hP := hP9
  have hD := hD9
  clear hP9 hD9 hS9
  replace hP : va_P D vwCl [(x0, .inr (10, [.int 0, .ref x1, .ref x2, .ref x3, .ref x4, .int 20, .ref x5, .int 0, .int 0, .int 0, .int 0, .int 0, .int 0, .int (-1), .ref x6, .ref x7, .ref x8, .ref x9, .ref x10, .ref x11, .int 0, .int 0, .int 0, .ref x12, .ref x13, .ref x14, .int 0, .int 0, .ref x15, .int 0, .ref x16, .int 0, .ref x17, .int 0, .ref x18, .ref x19, .ref x20, .ref x21])), (x4, .inl (k 1, 1000, .inl f94_45)), (x5, .inl (k 0, 5, .inl f51_5))] H := hP
  replace hD : va_D A [(x0, .inr (10, [.int 0, .ref x1, .ref x2, .ref x3, .ref x4, .int 20, .ref x5, .int 0, .int 0, .int 0, .int 0, .int 0, .int 0, .int (-1), .ref x6, .ref x7, .ref x8, .ref x9, .ref x10, .ref x11, .int 0, .int 0, .int 0, .ref x12, .ref x13, .ref x14, .int 0, .int 0, .ref x15, .int 0, .ref x16, .int 0, .ref x17, .int 0, .ref x18, .ref x19, .ref x20, .ref x21])), (x4, .inl (k 1, 1000, .inl f94_45)), (x5, .inl (k 0, 5, .inl f51_5))] := hD
  refine lv_aload_n hx hb dX10_feed_112 rfl (lv_at hl 1 rfl) ?_
  refine va_get (D := D) (ci := 10) (v := .int 20) (C := RX10) (T := TX10) (N := 38) hx hb hT in_X10 hown hK hP 0 rfl rfl 5 (by decide) (hT _ t1267) (fun _ h9 => h9) rfl dX10_feed_113 ?_
  have hP9 := hP.sub (ws' := []) [] rfl
  have hD9 := d_sub (ws' := []) hD [] (by decide +kernel) rfl
  have hK9 := hK.sub (tys' := []) [] rfl
  exact W.iret (v := 20) hx hb hr (fun t ht hW => ⟨⟨20, mkU [] [], rfl, rfl, by rw [ht]; exact hP9, va_K.moved hW.alike hK9, by rw [hAe]; exact hD9⟩, by rw [hAe]; exact hS.F ht⟩) hS.2.2 dX10_feed_116
