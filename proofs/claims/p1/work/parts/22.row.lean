def a_row (x y z : Int32) : Int32 := if (x < 0 ∨ 4 ≤ x) ∨ (y < 0 ∨ 4 ≤ y) ∨ 60 < z then -2 else if z < 0 then -3 else 0
theorem a_row_2 {x y z : Int32} (h : (x < 0 ∨ 4 ≤ x) ∨ (y < 0 ∨ 4 ≤ y) ∨ 60 < z) : -2 = a_row x y z := by rw [a_row, if_pos h]
theorem a_row_no {x y z : Int32} (hx : in4 x) (hy : in4 y) (hz : z ≤ 60) : ¬ ((x < 0 ∨ 4 ≤ x) ∨ (y < 0 ∨ 4 ≤ y) ∨ 60 < z) := by
  rintro ((h | h) | (h | h) | h)
  · exact hx.1 h
  · exact absurd hx.2 (Int32.not_lt.mpr h)
  · exact hy.1 h
  · exact absurd hy.2 (Int32.not_lt.mpr h)
  · exact absurd hz (Int32.not_le.mpr h)
theorem a_row_3 {x y z : Int32} (hx : in4 x) (hy : in4 y) (hz : z ≤ 60) (h : z < 0) : -3 = a_row x y z := by rw [a_row, if_neg (a_row_no hx hy hz), if_pos h]
theorem a_row_0 {x y z : Int32} (hx : in4 x) (hy : in4 y) (hz : z ≤ 60) (h : ¬ z < 0) : 0 = a_row x y z := by rw [a_row, if_neg (a_row_no hx hy hz), if_neg h]
section ROX
variable {p : Program} {l : Launch} {e : Env} {R : Room} {s : State} {m : MethodId} {args : Array Value} {below : List Frame} {meth : Method} {c : Code} {H : Heap} {locs : List Loc} {cells slots : Nat} {Q : State → Prop} {pc : Nat} {ls : Array Slot} {rest st : List Value}
theorem ro_SX {cc : ByteArray} {nL n index maxL : Nat} {own C : String} {y : MethodName} {bytes : ByteArray} {ret : Option FieldType} {rm : Room} {Pc : Array Value → State → Prop} {post : Int32 → Prop} {As : List Value}
    (S : CallFix p m c cc nL s args TB own) (hM : Met l y (.code y bytes maxL ret :: TB) rm Pc (vp_Si post) 0 0 (fun _ => False))
    (hG : GoodIn TB (.code y bytes maxL ret :: TB)) (h1 : Cond.methodLink own index y ∈ TB) (h2 : Cond.static y ∈ TB) (h3 : Cond.initialized y.cls ∈ TB) (hd : okY y C n)
    (hrm : rm.cells = 0 ∧ rm.slots = 0 ∧ rm.frames + 1 ≤ R.frames ∧ 8 + (maxL + 11) + rm.locals ≤ R.locals)
    (hp : PreS s H Pc As) (hn : As.length = n) (hsize : ls.size = nL) (hst : st = As.reverse ++ rest) (hW : (rest.map fun v => v.category).sum ≤ 8)
    (hf : cells ≤ R.cells ∧ slots ≤ R.slots) (hdg : decode cc pc = .ok (.invokestatic index, 3))
    (kk : ∀ r : Int32, post r → W p l e R s m args below meth c H locs cells slots Q (F0 m (pc + 3) ls (.int r :: rest))) : W p l e R s m args below meth c H locs cells slots Q (F0 m pc ls st) := by
  subst hst
  exact vp_callSi (W.runS S hM ⟨callB_of n S.2.2.2.2 hG rfl hrm.1 hrm.2.1 (S.2.2.2.2 _ h3) (S.2.2.2.2 _ h1) hd.2 hrm.2.2, S.2.2.2.2 _ h2⟩ hp rfl hn hsize rfl (lv_room hW) hdg hf) kk
end ROX
section ALD
variable {p : Program} {l : Launch} {e : Env} {R : Room} {s : State} {m : MethodId} {args : Array Value} {below : List Frame} {meth : Method} {c : Code} {H : Heap} {locs : List Loc} {cells slots : Nat} {Q : State → Prop} {cc : ByteArray} {pc : Nat} {ls : Array Slot} {rest : List Value} {D : va_G} {a : Nat} {tys : List (ClassId × FieldType)} {ws : va_W}
theorem a_aldl (hexec : p.tables.exec = Jvm.exec) (hb : c.code = cc) (hK : va_K D vwCl tys s) (hP : va_P D vwCl ws H) (q0 t0 : Nat) {cA : ClassId} {t : FieldType} {n : Nat} {f : Nat → Option Nat} (ha : ws[q0]? = some (a, .inl (cA, n, .inr (.inr (.inr (.inr f)))))) (ht : tys[t0]? = some (cA, .array t)) {i : Int32} (hin : vp_in i n) (hdg : decode cc pc = .ok (.aaload, 1))
    (kk : W p l e R s m args below meth c H locs cells slots Q (F0 m (pc + 1) ls (va_rf (f i.toNatClampNeg) :: rest))) : W p l e R s m args below meth c H locs cells slots Q (F0 m pc ls (.int i :: .ref a :: rest)) := by
  have hlt := vp_in_lt hin
  refine W.aald (v := va_rf (f i.toNatClampNeg)) (ty := .array t) hexec hb (hP q0 _ ha) ((hK.2 t0 _ ht).1 n (fun j => va_rf (f j))) rfl (fun q => by cases q) ?_ ?_ rfl rfl hdg kk
  · show ¬ (i < 0 ∨ (arrV _ _ _).slots.size ≤ _)
    rw [arrV_size]
    exact hin
  · show (arrV _ _ _).slots[_]? = _
    rw [arrV_read _ _ hlt]
end ALD
set_option maxHeartbeats 4000000 in
set_option maxRecDepth 100000 in
theorem c_X4_isSlotP (l : Launch) (D : va_G) (k : Nat → ClassId) (x0 x1 x2 x3 : Nat) (p0 : Int32) (sz : Nat) : Met l yX4_isSlot (.code yX4_isSlot cX4_isSlot 2 (some .boolean) :: TB) (rmk 1) (va_Pc [.ref x0, .int p0] (PW D k sz [(x0, .inr (4, [.ref x1, .ref x2, .ref x3]))])) (vp_Si (fun r => (r = 1 ∧ in4 p0) ∨ (r = 0 ∧ (p0 < 0 ∨ 4 ≤ p0)))) 0 0 (fun _ => False) := by
  refine Met.ofW (cc := cX4_isSlot) (maxL := 2) (ret := (some .boolean)) (by decide) rfl ?_
  intro p e s m args below meth c s₁ B hml hv
  obtain ⟨rfl, hsz, hP, hK, hD0, hN⟩ := hv
  have hx := B.exec
  have hb := B.bytes
  have hr := B.returns
  have hT : ∀ w ∈ TB, w.before ([.ref x0, .int p0] : List Value).toArray s = true := fun w h => atoms_spec (ws := .code yX4_isSlot cX4_isSlot 2 (some .boolean) :: TB) B.pre w (List.mem_cons_of_mem _ h)
  have hown : s.vm.findClass RX4 = some m.cls := findClass_of_methodNamed B.named
  have S : CallFix p m c cX4_isSlot 2 s _ TB RX4 := ⟨hx, hb, hml, hown, hT⟩
  subst hsz
  have hD := hD0.self (sz := s.heap.size)
  have hP : va_P D vwCl [(x0, .inr (4, [.ref x1, .ref x2, .ref x3]))] s.heap := hP
  have hl := lv_entry ([.ref x0, .int p0]) (n := 2) (Nat.le_of_ble_eq_true rfl)
  rw [lg_entry_eq]
  generalize (lg_sl ([.ref x0, .int p0]) ++ List.replicate (2 - (lg_sl ([.ref x0, .int p0])).length) Slot.unset).toArray = ls at hl ⊢
  have hl : lv_has ls 2 [(0, .ref x0), (1, .int p0)] := hl
  refine lv_iload_n hx hb dX4_isSlot_0 rfl (lv_at hl 1 rfl) ?_
  refine lv_if_lt (tgt := 13) hx hb dX4_isSlot_1 (by decide) (fun c_1 => ?_) (fun c_1 => ?_)
  · skip
    refine lv_iconst (v := 0) hx hb dX4_isSlot_13 (by decide) ?_
    exact W.zret (v := 0) (ty := .boolean) hx hb hr rfl (fun t ht hW => ⟨0, rfl, Or.inr ⟨rfl, Or.inl c_1⟩, ht⟩) (fun _ h9 => by cases h9) dX4_isSlot_14
  · skip
    refine lv_iload_n hx hb dX4_isSlot_4 rfl (lv_at hl 1 rfl) ?_
    refine lv_iconst (v := 4) hx hb dX4_isSlot_5 (by decide) ?_
    refine lv_icmp_ge (tgt := 13) hx hb dX4_isSlot_6 (by decide) (fun c_2 => ?_) (fun c_2 => ?_)
    · skip
      refine lv_iconst (v := 0) hx hb dX4_isSlot_13 (by decide) ?_
      exact W.zret (v := 0) (ty := .boolean) hx hb hr rfl (fun t ht hW => ⟨0, rfl, Or.inr ⟨rfl, Or.inr c_2⟩, ht⟩) (fun _ h9 => by cases h9) dX4_isSlot_14
    · skip
      refine lv_iconst (v := 1) hx hb dX4_isSlot_9 (by decide) ?_
      refine lv_goto (tgt := 14) hx hb dX4_isSlot_10 (by decide) ?_
      exact W.zret (v := 1) (ty := .boolean) hx hb hr rfl (fun t ht hW => ⟨1, rfl, Or.inl ⟨rfl, c_1, (Int32.not_le.mp c_2)⟩, ht⟩) (fun _ h9 => by cases h9) dX4_isSlot_14
set_option maxHeartbeats 4000000 in
set_option maxRecDepth 100000 in
theorem c_X4_isWidthP (l : Launch) (D : va_G) (k : Nat → ClassId) (p0 : Int32) (sz : Nat) : Met l yX4_isWidth (.code yX4_isWidth cX4_isWidth 1 (some .boolean) :: TB) (rmk 1) (va_Pc [.int p0] (PW D k sz [])) (vp_Si (fun r => (r = 1 ∧ in4 p0) ∨ (r = 0 ∧ (p0 < 0 ∨ 4 ≤ p0)))) 0 0 (fun _ => False) := by
  refine Met.ofW (cc := cX4_isWidth) (maxL := 1) (ret := (some .boolean)) (by decide) rfl ?_
  intro p e s m args below meth c s₁ B hml hv
  obtain ⟨rfl, hsz, hP, hK, hD0, hN⟩ := hv
  have hx := B.exec
  have hb := B.bytes
  have hr := B.returns
  have hT : ∀ w ∈ TB, w.before ([.int p0] : List Value).toArray s = true := fun w h => atoms_spec (ws := .code yX4_isWidth cX4_isWidth 1 (some .boolean) :: TB) B.pre w (List.mem_cons_of_mem _ h)
  have hown : s.vm.findClass RX4 = some m.cls := findClass_of_methodNamed B.named
  have S : CallFix p m c cX4_isWidth 1 s _ TB RX4 := ⟨hx, hb, hml, hown, hT⟩
  subst hsz
  have hD := hD0.self (sz := s.heap.size)
  have hP : va_P D vwCl [] s.heap := hP
  have hl := lv_entry ([.int p0]) (n := 1) (Nat.le_of_ble_eq_true rfl)
  rw [lg_entry_eq]
  generalize (lg_sl ([.int p0]) ++ List.replicate (1 - (lg_sl ([.int p0])).length) Slot.unset).toArray = ls at hl ⊢
  have hl : lv_has ls 1 [(0, .int p0)] := hl
  refine lv_iload_n hx hb dX4_isWidth_0 rfl (lv_at hl 0 rfl) ?_
  refine lv_if_lt (tgt := 13) hx hb dX4_isWidth_1 (by decide) (fun c_1 => ?_) (fun c_1 => ?_)
  · skip
    refine lv_iconst (v := 0) hx hb dX4_isWidth_13 (by decide) ?_
    exact W.zret (v := 0) (ty := .boolean) hx hb hr rfl (fun t ht hW => ⟨0, rfl, Or.inr ⟨rfl, Or.inl c_1⟩, ht⟩) (fun _ h9 => by cases h9) dX4_isWidth_14
  · skip
    refine lv_iload_n hx hb dX4_isWidth_4 rfl (lv_at hl 0 rfl) ?_
    refine lv_iconst (v := 4) hx hb dX4_isWidth_5 (by decide) ?_
    refine lv_icmp_ge (tgt := 13) hx hb dX4_isWidth_6 (by decide) (fun c_2 => ?_) (fun c_2 => ?_)
    · skip
      refine lv_iconst (v := 0) hx hb dX4_isWidth_13 (by decide) ?_
      exact W.zret (v := 0) (ty := .boolean) hx hb hr rfl (fun t ht hW => ⟨0, rfl, Or.inr ⟨rfl, Or.inr c_2⟩, ht⟩) (fun _ h9 => by cases h9) dX4_isWidth_14
    · skip
      refine lv_iconst (v := 1) hx hb dX4_isWidth_9 (by decide) ?_
      refine lv_goto (tgt := 14) hx hb dX4_isWidth_10 (by decide) ?_
      exact W.zret (v := 1) (ty := .boolean) hx hb hr rfl (fun t ht hW => ⟨1, rfl, Or.inl ⟨rfl, c_1, (Int32.not_le.mp c_2)⟩, ht⟩) (fun _ h9 => by cases h9) dX4_isWidth_14
set_option maxHeartbeats 4000000 in
set_option maxRecDepth 100000 in
theorem c_X4_beginW0 (l : Launch) (D : va_G) (k : Nat → ClassId) (x0 x1 x2 x3 x4 x5 x6 x7 : Nat) (g0 : Nat → Int32) (g1 : Nat → Int32) (g2 : Nat → Int64) (p0 p1 : Int32) (sz : Nat) : Met l yX4_begin (.code yX4_begin cX4_begin 4 none :: TB) (rmw 2 0 0) (va_Pc [.ref x0, .int 0, .int p0, .int p1] (PW D k sz [(x0, .inr (4, [.ref x1, .ref x2, .ref x3])), (x1, .inl (k 0, 4, .inl g0)), (x2, .inl (k 0, 4, .inl g1)), (x3, .inl (k 6, 4, .inr (.inr (.inr (.inr (va_up (va_up (va_up (va_up (fun _ => none) 0 (some x4)) 1 (some x5)) 2 (some x6)) 3 (some x7))))))), (x4, .inl (k 2, 60, .inr (.inl g2)))])) (QV D (S := UT) (fun u => True) (fun u => []) (fun _ => []) [(x0, .inr (4, [.ref x1, .ref x2, .ref x3])), (x1, .inl (k 0, 4, .inl g0)), (x2, .inl (k 0, 4, .inl g1)), (x3, .inl (k 6, 4, .inr (.inr (.inr (.inr (va_up (va_up (va_up (va_up (fun _ => none) 0 (some x4)) 1 (some x5)) 2 (some x6)) 3 (some x7))))))), (x4, .inl (k 2, 60, .inr (.inl g2)))] sz) 0 0 (va_A [(x0, .inr (4, [.ref x1, .ref x2, .ref x3])), (x1, .inl (k 0, 4, .inl g0)), (x2, .inl (k 0, 4, .inl g1)), (x3, .inl (k 6, 4, .inr (.inr (.inr (.inr (va_up (va_up (va_up (va_up (fun _ => none) 0 (some x4)) 1 (some x5)) 2 (some x6)) 3 (some x7))))))), (x4, .inl (k 2, 60, .inr (.inl g2)))] sz) := by
  refine Met.ofW (cc := cX4_begin) (maxL := 4) (ret := none) (by decide) rfl ?_
  intro p e s m args below meth c s₁ B hml hv
  obtain ⟨rfl, hsz, hP, hK, hD0, hN⟩ := hv
  have hx := B.exec
  have hb := B.bytes
  have hr := B.returns
  have hT : ∀ w ∈ TB, w.before ([.ref x0, .int 0, .int p0, .int p1] : List Value).toArray s = true := fun w h => atoms_spec (ws := .code yX4_begin cX4_begin 4 none :: TB) B.pre w (List.mem_cons_of_mem _ h)
  have hown : s.vm.findClass RX4 = some m.cls := findClass_of_methodNamed B.named
  have S : CallFix p m c cX4_begin 4 s _ TB RX4 := ⟨hx, hb, hml, hown, hT⟩
  subst hsz
  have hD := hD0.self (sz := s.heap.size)
  generalize hAe : va_A [(x0, .inr (4, [.ref x1, .ref x2, .ref x3])), (x1, .inl (k 0, 4, .inl g0)), (x2, .inl (k 0, 4, .inl g1)), (x3, .inl (k 6, 4, .inr (.inr (.inr (.inr (va_up (va_up (va_up (va_up (fun _ => none) 0 (some x4)) 1 (some x5)) 2 (some x6)) 3 (some x7))))))), (x4, .inl (k 2, 60, .inr (.inl g2)))] s.heap.size = A at hD ⊢
  have hA : ∀ q : Nat, s.heap.size ≤ q → A q := fun q h => by rw [← hAe]; exact Or.inr h
  have hS : va_S A s.heap s.heap [] := va_S.rf
  have hP : va_P D vwCl [(x0, .inr (4, [.ref x1, .ref x2, .ref x3])), (x1, .inl (k 0, 4, .inl g0)), (x2, .inl (k 0, 4, .inl g1)), (x3, .inl (k 6, 4, .inr (.inr (.inr (.inr (va_up (va_up (va_up (va_up (fun _ => none) 0 (some x4)) 1 (some x5)) 2 (some x6)) 3 (some x7))))))), (x4, .inl (k 2, 60, .inr (.inl g2)))] s.heap := hP
  have hl := lv_entry ([.ref x0, .int 0, .int p0, .int p1]) (n := 4) (Nat.le_of_ble_eq_true rfl)
  rw [lg_entry_eq]
  generalize (lg_sl ([.ref x0, .int 0, .int p0, .int p1]) ++ List.replicate (4 - (lg_sl ([.ref x0, .int 0, .int p0, .int p1])).length) Slot.unset).toArray = ls at hl ⊢
  have hl : lv_has ls 4 [(0, .ref x0), (1, .int 0), (2, .int p0), (3, .int p1)] := hl
  refine lv_aload_n hx hb dX4_begin_0 rfl (lv_at hl 0 rfl) ?_
  refine va_get (D := D) (ci := 4) (v := .ref x1) (C := RX4) (T := TX4) (N := 3) hx hb hT in_X4 hown hK hP 0 rfl rfl 0 (by decide) (hT _ t343) (fun _ h9 => h9) rfl dX4_begin_1 ?_
  refine lv_iload_n hx hb dX4_begin_4 rfl (lv_at hl 1 rfl) ?_
  refine lv_iload_n hx hb dX4_begin_5 rfl (lv_at hl 2 rfl) ?_
  refine va_iast hx hb hK hP hD hS 1 0 rfl rfl (by unfold vp_in; decide) dX4_begin_6 (fun H locs hP9 hD9 hS9 => ?_)
  clear hP hD hS
  have hS := hS9
  have hP := hP9
  have hD := hD9
  clear hP9 hD9 hS9
  obtain ⟨f6_1, hP9, hD9⟩ : ∃ f6_1 : Nat → Int32, va_P D vwCl [(x0, .inr (4, [.ref x1, .ref x2, .ref x3])), (x1, .inl (k 0, 4, .inl f6_1)), (x2, .inl (k 0, 4, .inl g1)), (x3, .inl (k 6, 4, .inr (.inr (.inr (.inr (va_up (va_up (va_up (va_up (fun _ => none) 0 (some x4)) 1 (some x5)) 2 (some x6)) 3 (some x7))))))), (x4, .inl (k 2, 60, .inr (.inl g2)))] H ∧ va_D A [(x0, .inr (4, [.ref x1, .ref x2, .ref x3])), (x1, .inl (k 0, 4, .inl f6_1)), (x2, .inl (k 0, 4, .inl g1)), (x3, .inl (k 6, 4, .inr (.inr (.inr (.inr (va_up (va_up (va_up (va_up (fun _ => none) 0 (some x4)) 1 (some x5)) 2 (some x6)) 3 (some x7))))))), (x4, .inl (k 2, 60, .inr (.inl g2)))] := ⟨_, hP, hD⟩
  clear hP hD
  have hP := hP9
  have hD := hD9
  clear hP9 hD9
  refine lv_aload_n hx hb dX4_begin_7 rfl (lv_at hl 0 rfl) ?_
  refine va_get (D := D) (ci := 4) (v := .ref x2) (C := RX4) (T := TX4) (N := 3) hx hb hT in_X4 hown hK hP 0 rfl rfl 1 (by decide) (hT _ t345) (fun _ h9 => h9) rfl dX4_begin_8 ?_
  refine lv_iload_n hx hb dX4_begin_11 rfl (lv_at hl 1 rfl) ?_
  refine lv_iload_n hx hb dX4_begin_12 rfl (lv_at hl 3 rfl) ?_
  refine va_iast hx hb hK hP hD hS 2 0 rfl rfl (by unfold vp_in; decide) dX4_begin_13 (fun H locs hP9 hD9 hS9 => ?_)
  clear hP hD hS
  have hS := hS9
  have hP := hP9
  have hD := hD9
  clear hP9 hD9 hS9
  obtain ⟨f13_2, hP9, hD9⟩ : ∃ f13_2 : Nat → Int32, va_P D vwCl [(x0, .inr (4, [.ref x1, .ref x2, .ref x3])), (x1, .inl (k 0, 4, .inl f6_1)), (x2, .inl (k 0, 4, .inl f13_2)), (x3, .inl (k 6, 4, .inr (.inr (.inr (.inr (va_up (va_up (va_up (va_up (fun _ => none) 0 (some x4)) 1 (some x5)) 2 (some x6)) 3 (some x7))))))), (x4, .inl (k 2, 60, .inr (.inl g2)))] H ∧ va_D A [(x0, .inr (4, [.ref x1, .ref x2, .ref x3])), (x1, .inl (k 0, 4, .inl f6_1)), (x2, .inl (k 0, 4, .inl f13_2)), (x3, .inl (k 6, 4, .inr (.inr (.inr (.inr (va_up (va_up (va_up (va_up (fun _ => none) 0 (some x4)) 1 (some x5)) 2 (some x6)) 3 (some x7))))))), (x4, .inl (k 2, 60, .inr (.inl g2)))] := ⟨_, hP, hD⟩
  clear hP hD
  have hP := hP9
  have hD := hD9
  clear hP9 hD9
  refine lv_aload_n hx hb dX4_begin_14 rfl (lv_at hl 0 rfl) ?_
  refine va_get (D := D) (ci := 4) (v := .ref x3) (C := RX4) (T := TX4) (N := 3) hx hb hT in_X4 hown hK hP 0 rfl rfl 2 (by decide) (hT _ t347) (fun _ h9 => h9) rfl dX4_begin_15 ?_
  refine lv_iload_n hx hb dX4_begin_18 rfl (lv_at hl 1 rfl) ?_
  refine a_aldl hx hb hK hP 3 6 rfl rfl (by unfold vp_in; decide) dX4_begin_19 ?_
  refine W.eq (g2 := F0 m 20 ls [.ref x4]) rfl ?_
  refine lv_lconst (v := 0) hx hb dX4_begin_20 (by decide) ?_
  refine rw_v (wc := [(x4, .inl (k 2, 60, .inr (.inl g2)))]) (wr := [(x0, .inr (4, [.ref x1, .ref x2, .ref x3])), (x1, .inl (k 0, 4, .inl f6_1)), (x2, .inl (k 0, 4, .inl f13_2)), (x3, .inl (k 6, 4, .inr (.inr (.inr (.inr (va_up (va_up (va_up (va_up (fun _ => none) 0 (some x4)) 1 (some x5)) 2 (some x6)) 3 (some x7)))))))]) [4] [0, 1, 2, 3] rfl rfl (by decide +kernel) (by decide +kernel) (by decide +kernel) hP hD hS hA (fun hPc hDc => run_S (C := RJ7) (As := [.ref x4, .long 0]) (rest := []) S (c_fillJ l D k x4 60 g2 0 (by decide) _) (gdC t1236) t1234 t1235 t109 ok_J7_fill_d0a16 ⟨rfl, rfl, Nat.le_of_ble_eq_true rfl, Nat.le_of_ble_eq_true rfl⟩ (pw_S hK hN hPc hDc) rfl hl.1 rfl (Nat.le_of_ble_eq_true rfl) ⟨Nat.le_of_ble_eq_true rfl, Nat.le_of_ble_eq_true rfl⟩ dX4_begin_21) (fun u21_3 H locs hu21_3 hKu21_3 hP9 hD9 hS9 => ?_)
  clear hP hD hS
  have hS := hS9
  have hP := hP9
  have hD := hD9
  clear hP9 hD9 hS9
  replace hP : va_P D vwCl [(x0, .inr (4, [.ref x1, .ref x2, .ref x3])), (x1, .inl (k 0, 4, .inl f6_1)), (x2, .inl (k 0, 4, .inl f13_2)), (x3, .inl (k 6, 4, .inr (.inr (.inr (.inr (va_up (va_up (va_up (va_up (fun _ => none) 0 (some x4)) 1 (some x5)) 2 (some x6)) 3 (some x7))))))), (x4, .inl (k 2, 60, .inr (.inl u21_3)))] H := hP
  replace hD : va_D A [(x0, .inr (4, [.ref x1, .ref x2, .ref x3])), (x1, .inl (k 0, 4, .inl f6_1)), (x2, .inl (k 0, 4, .inl f13_2)), (x3, .inl (k 6, 4, .inr (.inr (.inr (.inr (va_up (va_up (va_up (va_up (fun _ => none) 0 (some x4)) 1 (some x5)) 2 (some x6)) 3 (some x7))))))), (x4, .inl (k 2, 60, .inr (.inl u21_3)))] := hD
  have hP9 := hP.sub (ws' := []) [] rfl
  have hD9 := d_sub (ws' := []) hD [] (by decide +kernel) rfl
  have hK9 := hK.sub (tys' := []) [] rfl
  exact W.vret hx hb hr (fun t ht hW => ⟨⟨mkU [] [], rfl, trivial, by rw [ht]; exact hP9, va_K.moved hW.alike hK9, by rw [hAe]; exact hD9⟩, by rw [hAe]; exact hS.F ht⟩) hS.2.2 dX4_begin_24
set_option maxHeartbeats 4000000 in
set_option maxRecDepth 100000 in
theorem c_X4_beginW1 (l : Launch) (D : va_G) (k : Nat → ClassId) (x0 x1 x2 x3 x4 x5 x6 x7 : Nat) (g0 : Nat → Int32) (g1 : Nat → Int32) (g2 : Nat → Int64) (p0 p1 : Int32) (sz : Nat) : Met l yX4_begin (.code yX4_begin cX4_begin 4 none :: TB) (rmw 2 0 0) (va_Pc [.ref x0, .int 1, .int p0, .int p1] (PW D k sz [(x0, .inr (4, [.ref x1, .ref x2, .ref x3])), (x1, .inl (k 0, 4, .inl g0)), (x2, .inl (k 0, 4, .inl g1)), (x3, .inl (k 6, 4, .inr (.inr (.inr (.inr (va_up (va_up (va_up (va_up (fun _ => none) 0 (some x4)) 1 (some x5)) 2 (some x6)) 3 (some x7))))))), (x5, .inl (k 2, 60, .inr (.inl g2)))])) (QV D (S := UT) (fun u => True) (fun u => []) (fun _ => []) [(x0, .inr (4, [.ref x1, .ref x2, .ref x3])), (x1, .inl (k 0, 4, .inl g0)), (x2, .inl (k 0, 4, .inl g1)), (x3, .inl (k 6, 4, .inr (.inr (.inr (.inr (va_up (va_up (va_up (va_up (fun _ => none) 0 (some x4)) 1 (some x5)) 2 (some x6)) 3 (some x7))))))), (x5, .inl (k 2, 60, .inr (.inl g2)))] sz) 0 0 (va_A [(x0, .inr (4, [.ref x1, .ref x2, .ref x3])), (x1, .inl (k 0, 4, .inl g0)), (x2, .inl (k 0, 4, .inl g1)), (x3, .inl (k 6, 4, .inr (.inr (.inr (.inr (va_up (va_up (va_up (va_up (fun _ => none) 0 (some x4)) 1 (some x5)) 2 (some x6)) 3 (some x7))))))), (x5, .inl (k 2, 60, .inr (.inl g2)))] sz) := by
  refine Met.ofW (cc := cX4_begin) (maxL := 4) (ret := none) (by decide) rfl ?_
  intro p e s m args below meth c s₁ B hml hv
  obtain ⟨rfl, hsz, hP, hK, hD0, hN⟩ := hv
  have hx := B.exec
  have hb := B.bytes
  have hr := B.returns
  have hT : ∀ w ∈ TB, w.before ([.ref x0, .int 1, .int p0, .int p1] : List Value).toArray s = true := fun w h => atoms_spec (ws := .code yX4_begin cX4_begin 4 none :: TB) B.pre w (List.mem_cons_of_mem _ h)
  have hown : s.vm.findClass RX4 = some m.cls := findClass_of_methodNamed B.named
  have S : CallFix p m c cX4_begin 4 s _ TB RX4 := ⟨hx, hb, hml, hown, hT⟩
  subst hsz
  have hD := hD0.self (sz := s.heap.size)
  generalize hAe : va_A [(x0, .inr (4, [.ref x1, .ref x2, .ref x3])), (x1, .inl (k 0, 4, .inl g0)), (x2, .inl (k 0, 4, .inl g1)), (x3, .inl (k 6, 4, .inr (.inr (.inr (.inr (va_up (va_up (va_up (va_up (fun _ => none) 0 (some x4)) 1 (some x5)) 2 (some x6)) 3 (some x7))))))), (x5, .inl (k 2, 60, .inr (.inl g2)))] s.heap.size = A at hD ⊢
  have hA : ∀ q : Nat, s.heap.size ≤ q → A q := fun q h => by rw [← hAe]; exact Or.inr h
  have hS : va_S A s.heap s.heap [] := va_S.rf
  have hP : va_P D vwCl [(x0, .inr (4, [.ref x1, .ref x2, .ref x3])), (x1, .inl (k 0, 4, .inl g0)), (x2, .inl (k 0, 4, .inl g1)), (x3, .inl (k 6, 4, .inr (.inr (.inr (.inr (va_up (va_up (va_up (va_up (fun _ => none) 0 (some x4)) 1 (some x5)) 2 (some x6)) 3 (some x7))))))), (x5, .inl (k 2, 60, .inr (.inl g2)))] s.heap := hP
  have hl := lv_entry ([.ref x0, .int 1, .int p0, .int p1]) (n := 4) (Nat.le_of_ble_eq_true rfl)
  rw [lg_entry_eq]
  generalize (lg_sl ([.ref x0, .int 1, .int p0, .int p1]) ++ List.replicate (4 - (lg_sl ([.ref x0, .int 1, .int p0, .int p1])).length) Slot.unset).toArray = ls at hl ⊢
  have hl : lv_has ls 4 [(0, .ref x0), (1, .int 1), (2, .int p0), (3, .int p1)] := hl
  refine lv_aload_n hx hb dX4_begin_0 rfl (lv_at hl 0 rfl) ?_
  refine va_get (D := D) (ci := 4) (v := .ref x1) (C := RX4) (T := TX4) (N := 3) hx hb hT in_X4 hown hK hP 0 rfl rfl 0 (by decide) (hT _ t343) (fun _ h9 => h9) rfl dX4_begin_1 ?_
  refine lv_iload_n hx hb dX4_begin_4 rfl (lv_at hl 1 rfl) ?_
  refine lv_iload_n hx hb dX4_begin_5 rfl (lv_at hl 2 rfl) ?_
  refine va_iast hx hb hK hP hD hS 1 0 rfl rfl (by unfold vp_in; decide) dX4_begin_6 (fun H locs hP9 hD9 hS9 => ?_)
  clear hP hD hS
  have hS := hS9
  have hP := hP9
  have hD := hD9
  clear hP9 hD9 hS9
  obtain ⟨f6_1, hP9, hD9⟩ : ∃ f6_1 : Nat → Int32, va_P D vwCl [(x0, .inr (4, [.ref x1, .ref x2, .ref x3])), (x1, .inl (k 0, 4, .inl f6_1)), (x2, .inl (k 0, 4, .inl g1)), (x3, .inl (k 6, 4, .inr (.inr (.inr (.inr (va_up (va_up (va_up (va_up (fun _ => none) 0 (some x4)) 1 (some x5)) 2 (some x6)) 3 (some x7))))))), (x5, .inl (k 2, 60, .inr (.inl g2)))] H ∧ va_D A [(x0, .inr (4, [.ref x1, .ref x2, .ref x3])), (x1, .inl (k 0, 4, .inl f6_1)), (x2, .inl (k 0, 4, .inl g1)), (x3, .inl (k 6, 4, .inr (.inr (.inr (.inr (va_up (va_up (va_up (va_up (fun _ => none) 0 (some x4)) 1 (some x5)) 2 (some x6)) 3 (some x7))))))), (x5, .inl (k 2, 60, .inr (.inl g2)))] := ⟨_, hP, hD⟩
  clear hP hD
  have hP := hP9
  have hD := hD9
  clear hP9 hD9
  refine lv_aload_n hx hb dX4_begin_7 rfl (lv_at hl 0 rfl) ?_
  refine va_get (D := D) (ci := 4) (v := .ref x2) (C := RX4) (T := TX4) (N := 3) hx hb hT in_X4 hown hK hP 0 rfl rfl 1 (by decide) (hT _ t345) (fun _ h9 => h9) rfl dX4_begin_8 ?_
  refine lv_iload_n hx hb dX4_begin_11 rfl (lv_at hl 1 rfl) ?_
  refine lv_iload_n hx hb dX4_begin_12 rfl (lv_at hl 3 rfl) ?_
  refine va_iast hx hb hK hP hD hS 2 0 rfl rfl (by unfold vp_in; decide) dX4_begin_13 (fun H locs hP9 hD9 hS9 => ?_)
  clear hP hD hS
  have hS := hS9
  have hP := hP9
  have hD := hD9
  clear hP9 hD9 hS9
  obtain ⟨f13_2, hP9, hD9⟩ : ∃ f13_2 : Nat → Int32, va_P D vwCl [(x0, .inr (4, [.ref x1, .ref x2, .ref x3])), (x1, .inl (k 0, 4, .inl f6_1)), (x2, .inl (k 0, 4, .inl f13_2)), (x3, .inl (k 6, 4, .inr (.inr (.inr (.inr (va_up (va_up (va_up (va_up (fun _ => none) 0 (some x4)) 1 (some x5)) 2 (some x6)) 3 (some x7))))))), (x5, .inl (k 2, 60, .inr (.inl g2)))] H ∧ va_D A [(x0, .inr (4, [.ref x1, .ref x2, .ref x3])), (x1, .inl (k 0, 4, .inl f6_1)), (x2, .inl (k 0, 4, .inl f13_2)), (x3, .inl (k 6, 4, .inr (.inr (.inr (.inr (va_up (va_up (va_up (va_up (fun _ => none) 0 (some x4)) 1 (some x5)) 2 (some x6)) 3 (some x7))))))), (x5, .inl (k 2, 60, .inr (.inl g2)))] := ⟨_, hP, hD⟩
  clear hP hD
  have hP := hP9
  have hD := hD9
  clear hP9 hD9
  refine lv_aload_n hx hb dX4_begin_14 rfl (lv_at hl 0 rfl) ?_
  refine va_get (D := D) (ci := 4) (v := .ref x3) (C := RX4) (T := TX4) (N := 3) hx hb hT in_X4 hown hK hP 0 rfl rfl 2 (by decide) (hT _ t347) (fun _ h9 => h9) rfl dX4_begin_15 ?_
  refine lv_iload_n hx hb dX4_begin_18 rfl (lv_at hl 1 rfl) ?_
  refine a_aldl hx hb hK hP 3 6 rfl rfl (by unfold vp_in; decide) dX4_begin_19 ?_
  refine W.eq (g2 := F0 m 20 ls [.ref x5]) rfl ?_
  refine lv_lconst (v := 0) hx hb dX4_begin_20 (by decide) ?_
  refine rw_v (wc := [(x5, .inl (k 2, 60, .inr (.inl g2)))]) (wr := [(x0, .inr (4, [.ref x1, .ref x2, .ref x3])), (x1, .inl (k 0, 4, .inl f6_1)), (x2, .inl (k 0, 4, .inl f13_2)), (x3, .inl (k 6, 4, .inr (.inr (.inr (.inr (va_up (va_up (va_up (va_up (fun _ => none) 0 (some x4)) 1 (some x5)) 2 (some x6)) 3 (some x7)))))))]) [4] [0, 1, 2, 3] rfl rfl (by decide +kernel) (by decide +kernel) (by decide +kernel) hP hD hS hA (fun hPc hDc => run_S (C := RJ7) (As := [.ref x5, .long 0]) (rest := []) S (c_fillJ l D k x5 60 g2 0 (by decide) _) (gdC t1236) t1234 t1235 t109 ok_J7_fill_d0a16 ⟨rfl, rfl, Nat.le_of_ble_eq_true rfl, Nat.le_of_ble_eq_true rfl⟩ (pw_S hK hN hPc hDc) rfl hl.1 rfl (Nat.le_of_ble_eq_true rfl) ⟨Nat.le_of_ble_eq_true rfl, Nat.le_of_ble_eq_true rfl⟩ dX4_begin_21) (fun u21_3 H locs hu21_3 hKu21_3 hP9 hD9 hS9 => ?_)
  clear hP hD hS
  have hS := hS9
  have hP := hP9
  have hD := hD9
  clear hP9 hD9 hS9
  replace hP : va_P D vwCl [(x0, .inr (4, [.ref x1, .ref x2, .ref x3])), (x1, .inl (k 0, 4, .inl f6_1)), (x2, .inl (k 0, 4, .inl f13_2)), (x3, .inl (k 6, 4, .inr (.inr (.inr (.inr (va_up (va_up (va_up (va_up (fun _ => none) 0 (some x4)) 1 (some x5)) 2 (some x6)) 3 (some x7))))))), (x5, .inl (k 2, 60, .inr (.inl u21_3)))] H := hP
  replace hD : va_D A [(x0, .inr (4, [.ref x1, .ref x2, .ref x3])), (x1, .inl (k 0, 4, .inl f6_1)), (x2, .inl (k 0, 4, .inl f13_2)), (x3, .inl (k 6, 4, .inr (.inr (.inr (.inr (va_up (va_up (va_up (va_up (fun _ => none) 0 (some x4)) 1 (some x5)) 2 (some x6)) 3 (some x7))))))), (x5, .inl (k 2, 60, .inr (.inl u21_3)))] := hD
  have hP9 := hP.sub (ws' := []) [] rfl
  have hD9 := d_sub (ws' := []) hD [] (by decide +kernel) rfl
  have hK9 := hK.sub (tys' := []) [] rfl
  exact W.vret hx hb hr (fun t ht hW => ⟨⟨mkU [] [], rfl, trivial, by rw [ht]; exact hP9, va_K.moved hW.alike hK9, by rw [hAe]; exact hD9⟩, by rw [hAe]; exact hS.F ht⟩) hS.2.2 dX4_begin_24
set_option maxHeartbeats 4000000 in
set_option maxRecDepth 100000 in
theorem c_X4_beginW2 (l : Launch) (D : va_G) (k : Nat → ClassId) (x0 x1 x2 x3 x4 x5 x6 x7 : Nat) (g0 : Nat → Int32) (g1 : Nat → Int32) (g2 : Nat → Int64) (p0 p1 : Int32) (sz : Nat) : Met l yX4_begin (.code yX4_begin cX4_begin 4 none :: TB) (rmw 2 0 0) (va_Pc [.ref x0, .int 2, .int p0, .int p1] (PW D k sz [(x0, .inr (4, [.ref x1, .ref x2, .ref x3])), (x1, .inl (k 0, 4, .inl g0)), (x2, .inl (k 0, 4, .inl g1)), (x3, .inl (k 6, 4, .inr (.inr (.inr (.inr (va_up (va_up (va_up (va_up (fun _ => none) 0 (some x4)) 1 (some x5)) 2 (some x6)) 3 (some x7))))))), (x6, .inl (k 2, 60, .inr (.inl g2)))])) (QV D (S := UT) (fun u => True) (fun u => []) (fun _ => []) [(x0, .inr (4, [.ref x1, .ref x2, .ref x3])), (x1, .inl (k 0, 4, .inl g0)), (x2, .inl (k 0, 4, .inl g1)), (x3, .inl (k 6, 4, .inr (.inr (.inr (.inr (va_up (va_up (va_up (va_up (fun _ => none) 0 (some x4)) 1 (some x5)) 2 (some x6)) 3 (some x7))))))), (x6, .inl (k 2, 60, .inr (.inl g2)))] sz) 0 0 (va_A [(x0, .inr (4, [.ref x1, .ref x2, .ref x3])), (x1, .inl (k 0, 4, .inl g0)), (x2, .inl (k 0, 4, .inl g1)), (x3, .inl (k 6, 4, .inr (.inr (.inr (.inr (va_up (va_up (va_up (va_up (fun _ => none) 0 (some x4)) 1 (some x5)) 2 (some x6)) 3 (some x7))))))), (x6, .inl (k 2, 60, .inr (.inl g2)))] sz) := by
  refine Met.ofW (cc := cX4_begin) (maxL := 4) (ret := none) (by decide) rfl ?_
  intro p e s m args below meth c s₁ B hml hv
  obtain ⟨rfl, hsz, hP, hK, hD0, hN⟩ := hv
  have hx := B.exec
  have hb := B.bytes
  have hr := B.returns
  have hT : ∀ w ∈ TB, w.before ([.ref x0, .int 2, .int p0, .int p1] : List Value).toArray s = true := fun w h => atoms_spec (ws := .code yX4_begin cX4_begin 4 none :: TB) B.pre w (List.mem_cons_of_mem _ h)
  have hown : s.vm.findClass RX4 = some m.cls := findClass_of_methodNamed B.named
  have S : CallFix p m c cX4_begin 4 s _ TB RX4 := ⟨hx, hb, hml, hown, hT⟩
  subst hsz
  have hD := hD0.self (sz := s.heap.size)
  generalize hAe : va_A [(x0, .inr (4, [.ref x1, .ref x2, .ref x3])), (x1, .inl (k 0, 4, .inl g0)), (x2, .inl (k 0, 4, .inl g1)), (x3, .inl (k 6, 4, .inr (.inr (.inr (.inr (va_up (va_up (va_up (va_up (fun _ => none) 0 (some x4)) 1 (some x5)) 2 (some x6)) 3 (some x7))))))), (x6, .inl (k 2, 60, .inr (.inl g2)))] s.heap.size = A at hD ⊢
  have hA : ∀ q : Nat, s.heap.size ≤ q → A q := fun q h => by rw [← hAe]; exact Or.inr h
  have hS : va_S A s.heap s.heap [] := va_S.rf
  have hP : va_P D vwCl [(x0, .inr (4, [.ref x1, .ref x2, .ref x3])), (x1, .inl (k 0, 4, .inl g0)), (x2, .inl (k 0, 4, .inl g1)), (x3, .inl (k 6, 4, .inr (.inr (.inr (.inr (va_up (va_up (va_up (va_up (fun _ => none) 0 (some x4)) 1 (some x5)) 2 (some x6)) 3 (some x7))))))), (x6, .inl (k 2, 60, .inr (.inl g2)))] s.heap := hP
  have hl := lv_entry ([.ref x0, .int 2, .int p0, .int p1]) (n := 4) (Nat.le_of_ble_eq_true rfl)
  rw [lg_entry_eq]
  generalize (lg_sl ([.ref x0, .int 2, .int p0, .int p1]) ++ List.replicate (4 - (lg_sl ([.ref x0, .int 2, .int p0, .int p1])).length) Slot.unset).toArray = ls at hl ⊢
  have hl : lv_has ls 4 [(0, .ref x0), (1, .int 2), (2, .int p0), (3, .int p1)] := hl
  refine lv_aload_n hx hb dX4_begin_0 rfl (lv_at hl 0 rfl) ?_
  refine va_get (D := D) (ci := 4) (v := .ref x1) (C := RX4) (T := TX4) (N := 3) hx hb hT in_X4 hown hK hP 0 rfl rfl 0 (by decide) (hT _ t343) (fun _ h9 => h9) rfl dX4_begin_1 ?_
  refine lv_iload_n hx hb dX4_begin_4 rfl (lv_at hl 1 rfl) ?_
  refine lv_iload_n hx hb dX4_begin_5 rfl (lv_at hl 2 rfl) ?_
  refine va_iast hx hb hK hP hD hS 1 0 rfl rfl (by unfold vp_in; decide) dX4_begin_6 (fun H locs hP9 hD9 hS9 => ?_)
  clear hP hD hS
  have hS := hS9
  have hP := hP9
  have hD := hD9
  clear hP9 hD9 hS9
  obtain ⟨f6_1, hP9, hD9⟩ : ∃ f6_1 : Nat → Int32, va_P D vwCl [(x0, .inr (4, [.ref x1, .ref x2, .ref x3])), (x1, .inl (k 0, 4, .inl f6_1)), (x2, .inl (k 0, 4, .inl g1)), (x3, .inl (k 6, 4, .inr (.inr (.inr (.inr (va_up (va_up (va_up (va_up (fun _ => none) 0 (some x4)) 1 (some x5)) 2 (some x6)) 3 (some x7))))))), (x6, .inl (k 2, 60, .inr (.inl g2)))] H ∧ va_D A [(x0, .inr (4, [.ref x1, .ref x2, .ref x3])), (x1, .inl (k 0, 4, .inl f6_1)), (x2, .inl (k 0, 4, .inl g1)), (x3, .inl (k 6, 4, .inr (.inr (.inr (.inr (va_up (va_up (va_up (va_up (fun _ => none) 0 (some x4)) 1 (some x5)) 2 (some x6)) 3 (some x7))))))), (x6, .inl (k 2, 60, .inr (.inl g2)))] := ⟨_, hP, hD⟩
  clear hP hD
  have hP := hP9
  have hD := hD9
  clear hP9 hD9
  refine lv_aload_n hx hb dX4_begin_7 rfl (lv_at hl 0 rfl) ?_
  refine va_get (D := D) (ci := 4) (v := .ref x2) (C := RX4) (T := TX4) (N := 3) hx hb hT in_X4 hown hK hP 0 rfl rfl 1 (by decide) (hT _ t345) (fun _ h9 => h9) rfl dX4_begin_8 ?_
  refine lv_iload_n hx hb dX4_begin_11 rfl (lv_at hl 1 rfl) ?_
  refine lv_iload_n hx hb dX4_begin_12 rfl (lv_at hl 3 rfl) ?_
  refine va_iast hx hb hK hP hD hS 2 0 rfl rfl (by unfold vp_in; decide) dX4_begin_13 (fun H locs hP9 hD9 hS9 => ?_)
  clear hP hD hS
  have hS := hS9
  have hP := hP9
  have hD := hD9
  clear hP9 hD9 hS9
  obtain ⟨f13_2, hP9, hD9⟩ : ∃ f13_2 : Nat → Int32, va_P D vwCl [(x0, .inr (4, [.ref x1, .ref x2, .ref x3])), (x1, .inl (k 0, 4, .inl f6_1)), (x2, .inl (k 0, 4, .inl f13_2)), (x3, .inl (k 6, 4, .inr (.inr (.inr (.inr (va_up (va_up (va_up (va_up (fun _ => none) 0 (some x4)) 1 (some x5)) 2 (some x6)) 3 (some x7))))))), (x6, .inl (k 2, 60, .inr (.inl g2)))] H ∧ va_D A [(x0, .inr (4, [.ref x1, .ref x2, .ref x3])), (x1, .inl (k 0, 4, .inl f6_1)), (x2, .inl (k 0, 4, .inl f13_2)), (x3, .inl (k 6, 4, .inr (.inr (.inr (.inr (va_up (va_up (va_up (va_up (fun _ => none) 0 (some x4)) 1 (some x5)) 2 (some x6)) 3 (some x7))))))), (x6, .inl (k 2, 60, .inr (.inl g2)))] := ⟨_, hP, hD⟩
  clear hP hD
  have hP := hP9
  have hD := hD9
  clear hP9 hD9
  refine lv_aload_n hx hb dX4_begin_14 rfl (lv_at hl 0 rfl) ?_
  refine va_get (D := D) (ci := 4) (v := .ref x3) (C := RX4) (T := TX4) (N := 3) hx hb hT in_X4 hown hK hP 0 rfl rfl 2 (by decide) (hT _ t347) (fun _ h9 => h9) rfl dX4_begin_15 ?_
  refine lv_iload_n hx hb dX4_begin_18 rfl (lv_at hl 1 rfl) ?_
  refine a_aldl hx hb hK hP 3 6 rfl rfl (by unfold vp_in; decide) dX4_begin_19 ?_
  refine W.eq (g2 := F0 m 20 ls [.ref x6]) rfl ?_
  refine lv_lconst (v := 0) hx hb dX4_begin_20 (by decide) ?_
  refine rw_v (wc := [(x6, .inl (k 2, 60, .inr (.inl g2)))]) (wr := [(x0, .inr (4, [.ref x1, .ref x2, .ref x3])), (x1, .inl (k 0, 4, .inl f6_1)), (x2, .inl (k 0, 4, .inl f13_2)), (x3, .inl (k 6, 4, .inr (.inr (.inr (.inr (va_up (va_up (va_up (va_up (fun _ => none) 0 (some x4)) 1 (some x5)) 2 (some x6)) 3 (some x7)))))))]) [4] [0, 1, 2, 3] rfl rfl (by decide +kernel) (by decide +kernel) (by decide +kernel) hP hD hS hA (fun hPc hDc => run_S (C := RJ7) (As := [.ref x6, .long 0]) (rest := []) S (c_fillJ l D k x6 60 g2 0 (by decide) _) (gdC t1236) t1234 t1235 t109 ok_J7_fill_d0a16 ⟨rfl, rfl, Nat.le_of_ble_eq_true rfl, Nat.le_of_ble_eq_true rfl⟩ (pw_S hK hN hPc hDc) rfl hl.1 rfl (Nat.le_of_ble_eq_true rfl) ⟨Nat.le_of_ble_eq_true rfl, Nat.le_of_ble_eq_true rfl⟩ dX4_begin_21) (fun u21_3 H locs hu21_3 hKu21_3 hP9 hD9 hS9 => ?_)
  clear hP hD hS
  have hS := hS9
  have hP := hP9
  have hD := hD9
  clear hP9 hD9 hS9
  replace hP : va_P D vwCl [(x0, .inr (4, [.ref x1, .ref x2, .ref x3])), (x1, .inl (k 0, 4, .inl f6_1)), (x2, .inl (k 0, 4, .inl f13_2)), (x3, .inl (k 6, 4, .inr (.inr (.inr (.inr (va_up (va_up (va_up (va_up (fun _ => none) 0 (some x4)) 1 (some x5)) 2 (some x6)) 3 (some x7))))))), (x6, .inl (k 2, 60, .inr (.inl u21_3)))] H := hP
  replace hD : va_D A [(x0, .inr (4, [.ref x1, .ref x2, .ref x3])), (x1, .inl (k 0, 4, .inl f6_1)), (x2, .inl (k 0, 4, .inl f13_2)), (x3, .inl (k 6, 4, .inr (.inr (.inr (.inr (va_up (va_up (va_up (va_up (fun _ => none) 0 (some x4)) 1 (some x5)) 2 (some x6)) 3 (some x7))))))), (x6, .inl (k 2, 60, .inr (.inl u21_3)))] := hD
  have hP9 := hP.sub (ws' := []) [] rfl
  have hD9 := d_sub (ws' := []) hD [] (by decide +kernel) rfl
  have hK9 := hK.sub (tys' := []) [] rfl
  exact W.vret hx hb hr (fun t ht hW => ⟨⟨mkU [] [], rfl, trivial, by rw [ht]; exact hP9, va_K.moved hW.alike hK9, by rw [hAe]; exact hD9⟩, by rw [hAe]; exact hS.F ht⟩) hS.2.2 dX4_begin_24
set_option maxHeartbeats 4000000 in
set_option maxRecDepth 100000 in
theorem c_X4_beginW3 (l : Launch) (D : va_G) (k : Nat → ClassId) (x0 x1 x2 x3 x4 x5 x6 x7 : Nat) (g0 : Nat → Int32) (g1 : Nat → Int32) (g2 : Nat → Int64) (p0 p1 : Int32) (sz : Nat) : Met l yX4_begin (.code yX4_begin cX4_begin 4 none :: TB) (rmw 2 0 0) (va_Pc [.ref x0, .int 3, .int p0, .int p1] (PW D k sz [(x0, .inr (4, [.ref x1, .ref x2, .ref x3])), (x1, .inl (k 0, 4, .inl g0)), (x2, .inl (k 0, 4, .inl g1)), (x3, .inl (k 6, 4, .inr (.inr (.inr (.inr (va_up (va_up (va_up (va_up (fun _ => none) 0 (some x4)) 1 (some x5)) 2 (some x6)) 3 (some x7))))))), (x7, .inl (k 2, 60, .inr (.inl g2)))])) (QV D (S := UT) (fun u => True) (fun u => []) (fun _ => []) [(x0, .inr (4, [.ref x1, .ref x2, .ref x3])), (x1, .inl (k 0, 4, .inl g0)), (x2, .inl (k 0, 4, .inl g1)), (x3, .inl (k 6, 4, .inr (.inr (.inr (.inr (va_up (va_up (va_up (va_up (fun _ => none) 0 (some x4)) 1 (some x5)) 2 (some x6)) 3 (some x7))))))), (x7, .inl (k 2, 60, .inr (.inl g2)))] sz) 0 0 (va_A [(x0, .inr (4, [.ref x1, .ref x2, .ref x3])), (x1, .inl (k 0, 4, .inl g0)), (x2, .inl (k 0, 4, .inl g1)), (x3, .inl (k 6, 4, .inr (.inr (.inr (.inr (va_up (va_up (va_up (va_up (fun _ => none) 0 (some x4)) 1 (some x5)) 2 (some x6)) 3 (some x7))))))), (x7, .inl (k 2, 60, .inr (.inl g2)))] sz) := by
  refine Met.ofW (cc := cX4_begin) (maxL := 4) (ret := none) (by decide) rfl ?_
  intro p e s m args below meth c s₁ B hml hv
  obtain ⟨rfl, hsz, hP, hK, hD0, hN⟩ := hv
  have hx := B.exec
  have hb := B.bytes
  have hr := B.returns
  have hT : ∀ w ∈ TB, w.before ([.ref x0, .int 3, .int p0, .int p1] : List Value).toArray s = true := fun w h => atoms_spec (ws := .code yX4_begin cX4_begin 4 none :: TB) B.pre w (List.mem_cons_of_mem _ h)
  have hown : s.vm.findClass RX4 = some m.cls := findClass_of_methodNamed B.named
  have S : CallFix p m c cX4_begin 4 s _ TB RX4 := ⟨hx, hb, hml, hown, hT⟩
  subst hsz
  have hD := hD0.self (sz := s.heap.size)
  generalize hAe : va_A [(x0, .inr (4, [.ref x1, .ref x2, .ref x3])), (x1, .inl (k 0, 4, .inl g0)), (x2, .inl (k 0, 4, .inl g1)), (x3, .inl (k 6, 4, .inr (.inr (.inr (.inr (va_up (va_up (va_up (va_up (fun _ => none) 0 (some x4)) 1 (some x5)) 2 (some x6)) 3 (some x7))))))), (x7, .inl (k 2, 60, .inr (.inl g2)))] s.heap.size = A at hD ⊢
  have hA : ∀ q : Nat, s.heap.size ≤ q → A q := fun q h => by rw [← hAe]; exact Or.inr h
  have hS : va_S A s.heap s.heap [] := va_S.rf
  have hP : va_P D vwCl [(x0, .inr (4, [.ref x1, .ref x2, .ref x3])), (x1, .inl (k 0, 4, .inl g0)), (x2, .inl (k 0, 4, .inl g1)), (x3, .inl (k 6, 4, .inr (.inr (.inr (.inr (va_up (va_up (va_up (va_up (fun _ => none) 0 (some x4)) 1 (some x5)) 2 (some x6)) 3 (some x7))))))), (x7, .inl (k 2, 60, .inr (.inl g2)))] s.heap := hP
  have hl := lv_entry ([.ref x0, .int 3, .int p0, .int p1]) (n := 4) (Nat.le_of_ble_eq_true rfl)
  rw [lg_entry_eq]
  generalize (lg_sl ([.ref x0, .int 3, .int p0, .int p1]) ++ List.replicate (4 - (lg_sl ([.ref x0, .int 3, .int p0, .int p1])).length) Slot.unset).toArray = ls at hl ⊢
  have hl : lv_has ls 4 [(0, .ref x0), (1, .int 3), (2, .int p0), (3, .int p1)] := hl
  refine lv_aload_n hx hb dX4_begin_0 rfl (lv_at hl 0 rfl) ?_
  refine va_get (D := D) (ci := 4) (v := .ref x1) (C := RX4) (T := TX4) (N := 3) hx hb hT in_X4 hown hK hP 0 rfl rfl 0 (by decide) (hT _ t343) (fun _ h9 => h9) rfl dX4_begin_1 ?_
  refine lv_iload_n hx hb dX4_begin_4 rfl (lv_at hl 1 rfl) ?_
  refine lv_iload_n hx hb dX4_begin_5 rfl (lv_at hl 2 rfl) ?_
  refine va_iast hx hb hK hP hD hS 1 0 rfl rfl (by unfold vp_in; decide) dX4_begin_6 (fun H locs hP9 hD9 hS9 => ?_)
  clear hP hD hS
  have hS := hS9
  have hP := hP9
  have hD := hD9
  clear hP9 hD9 hS9
  obtain ⟨f6_1, hP9, hD9⟩ : ∃ f6_1 : Nat → Int32, va_P D vwCl [(x0, .inr (4, [.ref x1, .ref x2, .ref x3])), (x1, .inl (k 0, 4, .inl f6_1)), (x2, .inl (k 0, 4, .inl g1)), (x3, .inl (k 6, 4, .inr (.inr (.inr (.inr (va_up (va_up (va_up (va_up (fun _ => none) 0 (some x4)) 1 (some x5)) 2 (some x6)) 3 (some x7))))))), (x7, .inl (k 2, 60, .inr (.inl g2)))] H ∧ va_D A [(x0, .inr (4, [.ref x1, .ref x2, .ref x3])), (x1, .inl (k 0, 4, .inl f6_1)), (x2, .inl (k 0, 4, .inl g1)), (x3, .inl (k 6, 4, .inr (.inr (.inr (.inr (va_up (va_up (va_up (va_up (fun _ => none) 0 (some x4)) 1 (some x5)) 2 (some x6)) 3 (some x7))))))), (x7, .inl (k 2, 60, .inr (.inl g2)))] := ⟨_, hP, hD⟩
  clear hP hD
  have hP := hP9
  have hD := hD9
  clear hP9 hD9
  refine lv_aload_n hx hb dX4_begin_7 rfl (lv_at hl 0 rfl) ?_
  refine va_get (D := D) (ci := 4) (v := .ref x2) (C := RX4) (T := TX4) (N := 3) hx hb hT in_X4 hown hK hP 0 rfl rfl 1 (by decide) (hT _ t345) (fun _ h9 => h9) rfl dX4_begin_8 ?_
  refine lv_iload_n hx hb dX4_begin_11 rfl (lv_at hl 1 rfl) ?_
  refine lv_iload_n hx hb dX4_begin_12 rfl (lv_at hl 3 rfl) ?_
  refine va_iast hx hb hK hP hD hS 2 0 rfl rfl (by unfold vp_in; decide) dX4_begin_13 (fun H locs hP9 hD9 hS9 => ?_)
  clear hP hD hS
  have hS := hS9
  have hP := hP9
  have hD := hD9
  clear hP9 hD9 hS9
  obtain ⟨f13_2, hP9, hD9⟩ : ∃ f13_2 : Nat → Int32, va_P D vwCl [(x0, .inr (4, [.ref x1, .ref x2, .ref x3])), (x1, .inl (k 0, 4, .inl f6_1)), (x2, .inl (k 0, 4, .inl f13_2)), (x3, .inl (k 6, 4, .inr (.inr (.inr (.inr (va_up (va_up (va_up (va_up (fun _ => none) 0 (some x4)) 1 (some x5)) 2 (some x6)) 3 (some x7))))))), (x7, .inl (k 2, 60, .inr (.inl g2)))] H ∧ va_D A [(x0, .inr (4, [.ref x1, .ref x2, .ref x3])), (x1, .inl (k 0, 4, .inl f6_1)), (x2, .inl (k 0, 4, .inl f13_2)), (x3, .inl (k 6, 4, .inr (.inr (.inr (.inr (va_up (va_up (va_up (va_up (fun _ => none) 0 (some x4)) 1 (some x5)) 2 (some x6)) 3 (some x7))))))), (x7, .inl (k 2, 60, .inr (.inl g2)))] := ⟨_, hP, hD⟩
  clear hP hD
  have hP := hP9
  have hD := hD9
  clear hP9 hD9
  refine lv_aload_n hx hb dX4_begin_14 rfl (lv_at hl 0 rfl) ?_
  refine va_get (D := D) (ci := 4) (v := .ref x3) (C := RX4) (T := TX4) (N := 3) hx hb hT in_X4 hown hK hP 0 rfl rfl 2 (by decide) (hT _ t347) (fun _ h9 => h9) rfl dX4_begin_15 ?_
  refine lv_iload_n hx hb dX4_begin_18 rfl (lv_at hl 1 rfl) ?_
  refine a_aldl hx hb hK hP 3 6 rfl rfl (by unfold vp_in; decide) dX4_begin_19 ?_
  refine W.eq (g2 := F0 m 20 ls [.ref x7]) rfl ?_
  refine lv_lconst (v := 0) hx hb dX4_begin_20 (by decide) ?_
  refine rw_v (wc := [(x7, .inl (k 2, 60, .inr (.inl g2)))]) (wr := [(x0, .inr (4, [.ref x1, .ref x2, .ref x3])), (x1, .inl (k 0, 4, .inl f6_1)), (x2, .inl (k 0, 4, .inl f13_2)), (x3, .inl (k 6, 4, .inr (.inr (.inr (.inr (va_up (va_up (va_up (va_up (fun _ => none) 0 (some x4)) 1 (some x5)) 2 (some x6)) 3 (some x7)))))))]) [4] [0, 1, 2, 3] rfl rfl (by decide +kernel) (by decide +kernel) (by decide +kernel) hP hD hS hA (fun hPc hDc => run_S (C := RJ7) (As := [.ref x7, .long 0]) (rest := []) S (c_fillJ l D k x7 60 g2 0 (by decide) _) (gdC t1236) t1234 t1235 t109 ok_J7_fill_d0a16 ⟨rfl, rfl, Nat.le_of_ble_eq_true rfl, Nat.le_of_ble_eq_true rfl⟩ (pw_S hK hN hPc hDc) rfl hl.1 rfl (Nat.le_of_ble_eq_true rfl) ⟨Nat.le_of_ble_eq_true rfl, Nat.le_of_ble_eq_true rfl⟩ dX4_begin_21) (fun u21_3 H locs hu21_3 hKu21_3 hP9 hD9 hS9 => ?_)
  clear hP hD hS
  have hS := hS9
  have hP := hP9
  have hD := hD9
  clear hP9 hD9 hS9
  replace hP : va_P D vwCl [(x0, .inr (4, [.ref x1, .ref x2, .ref x3])), (x1, .inl (k 0, 4, .inl f6_1)), (x2, .inl (k 0, 4, .inl f13_2)), (x3, .inl (k 6, 4, .inr (.inr (.inr (.inr (va_up (va_up (va_up (va_up (fun _ => none) 0 (some x4)) 1 (some x5)) 2 (some x6)) 3 (some x7))))))), (x7, .inl (k 2, 60, .inr (.inl u21_3)))] H := hP
  replace hD : va_D A [(x0, .inr (4, [.ref x1, .ref x2, .ref x3])), (x1, .inl (k 0, 4, .inl f6_1)), (x2, .inl (k 0, 4, .inl f13_2)), (x3, .inl (k 6, 4, .inr (.inr (.inr (.inr (va_up (va_up (va_up (va_up (fun _ => none) 0 (some x4)) 1 (some x5)) 2 (some x6)) 3 (some x7))))))), (x7, .inl (k 2, 60, .inr (.inl u21_3)))] := hD
  have hP9 := hP.sub (ws' := []) [] rfl
  have hD9 := d_sub (ws' := []) hD [] (by decide +kernel) rfl
  have hK9 := hK.sub (tys' := []) [] rfl
  exact W.vret hx hb hr (fun t ht hW => ⟨⟨mkU [] [], rfl, trivial, by rw [ht]; exact hP9, va_K.moved hW.alike hK9, by rw [hAe]; exact hD9⟩, by rw [hAe]; exact hS.F ht⟩) hS.2.2 dX4_begin_24
set_option maxHeartbeats 4000000 in
set_option maxRecDepth 100000 in
theorem c_X9_rowW0 (l : Launch) (D : va_G) (k : Nat → ClassId) (x0 x1 x2 x3 x4 x5 x6 x7 x8 x9 x10 x11 x12 x13 x14 x15 x16 x17 x18 : Nat) (g0 : Nat → Int32) (g1 : Nat → Int32) (g2 : Nat → Int64) (p1 p2 : Int32) (sz : Nat) : Met l yX9_row (.code yX9_row cX9_row 4 (some .int) :: TB) (rmw 3 0 0) (va_Pc [.ref x0, .int 0, .int p1, .int p2] (PW D k sz [(x0, .inr (9, [.ref x1, .ref x2, .ref x3, .ref x4, .ref x5, .ref x6, .ref x7, .ref x8, .ref x9, .ref x10, .ref x11])), (x6, .inr (4, [.ref x12, .ref x13, .ref x14])), (x12, .inl (k 0, 4, .inl g0)), (x13, .inl (k 0, 4, .inl g1)), (x14, .inl (k 6, 4, .inr (.inr (.inr (.inr (va_up (va_up (va_up (va_up (fun _ => none) 0 (some x15)) 1 (some x16)) 2 (some x17)) 3 (some x18))))))), (x15, .inl (k 2, 60, .inr (.inl g2)))])) (QI D (S := UT) (fun r u => r = a_row 0 p1 p2) (fun u => []) (fun _ => []) [(x0, .inr (9, [.ref x1, .ref x2, .ref x3, .ref x4, .ref x5, .ref x6, .ref x7, .ref x8, .ref x9, .ref x10, .ref x11])), (x6, .inr (4, [.ref x12, .ref x13, .ref x14])), (x12, .inl (k 0, 4, .inl g0)), (x13, .inl (k 0, 4, .inl g1)), (x14, .inl (k 6, 4, .inr (.inr (.inr (.inr (va_up (va_up (va_up (va_up (fun _ => none) 0 (some x15)) 1 (some x16)) 2 (some x17)) 3 (some x18))))))), (x15, .inl (k 2, 60, .inr (.inl g2)))] sz) 0 0 (va_A [(x0, .inr (9, [.ref x1, .ref x2, .ref x3, .ref x4, .ref x5, .ref x6, .ref x7, .ref x8, .ref x9, .ref x10, .ref x11])), (x6, .inr (4, [.ref x12, .ref x13, .ref x14])), (x12, .inl (k 0, 4, .inl g0)), (x13, .inl (k 0, 4, .inl g1)), (x14, .inl (k 6, 4, .inr (.inr (.inr (.inr (va_up (va_up (va_up (va_up (fun _ => none) 0 (some x15)) 1 (some x16)) 2 (some x17)) 3 (some x18))))))), (x15, .inl (k 2, 60, .inr (.inl g2)))] sz) := by
  refine Met.ofW (cc := cX9_row) (maxL := 4) (ret := (some .int)) (by decide) rfl ?_
  intro p e s m args below meth c s₁ B hml hv
  obtain ⟨rfl, hsz, hP, hK, hD0, hN⟩ := hv
  have hx := B.exec
  have hb := B.bytes
  have hr := B.returns
  have hT : ∀ w ∈ TB, w.before ([.ref x0, .int 0, .int p1, .int p2] : List Value).toArray s = true := fun w h => atoms_spec (ws := .code yX9_row cX9_row 4 (some .int) :: TB) B.pre w (List.mem_cons_of_mem _ h)
  have hown : s.vm.findClass RX9 = some m.cls := findClass_of_methodNamed B.named
  have S : CallFix p m c cX9_row 4 s _ TB RX9 := ⟨hx, hb, hml, hown, hT⟩
  subst hsz
  have hD := hD0.self (sz := s.heap.size)
  generalize hAe : va_A [(x0, .inr (9, [.ref x1, .ref x2, .ref x3, .ref x4, .ref x5, .ref x6, .ref x7, .ref x8, .ref x9, .ref x10, .ref x11])), (x6, .inr (4, [.ref x12, .ref x13, .ref x14])), (x12, .inl (k 0, 4, .inl g0)), (x13, .inl (k 0, 4, .inl g1)), (x14, .inl (k 6, 4, .inr (.inr (.inr (.inr (va_up (va_up (va_up (va_up (fun _ => none) 0 (some x15)) 1 (some x16)) 2 (some x17)) 3 (some x18))))))), (x15, .inl (k 2, 60, .inr (.inl g2)))] s.heap.size = A at hD ⊢
  have hA : ∀ q : Nat, s.heap.size ≤ q → A q := fun q h => by rw [← hAe]; exact Or.inr h
  have hS : va_S A s.heap s.heap [] := va_S.rf
  have hP : va_P D vwCl [(x0, .inr (9, [.ref x1, .ref x2, .ref x3, .ref x4, .ref x5, .ref x6, .ref x7, .ref x8, .ref x9, .ref x10, .ref x11])), (x6, .inr (4, [.ref x12, .ref x13, .ref x14])), (x12, .inl (k 0, 4, .inl g0)), (x13, .inl (k 0, 4, .inl g1)), (x14, .inl (k 6, 4, .inr (.inr (.inr (.inr (va_up (va_up (va_up (va_up (fun _ => none) 0 (some x15)) 1 (some x16)) 2 (some x17)) 3 (some x18))))))), (x15, .inl (k 2, 60, .inr (.inl g2)))] s.heap := hP
  have hl := lv_entry ([.ref x0, .int 0, .int p1, .int p2]) (n := 4) (Nat.le_of_ble_eq_true rfl)
  rw [lg_entry_eq]
  generalize (lg_sl ([.ref x0, .int 0, .int p1, .int p2]) ++ List.replicate (4 - (lg_sl ([.ref x0, .int 0, .int p1, .int p2])).length) Slot.unset).toArray = ls at hl ⊢
  have hl : lv_has ls 4 [(0, .ref x0), (1, .int 0), (2, .int p1), (3, .int p2)] := hl
  refine lv_aload_n hx hb dX9_row_0 rfl (lv_at hl 0 rfl) ?_
  refine va_get (D := D) (ci := 9) (v := .ref x6) (C := RX9) (T := TX9) (N := 11) hx hb hT in_X9 hown hK hP 0 rfl rfl 5 (by decide) (hT _ t456) (fun _ h9 => h9) rfl dX9_row_1 ?_
  refine lv_iload_n hx hb dX9_row_4 rfl (lv_at hl 1 rfl) ?_
  refine ro_V (As := [.int 0]) (rest := []) S (c_X4_isSlotP l D k x6 x12 x13 x14 0 _) lkX9_238 ok_X4_isSlot ⟨rfl, rfl, Nat.le_of_ble_eq_true rfl, Nat.le_of_ble_eq_true rfl⟩ (pw_V (ci := 4) (q0 := 0) hK hN rfl rfl (hP.sub (ws' := [(x6, .inr (4, [.ref x12, .ref x13, .ref x14]))]) [1] rfl) ((d_sub (ws' := [(x6, .inr (4, [.ref x12, .ref x13, .ref x14]))]) hD [1] (by decide +kernel) rfl).weaken (fun _ _ _ _ => trivial))) rfl hl.1 rfl (Nat.le_of_ble_eq_true rfl) ⟨Nat.le_of_ble_eq_true rfl, Nat.le_of_ble_eq_true rfl⟩ dX9_row_5 (fun r_1 er_1 => ?_)
  rcases er_1 with ⟨er_1, gr_1⟩ | ⟨er_1, gr_1⟩
  · subst er_1
    refine lv_if_eq (tgt := 24) hx hb dX9_row_8 (by decide) (fun c_2 => ?_) (fun c_2 => ?_)
    · first | exact absurd c_2 (by decide) | exact absurd (by decide) c_2
    refine lv_iload_n hx hb dX9_row_11 rfl (lv_at hl 2 rfl) ?_
    refine ro_SX (As := [.int p1]) (rest := []) S (c_X4_isWidthP l D k p1 _) (gdC t1229) t1227 t1228 t111 ok_X4_isWidth ⟨rfl, rfl, Nat.le_of_ble_eq_true rfl, Nat.le_of_ble_eq_true rfl⟩ (pw_S hK hN (hP.sub (ws' := []) [] rfl) ((d_sub (ws' := []) hD [] (by decide +kernel) rfl).weaken (fun _ _ _ _ => trivial))) rfl hl.1 rfl (Nat.le_of_ble_eq_true rfl) ⟨Nat.le_of_ble_eq_true rfl, Nat.le_of_ble_eq_true rfl⟩ dX9_row_12 (fun r_3 er_3 => ?_)
    rcases er_3 with ⟨er_3, gr_3⟩ | ⟨er_3, gr_3⟩
    · subst er_3
      refine lv_if_eq (tgt := 24) hx hb dX9_row_15 (by decide) (fun c_4 => ?_) (fun c_4 => ?_)
      · first | exact absurd c_4 (by decide) | exact absurd (by decide) c_4
      refine lv_iload_n hx hb dX9_row_18 rfl (lv_at hl 3 rfl) ?_
      refine lv_bipush (v := 60) hx hb dX9_row_19 (by decide) ?_
      refine lv_icmp_le (tgt := 27) hx hb dX9_row_21 (by decide) (fun c_5 => ?_) (fun c_5 => ?_)
      · skip
        refine lv_iload_n hx hb dX9_row_27 rfl (lv_at hl 3 rfl) ?_
        refine lv_if_ge (tgt := 34) hx hb dX9_row_28 (by decide) (fun c_6 => ?_) (fun c_6 => ?_)
        · skip
          refine lv_aload_n hx hb dX9_row_34 rfl (lv_at hl 0 rfl) ?_
          refine va_get (D := D) (ci := 9) (v := .ref x6) (C := RX9) (T := TX9) (N := 11) hx hb hT in_X9 hown hK hP 0 rfl rfl 5 (by decide) (hT _ t456) (fun _ h9 => h9) rfl dX9_row_35 ?_
          refine lv_iload_n hx hb dX9_row_38 rfl (lv_at hl 1 rfl) ?_
          refine lv_iload_n hx hb dX9_row_39 rfl (lv_at hl 2 rfl) ?_
          refine lv_iload_n hx hb dX9_row_40 rfl (lv_at hl 3 rfl) ?_
          refine rw_v (wc := [(x6, .inr (4, [.ref x12, .ref x13, .ref x14])), (x12, .inl (k 0, 4, .inl g0)), (x13, .inl (k 0, 4, .inl g1)), (x14, .inl (k 6, 4, .inr (.inr (.inr (.inr (va_up (va_up (va_up (va_up (fun _ => none) 0 (some x15)) 1 (some x16)) 2 (some x17)) 3 (some x18))))))), (x15, .inl (k 2, 60, .inr (.inl g2)))]) (wr := [(x0, .inr (9, [.ref x1, .ref x2, .ref x3, .ref x4, .ref x5, .ref x6, .ref x7, .ref x8, .ref x9, .ref x10, .ref x11]))]) [1, 2, 3, 4, 5] [0] rfl rfl (by decide +kernel) (by decide +kernel) (by decide +kernel) hP hD hS hA (fun hPc hDc => run_V (As := [.int 0, .int p1, .int p2]) (rest := []) S (c_X4_beginW0 l D k x6 x12 x13 x14 x15 x16 x17 x18 g0 g1 g2 p1 p2 _) lkX9_419 ok_X4_begin ⟨rfl, rfl, Nat.le_of_ble_eq_true rfl, Nat.le_of_ble_eq_true rfl⟩ (pw_V (ci := 4) (q0 := 0) hK hN rfl rfl hPc hDc) rfl hl.1 rfl (Nat.le_of_ble_eq_true rfl) ⟨Nat.le_of_ble_eq_true rfl, Nat.le_of_ble_eq_true rfl⟩ dX9_row_41) (fun u41_1 H locs hu41_1 hKu41_1 hP9 hD9 hS9 => ?_)
          clear hP hD hS
          have hS := hS9
          have hP := hP9
          have hD := hD9
          clear hP9 hD9 hS9
          replace hP : va_P D vwCl [(x0, .inr (9, [.ref x1, .ref x2, .ref x3, .ref x4, .ref x5, .ref x6, .ref x7, .ref x8, .ref x9, .ref x10, .ref x11]))] H := hP
          replace hD : va_D A [(x0, .inr (9, [.ref x1, .ref x2, .ref x3, .ref x4, .ref x5, .ref x6, .ref x7, .ref x8, .ref x9, .ref x10, .ref x11]))] := hD
          refine lv_iconst (v := 0) hx hb dX9_row_44 (by decide) ?_
          have hP9 := hP.sub (ws' := []) [] rfl
          have hD9 := d_sub (ws' := []) hD [] (by decide +kernel) rfl
          have hK9 := hK.sub (tys' := []) [] rfl
          exact W.iret (v := 0) hx hb hr (fun t ht hW => ⟨⟨0, mkU [] [], rfl, (a_row_0 (show in4 0 from ⟨by decide, by decide⟩) gr_3 c_5 (Int32.not_lt.mpr c_6)), by rw [ht]; exact hP9, va_K.moved hW.alike hK9, by rw [hAe]; exact hD9⟩, by rw [hAe]; exact hS.F ht⟩) hS.2.2 dX9_row_45
        · skip
          refine lv_bipush (v := (-3)) hx hb dX9_row_31 (by decide) ?_
          have hP9 := hP.sub (ws' := []) [] rfl
          have hD9 := d_sub (ws' := []) hD [] (by decide +kernel) rfl
          have hK9 := hK.sub (tys' := []) [] rfl
          exact W.iret (v := (-3)) hx hb hr (fun t ht hW => ⟨⟨(-3), mkU [] [], rfl, (a_row_3 (show in4 0 from ⟨by decide, by decide⟩) gr_3 c_5 (Int32.not_le.mp c_6)), by rw [ht]; exact hP9, va_K.moved hW.alike hK9, by rw [hAe]; exact hD9⟩, by rw [hAe]; exact hS.F ht⟩) hS.2.2 dX9_row_33
      · skip
        refine lv_bipush (v := (-2)) hx hb dX9_row_24 (by decide) ?_
        have hP9 := hP.sub (ws' := []) [] rfl
        have hD9 := d_sub (ws' := []) hD [] (by decide +kernel) rfl
        have hK9 := hK.sub (tys' := []) [] rfl
        exact W.iret (v := (-2)) hx hb hr (fun t ht hW => ⟨⟨(-2), mkU [] [], rfl, (a_row_2 (Or.inr (Or.inr (Int32.not_le.mp c_5)))), by rw [ht]; exact hP9, va_K.moved hW.alike hK9, by rw [hAe]; exact hD9⟩, by rw [hAe]; exact hS.F ht⟩) hS.2.2 dX9_row_26
    · subst er_3
      refine lv_if_eq (tgt := 24) hx hb dX9_row_15 (by decide) (fun c_7 => ?_) (fun c_7 => ?_)
      rotate_left
      · first | exact absurd c_7 (by decide) | exact absurd (by decide) c_7
      refine lv_bipush (v := (-2)) hx hb dX9_row_24 (by decide) ?_
      have hP9 := hP.sub (ws' := []) [] rfl
      have hD9 := d_sub (ws' := []) hD [] (by decide +kernel) rfl
      have hK9 := hK.sub (tys' := []) [] rfl
      exact W.iret (v := (-2)) hx hb hr (fun t ht hW => ⟨⟨(-2), mkU [] [], rfl, (a_row_2 (Or.inr (Or.inl gr_3))), by rw [ht]; exact hP9, va_K.moved hW.alike hK9, by rw [hAe]; exact hD9⟩, by rw [hAe]; exact hS.F ht⟩) hS.2.2 dX9_row_26
  · subst er_1
    exact absurd gr_1 (by decide)
set_option maxHeartbeats 4000000 in
set_option maxRecDepth 100000 in
theorem c_X9_rowW1 (l : Launch) (D : va_G) (k : Nat → ClassId) (x0 x1 x2 x3 x4 x5 x6 x7 x8 x9 x10 x11 x12 x13 x14 x15 x16 x17 x18 : Nat) (g0 : Nat → Int32) (g1 : Nat → Int32) (g2 : Nat → Int64) (p1 p2 : Int32) (sz : Nat) : Met l yX9_row (.code yX9_row cX9_row 4 (some .int) :: TB) (rmw 3 0 0) (va_Pc [.ref x0, .int 1, .int p1, .int p2] (PW D k sz [(x0, .inr (9, [.ref x1, .ref x2, .ref x3, .ref x4, .ref x5, .ref x6, .ref x7, .ref x8, .ref x9, .ref x10, .ref x11])), (x6, .inr (4, [.ref x12, .ref x13, .ref x14])), (x12, .inl (k 0, 4, .inl g0)), (x13, .inl (k 0, 4, .inl g1)), (x14, .inl (k 6, 4, .inr (.inr (.inr (.inr (va_up (va_up (va_up (va_up (fun _ => none) 0 (some x15)) 1 (some x16)) 2 (some x17)) 3 (some x18))))))), (x16, .inl (k 2, 60, .inr (.inl g2)))])) (QI D (S := UT) (fun r u => r = a_row 1 p1 p2) (fun u => []) (fun _ => []) [(x0, .inr (9, [.ref x1, .ref x2, .ref x3, .ref x4, .ref x5, .ref x6, .ref x7, .ref x8, .ref x9, .ref x10, .ref x11])), (x6, .inr (4, [.ref x12, .ref x13, .ref x14])), (x12, .inl (k 0, 4, .inl g0)), (x13, .inl (k 0, 4, .inl g1)), (x14, .inl (k 6, 4, .inr (.inr (.inr (.inr (va_up (va_up (va_up (va_up (fun _ => none) 0 (some x15)) 1 (some x16)) 2 (some x17)) 3 (some x18))))))), (x16, .inl (k 2, 60, .inr (.inl g2)))] sz) 0 0 (va_A [(x0, .inr (9, [.ref x1, .ref x2, .ref x3, .ref x4, .ref x5, .ref x6, .ref x7, .ref x8, .ref x9, .ref x10, .ref x11])), (x6, .inr (4, [.ref x12, .ref x13, .ref x14])), (x12, .inl (k 0, 4, .inl g0)), (x13, .inl (k 0, 4, .inl g1)), (x14, .inl (k 6, 4, .inr (.inr (.inr (.inr (va_up (va_up (va_up (va_up (fun _ => none) 0 (some x15)) 1 (some x16)) 2 (some x17)) 3 (some x18))))))), (x16, .inl (k 2, 60, .inr (.inl g2)))] sz) := by
  refine Met.ofW (cc := cX9_row) (maxL := 4) (ret := (some .int)) (by decide) rfl ?_
  intro p e s m args below meth c s₁ B hml hv
  obtain ⟨rfl, hsz, hP, hK, hD0, hN⟩ := hv
  have hx := B.exec
  have hb := B.bytes
  have hr := B.returns
  have hT : ∀ w ∈ TB, w.before ([.ref x0, .int 1, .int p1, .int p2] : List Value).toArray s = true := fun w h => atoms_spec (ws := .code yX9_row cX9_row 4 (some .int) :: TB) B.pre w (List.mem_cons_of_mem _ h)
  have hown : s.vm.findClass RX9 = some m.cls := findClass_of_methodNamed B.named
  have S : CallFix p m c cX9_row 4 s _ TB RX9 := ⟨hx, hb, hml, hown, hT⟩
  subst hsz
  have hD := hD0.self (sz := s.heap.size)
  generalize hAe : va_A [(x0, .inr (9, [.ref x1, .ref x2, .ref x3, .ref x4, .ref x5, .ref x6, .ref x7, .ref x8, .ref x9, .ref x10, .ref x11])), (x6, .inr (4, [.ref x12, .ref x13, .ref x14])), (x12, .inl (k 0, 4, .inl g0)), (x13, .inl (k 0, 4, .inl g1)), (x14, .inl (k 6, 4, .inr (.inr (.inr (.inr (va_up (va_up (va_up (va_up (fun _ => none) 0 (some x15)) 1 (some x16)) 2 (some x17)) 3 (some x18))))))), (x16, .inl (k 2, 60, .inr (.inl g2)))] s.heap.size = A at hD ⊢
  have hA : ∀ q : Nat, s.heap.size ≤ q → A q := fun q h => by rw [← hAe]; exact Or.inr h
  have hS : va_S A s.heap s.heap [] := va_S.rf
  have hP : va_P D vwCl [(x0, .inr (9, [.ref x1, .ref x2, .ref x3, .ref x4, .ref x5, .ref x6, .ref x7, .ref x8, .ref x9, .ref x10, .ref x11])), (x6, .inr (4, [.ref x12, .ref x13, .ref x14])), (x12, .inl (k 0, 4, .inl g0)), (x13, .inl (k 0, 4, .inl g1)), (x14, .inl (k 6, 4, .inr (.inr (.inr (.inr (va_up (va_up (va_up (va_up (fun _ => none) 0 (some x15)) 1 (some x16)) 2 (some x17)) 3 (some x18))))))), (x16, .inl (k 2, 60, .inr (.inl g2)))] s.heap := hP
  have hl := lv_entry ([.ref x0, .int 1, .int p1, .int p2]) (n := 4) (Nat.le_of_ble_eq_true rfl)
  rw [lg_entry_eq]
  generalize (lg_sl ([.ref x0, .int 1, .int p1, .int p2]) ++ List.replicate (4 - (lg_sl ([.ref x0, .int 1, .int p1, .int p2])).length) Slot.unset).toArray = ls at hl ⊢
  have hl : lv_has ls 4 [(0, .ref x0), (1, .int 1), (2, .int p1), (3, .int p2)] := hl
  refine lv_aload_n hx hb dX9_row_0 rfl (lv_at hl 0 rfl) ?_
  refine va_get (D := D) (ci := 9) (v := .ref x6) (C := RX9) (T := TX9) (N := 11) hx hb hT in_X9 hown hK hP 0 rfl rfl 5 (by decide) (hT _ t456) (fun _ h9 => h9) rfl dX9_row_1 ?_
  refine lv_iload_n hx hb dX9_row_4 rfl (lv_at hl 1 rfl) ?_
  refine ro_V (As := [.int 1]) (rest := []) S (c_X4_isSlotP l D k x6 x12 x13 x14 1 _) lkX9_238 ok_X4_isSlot ⟨rfl, rfl, Nat.le_of_ble_eq_true rfl, Nat.le_of_ble_eq_true rfl⟩ (pw_V (ci := 4) (q0 := 0) hK hN rfl rfl (hP.sub (ws' := [(x6, .inr (4, [.ref x12, .ref x13, .ref x14]))]) [1] rfl) ((d_sub (ws' := [(x6, .inr (4, [.ref x12, .ref x13, .ref x14]))]) hD [1] (by decide +kernel) rfl).weaken (fun _ _ _ _ => trivial))) rfl hl.1 rfl (Nat.le_of_ble_eq_true rfl) ⟨Nat.le_of_ble_eq_true rfl, Nat.le_of_ble_eq_true rfl⟩ dX9_row_5 (fun r_1 er_1 => ?_)
  rcases er_1 with ⟨er_1, gr_1⟩ | ⟨er_1, gr_1⟩
  · subst er_1
    refine lv_if_eq (tgt := 24) hx hb dX9_row_8 (by decide) (fun c_2 => ?_) (fun c_2 => ?_)
    · first | exact absurd c_2 (by decide) | exact absurd (by decide) c_2
    refine lv_iload_n hx hb dX9_row_11 rfl (lv_at hl 2 rfl) ?_
    refine ro_SX (As := [.int p1]) (rest := []) S (c_X4_isWidthP l D k p1 _) (gdC t1229) t1227 t1228 t111 ok_X4_isWidth ⟨rfl, rfl, Nat.le_of_ble_eq_true rfl, Nat.le_of_ble_eq_true rfl⟩ (pw_S hK hN (hP.sub (ws' := []) [] rfl) ((d_sub (ws' := []) hD [] (by decide +kernel) rfl).weaken (fun _ _ _ _ => trivial))) rfl hl.1 rfl (Nat.le_of_ble_eq_true rfl) ⟨Nat.le_of_ble_eq_true rfl, Nat.le_of_ble_eq_true rfl⟩ dX9_row_12 (fun r_3 er_3 => ?_)
    rcases er_3 with ⟨er_3, gr_3⟩ | ⟨er_3, gr_3⟩
    · subst er_3
      refine lv_if_eq (tgt := 24) hx hb dX9_row_15 (by decide) (fun c_4 => ?_) (fun c_4 => ?_)
      · first | exact absurd c_4 (by decide) | exact absurd (by decide) c_4
      refine lv_iload_n hx hb dX9_row_18 rfl (lv_at hl 3 rfl) ?_
      refine lv_bipush (v := 60) hx hb dX9_row_19 (by decide) ?_
      refine lv_icmp_le (tgt := 27) hx hb dX9_row_21 (by decide) (fun c_5 => ?_) (fun c_5 => ?_)
      · skip
        refine lv_iload_n hx hb dX9_row_27 rfl (lv_at hl 3 rfl) ?_
        refine lv_if_ge (tgt := 34) hx hb dX9_row_28 (by decide) (fun c_6 => ?_) (fun c_6 => ?_)
        · skip
          refine lv_aload_n hx hb dX9_row_34 rfl (lv_at hl 0 rfl) ?_
          refine va_get (D := D) (ci := 9) (v := .ref x6) (C := RX9) (T := TX9) (N := 11) hx hb hT in_X9 hown hK hP 0 rfl rfl 5 (by decide) (hT _ t456) (fun _ h9 => h9) rfl dX9_row_35 ?_
          refine lv_iload_n hx hb dX9_row_38 rfl (lv_at hl 1 rfl) ?_
          refine lv_iload_n hx hb dX9_row_39 rfl (lv_at hl 2 rfl) ?_
          refine lv_iload_n hx hb dX9_row_40 rfl (lv_at hl 3 rfl) ?_
          refine rw_v (wc := [(x6, .inr (4, [.ref x12, .ref x13, .ref x14])), (x12, .inl (k 0, 4, .inl g0)), (x13, .inl (k 0, 4, .inl g1)), (x14, .inl (k 6, 4, .inr (.inr (.inr (.inr (va_up (va_up (va_up (va_up (fun _ => none) 0 (some x15)) 1 (some x16)) 2 (some x17)) 3 (some x18))))))), (x16, .inl (k 2, 60, .inr (.inl g2)))]) (wr := [(x0, .inr (9, [.ref x1, .ref x2, .ref x3, .ref x4, .ref x5, .ref x6, .ref x7, .ref x8, .ref x9, .ref x10, .ref x11]))]) [1, 2, 3, 4, 5] [0] rfl rfl (by decide +kernel) (by decide +kernel) (by decide +kernel) hP hD hS hA (fun hPc hDc => run_V (As := [.int 1, .int p1, .int p2]) (rest := []) S (c_X4_beginW1 l D k x6 x12 x13 x14 x15 x16 x17 x18 g0 g1 g2 p1 p2 _) lkX9_419 ok_X4_begin ⟨rfl, rfl, Nat.le_of_ble_eq_true rfl, Nat.le_of_ble_eq_true rfl⟩ (pw_V (ci := 4) (q0 := 0) hK hN rfl rfl hPc hDc) rfl hl.1 rfl (Nat.le_of_ble_eq_true rfl) ⟨Nat.le_of_ble_eq_true rfl, Nat.le_of_ble_eq_true rfl⟩ dX9_row_41) (fun u41_1 H locs hu41_1 hKu41_1 hP9 hD9 hS9 => ?_)
          clear hP hD hS
          have hS := hS9
          have hP := hP9
          have hD := hD9
          clear hP9 hD9 hS9
          replace hP : va_P D vwCl [(x0, .inr (9, [.ref x1, .ref x2, .ref x3, .ref x4, .ref x5, .ref x6, .ref x7, .ref x8, .ref x9, .ref x10, .ref x11]))] H := hP
          replace hD : va_D A [(x0, .inr (9, [.ref x1, .ref x2, .ref x3, .ref x4, .ref x5, .ref x6, .ref x7, .ref x8, .ref x9, .ref x10, .ref x11]))] := hD
          refine lv_iconst (v := 0) hx hb dX9_row_44 (by decide) ?_
          have hP9 := hP.sub (ws' := []) [] rfl
          have hD9 := d_sub (ws' := []) hD [] (by decide +kernel) rfl
          have hK9 := hK.sub (tys' := []) [] rfl
          exact W.iret (v := 0) hx hb hr (fun t ht hW => ⟨⟨0, mkU [] [], rfl, (a_row_0 (show in4 1 from ⟨by decide, by decide⟩) gr_3 c_5 (Int32.not_lt.mpr c_6)), by rw [ht]; exact hP9, va_K.moved hW.alike hK9, by rw [hAe]; exact hD9⟩, by rw [hAe]; exact hS.F ht⟩) hS.2.2 dX9_row_45
        · skip
          refine lv_bipush (v := (-3)) hx hb dX9_row_31 (by decide) ?_
          have hP9 := hP.sub (ws' := []) [] rfl
          have hD9 := d_sub (ws' := []) hD [] (by decide +kernel) rfl
          have hK9 := hK.sub (tys' := []) [] rfl
          exact W.iret (v := (-3)) hx hb hr (fun t ht hW => ⟨⟨(-3), mkU [] [], rfl, (a_row_3 (show in4 1 from ⟨by decide, by decide⟩) gr_3 c_5 (Int32.not_le.mp c_6)), by rw [ht]; exact hP9, va_K.moved hW.alike hK9, by rw [hAe]; exact hD9⟩, by rw [hAe]; exact hS.F ht⟩) hS.2.2 dX9_row_33
      · skip
        refine lv_bipush (v := (-2)) hx hb dX9_row_24 (by decide) ?_
        have hP9 := hP.sub (ws' := []) [] rfl
        have hD9 := d_sub (ws' := []) hD [] (by decide +kernel) rfl
        have hK9 := hK.sub (tys' := []) [] rfl
        exact W.iret (v := (-2)) hx hb hr (fun t ht hW => ⟨⟨(-2), mkU [] [], rfl, (a_row_2 (Or.inr (Or.inr (Int32.not_le.mp c_5)))), by rw [ht]; exact hP9, va_K.moved hW.alike hK9, by rw [hAe]; exact hD9⟩, by rw [hAe]; exact hS.F ht⟩) hS.2.2 dX9_row_26
    · subst er_3
      refine lv_if_eq (tgt := 24) hx hb dX9_row_15 (by decide) (fun c_7 => ?_) (fun c_7 => ?_)
      rotate_left
      · first | exact absurd c_7 (by decide) | exact absurd (by decide) c_7
      refine lv_bipush (v := (-2)) hx hb dX9_row_24 (by decide) ?_
      have hP9 := hP.sub (ws' := []) [] rfl
      have hD9 := d_sub (ws' := []) hD [] (by decide +kernel) rfl
      have hK9 := hK.sub (tys' := []) [] rfl
      exact W.iret (v := (-2)) hx hb hr (fun t ht hW => ⟨⟨(-2), mkU [] [], rfl, (a_row_2 (Or.inr (Or.inl gr_3))), by rw [ht]; exact hP9, va_K.moved hW.alike hK9, by rw [hAe]; exact hD9⟩, by rw [hAe]; exact hS.F ht⟩) hS.2.2 dX9_row_26
  · subst er_1
    exact absurd gr_1 (by decide)
set_option maxHeartbeats 4000000 in
set_option maxRecDepth 100000 in
theorem c_X9_rowW2 (l : Launch) (D : va_G) (k : Nat → ClassId) (x0 x1 x2 x3 x4 x5 x6 x7 x8 x9 x10 x11 x12 x13 x14 x15 x16 x17 x18 : Nat) (g0 : Nat → Int32) (g1 : Nat → Int32) (g2 : Nat → Int64) (p1 p2 : Int32) (sz : Nat) : Met l yX9_row (.code yX9_row cX9_row 4 (some .int) :: TB) (rmw 3 0 0) (va_Pc [.ref x0, .int 2, .int p1, .int p2] (PW D k sz [(x0, .inr (9, [.ref x1, .ref x2, .ref x3, .ref x4, .ref x5, .ref x6, .ref x7, .ref x8, .ref x9, .ref x10, .ref x11])), (x6, .inr (4, [.ref x12, .ref x13, .ref x14])), (x12, .inl (k 0, 4, .inl g0)), (x13, .inl (k 0, 4, .inl g1)), (x14, .inl (k 6, 4, .inr (.inr (.inr (.inr (va_up (va_up (va_up (va_up (fun _ => none) 0 (some x15)) 1 (some x16)) 2 (some x17)) 3 (some x18))))))), (x17, .inl (k 2, 60, .inr (.inl g2)))])) (QI D (S := UT) (fun r u => r = a_row 2 p1 p2) (fun u => []) (fun _ => []) [(x0, .inr (9, [.ref x1, .ref x2, .ref x3, .ref x4, .ref x5, .ref x6, .ref x7, .ref x8, .ref x9, .ref x10, .ref x11])), (x6, .inr (4, [.ref x12, .ref x13, .ref x14])), (x12, .inl (k 0, 4, .inl g0)), (x13, .inl (k 0, 4, .inl g1)), (x14, .inl (k 6, 4, .inr (.inr (.inr (.inr (va_up (va_up (va_up (va_up (fun _ => none) 0 (some x15)) 1 (some x16)) 2 (some x17)) 3 (some x18))))))), (x17, .inl (k 2, 60, .inr (.inl g2)))] sz) 0 0 (va_A [(x0, .inr (9, [.ref x1, .ref x2, .ref x3, .ref x4, .ref x5, .ref x6, .ref x7, .ref x8, .ref x9, .ref x10, .ref x11])), (x6, .inr (4, [.ref x12, .ref x13, .ref x14])), (x12, .inl (k 0, 4, .inl g0)), (x13, .inl (k 0, 4, .inl g1)), (x14, .inl (k 6, 4, .inr (.inr (.inr (.inr (va_up (va_up (va_up (va_up (fun _ => none) 0 (some x15)) 1 (some x16)) 2 (some x17)) 3 (some x18))))))), (x17, .inl (k 2, 60, .inr (.inl g2)))] sz) := by
  refine Met.ofW (cc := cX9_row) (maxL := 4) (ret := (some .int)) (by decide) rfl ?_
  intro p e s m args below meth c s₁ B hml hv
  obtain ⟨rfl, hsz, hP, hK, hD0, hN⟩ := hv
  have hx := B.exec
  have hb := B.bytes
  have hr := B.returns
  have hT : ∀ w ∈ TB, w.before ([.ref x0, .int 2, .int p1, .int p2] : List Value).toArray s = true := fun w h => atoms_spec (ws := .code yX9_row cX9_row 4 (some .int) :: TB) B.pre w (List.mem_cons_of_mem _ h)
  have hown : s.vm.findClass RX9 = some m.cls := findClass_of_methodNamed B.named
  have S : CallFix p m c cX9_row 4 s _ TB RX9 := ⟨hx, hb, hml, hown, hT⟩
  subst hsz
  have hD := hD0.self (sz := s.heap.size)
  generalize hAe : va_A [(x0, .inr (9, [.ref x1, .ref x2, .ref x3, .ref x4, .ref x5, .ref x6, .ref x7, .ref x8, .ref x9, .ref x10, .ref x11])), (x6, .inr (4, [.ref x12, .ref x13, .ref x14])), (x12, .inl (k 0, 4, .inl g0)), (x13, .inl (k 0, 4, .inl g1)), (x14, .inl (k 6, 4, .inr (.inr (.inr (.inr (va_up (va_up (va_up (va_up (fun _ => none) 0 (some x15)) 1 (some x16)) 2 (some x17)) 3 (some x18))))))), (x17, .inl (k 2, 60, .inr (.inl g2)))] s.heap.size = A at hD ⊢
  have hA : ∀ q : Nat, s.heap.size ≤ q → A q := fun q h => by rw [← hAe]; exact Or.inr h
  have hS : va_S A s.heap s.heap [] := va_S.rf
  have hP : va_P D vwCl [(x0, .inr (9, [.ref x1, .ref x2, .ref x3, .ref x4, .ref x5, .ref x6, .ref x7, .ref x8, .ref x9, .ref x10, .ref x11])), (x6, .inr (4, [.ref x12, .ref x13, .ref x14])), (x12, .inl (k 0, 4, .inl g0)), (x13, .inl (k 0, 4, .inl g1)), (x14, .inl (k 6, 4, .inr (.inr (.inr (.inr (va_up (va_up (va_up (va_up (fun _ => none) 0 (some x15)) 1 (some x16)) 2 (some x17)) 3 (some x18))))))), (x17, .inl (k 2, 60, .inr (.inl g2)))] s.heap := hP
  have hl := lv_entry ([.ref x0, .int 2, .int p1, .int p2]) (n := 4) (Nat.le_of_ble_eq_true rfl)
  rw [lg_entry_eq]
  generalize (lg_sl ([.ref x0, .int 2, .int p1, .int p2]) ++ List.replicate (4 - (lg_sl ([.ref x0, .int 2, .int p1, .int p2])).length) Slot.unset).toArray = ls at hl ⊢
  have hl : lv_has ls 4 [(0, .ref x0), (1, .int 2), (2, .int p1), (3, .int p2)] := hl
  refine lv_aload_n hx hb dX9_row_0 rfl (lv_at hl 0 rfl) ?_
  refine va_get (D := D) (ci := 9) (v := .ref x6) (C := RX9) (T := TX9) (N := 11) hx hb hT in_X9 hown hK hP 0 rfl rfl 5 (by decide) (hT _ t456) (fun _ h9 => h9) rfl dX9_row_1 ?_
  refine lv_iload_n hx hb dX9_row_4 rfl (lv_at hl 1 rfl) ?_
  refine ro_V (As := [.int 2]) (rest := []) S (c_X4_isSlotP l D k x6 x12 x13 x14 2 _) lkX9_238 ok_X4_isSlot ⟨rfl, rfl, Nat.le_of_ble_eq_true rfl, Nat.le_of_ble_eq_true rfl⟩ (pw_V (ci := 4) (q0 := 0) hK hN rfl rfl (hP.sub (ws' := [(x6, .inr (4, [.ref x12, .ref x13, .ref x14]))]) [1] rfl) ((d_sub (ws' := [(x6, .inr (4, [.ref x12, .ref x13, .ref x14]))]) hD [1] (by decide +kernel) rfl).weaken (fun _ _ _ _ => trivial))) rfl hl.1 rfl (Nat.le_of_ble_eq_true rfl) ⟨Nat.le_of_ble_eq_true rfl, Nat.le_of_ble_eq_true rfl⟩ dX9_row_5 (fun r_1 er_1 => ?_)
  rcases er_1 with ⟨er_1, gr_1⟩ | ⟨er_1, gr_1⟩
  · subst er_1
    refine lv_if_eq (tgt := 24) hx hb dX9_row_8 (by decide) (fun c_2 => ?_) (fun c_2 => ?_)
    · first | exact absurd c_2 (by decide) | exact absurd (by decide) c_2
    refine lv_iload_n hx hb dX9_row_11 rfl (lv_at hl 2 rfl) ?_
    refine ro_SX (As := [.int p1]) (rest := []) S (c_X4_isWidthP l D k p1 _) (gdC t1229) t1227 t1228 t111 ok_X4_isWidth ⟨rfl, rfl, Nat.le_of_ble_eq_true rfl, Nat.le_of_ble_eq_true rfl⟩ (pw_S hK hN (hP.sub (ws' := []) [] rfl) ((d_sub (ws' := []) hD [] (by decide +kernel) rfl).weaken (fun _ _ _ _ => trivial))) rfl hl.1 rfl (Nat.le_of_ble_eq_true rfl) ⟨Nat.le_of_ble_eq_true rfl, Nat.le_of_ble_eq_true rfl⟩ dX9_row_12 (fun r_3 er_3 => ?_)
    rcases er_3 with ⟨er_3, gr_3⟩ | ⟨er_3, gr_3⟩
    · subst er_3
      refine lv_if_eq (tgt := 24) hx hb dX9_row_15 (by decide) (fun c_4 => ?_) (fun c_4 => ?_)
      · first | exact absurd c_4 (by decide) | exact absurd (by decide) c_4
      refine lv_iload_n hx hb dX9_row_18 rfl (lv_at hl 3 rfl) ?_
      refine lv_bipush (v := 60) hx hb dX9_row_19 (by decide) ?_
      refine lv_icmp_le (tgt := 27) hx hb dX9_row_21 (by decide) (fun c_5 => ?_) (fun c_5 => ?_)
      · skip
        refine lv_iload_n hx hb dX9_row_27 rfl (lv_at hl 3 rfl) ?_
        refine lv_if_ge (tgt := 34) hx hb dX9_row_28 (by decide) (fun c_6 => ?_) (fun c_6 => ?_)
        · skip
          refine lv_aload_n hx hb dX9_row_34 rfl (lv_at hl 0 rfl) ?_
          refine va_get (D := D) (ci := 9) (v := .ref x6) (C := RX9) (T := TX9) (N := 11) hx hb hT in_X9 hown hK hP 0 rfl rfl 5 (by decide) (hT _ t456) (fun _ h9 => h9) rfl dX9_row_35 ?_
          refine lv_iload_n hx hb dX9_row_38 rfl (lv_at hl 1 rfl) ?_
          refine lv_iload_n hx hb dX9_row_39 rfl (lv_at hl 2 rfl) ?_
          refine lv_iload_n hx hb dX9_row_40 rfl (lv_at hl 3 rfl) ?_
          refine rw_v (wc := [(x6, .inr (4, [.ref x12, .ref x13, .ref x14])), (x12, .inl (k 0, 4, .inl g0)), (x13, .inl (k 0, 4, .inl g1)), (x14, .inl (k 6, 4, .inr (.inr (.inr (.inr (va_up (va_up (va_up (va_up (fun _ => none) 0 (some x15)) 1 (some x16)) 2 (some x17)) 3 (some x18))))))), (x17, .inl (k 2, 60, .inr (.inl g2)))]) (wr := [(x0, .inr (9, [.ref x1, .ref x2, .ref x3, .ref x4, .ref x5, .ref x6, .ref x7, .ref x8, .ref x9, .ref x10, .ref x11]))]) [1, 2, 3, 4, 5] [0] rfl rfl (by decide +kernel) (by decide +kernel) (by decide +kernel) hP hD hS hA (fun hPc hDc => run_V (As := [.int 2, .int p1, .int p2]) (rest := []) S (c_X4_beginW2 l D k x6 x12 x13 x14 x15 x16 x17 x18 g0 g1 g2 p1 p2 _) lkX9_419 ok_X4_begin ⟨rfl, rfl, Nat.le_of_ble_eq_true rfl, Nat.le_of_ble_eq_true rfl⟩ (pw_V (ci := 4) (q0 := 0) hK hN rfl rfl hPc hDc) rfl hl.1 rfl (Nat.le_of_ble_eq_true rfl) ⟨Nat.le_of_ble_eq_true rfl, Nat.le_of_ble_eq_true rfl⟩ dX9_row_41) (fun u41_1 H locs hu41_1 hKu41_1 hP9 hD9 hS9 => ?_)
          clear hP hD hS
          have hS := hS9
          have hP := hP9
          have hD := hD9
          clear hP9 hD9 hS9
          replace hP : va_P D vwCl [(x0, .inr (9, [.ref x1, .ref x2, .ref x3, .ref x4, .ref x5, .ref x6, .ref x7, .ref x8, .ref x9, .ref x10, .ref x11]))] H := hP
          replace hD : va_D A [(x0, .inr (9, [.ref x1, .ref x2, .ref x3, .ref x4, .ref x5, .ref x6, .ref x7, .ref x8, .ref x9, .ref x10, .ref x11]))] := hD
          refine lv_iconst (v := 0) hx hb dX9_row_44 (by decide) ?_
          have hP9 := hP.sub (ws' := []) [] rfl
          have hD9 := d_sub (ws' := []) hD [] (by decide +kernel) rfl
          have hK9 := hK.sub (tys' := []) [] rfl
          exact W.iret (v := 0) hx hb hr (fun t ht hW => ⟨⟨0, mkU [] [], rfl, (a_row_0 (show in4 2 from ⟨by decide, by decide⟩) gr_3 c_5 (Int32.not_lt.mpr c_6)), by rw [ht]; exact hP9, va_K.moved hW.alike hK9, by rw [hAe]; exact hD9⟩, by rw [hAe]; exact hS.F ht⟩) hS.2.2 dX9_row_45
        · skip
          refine lv_bipush (v := (-3)) hx hb dX9_row_31 (by decide) ?_
          have hP9 := hP.sub (ws' := []) [] rfl
          have hD9 := d_sub (ws' := []) hD [] (by decide +kernel) rfl
          have hK9 := hK.sub (tys' := []) [] rfl
          exact W.iret (v := (-3)) hx hb hr (fun t ht hW => ⟨⟨(-3), mkU [] [], rfl, (a_row_3 (show in4 2 from ⟨by decide, by decide⟩) gr_3 c_5 (Int32.not_le.mp c_6)), by rw [ht]; exact hP9, va_K.moved hW.alike hK9, by rw [hAe]; exact hD9⟩, by rw [hAe]; exact hS.F ht⟩) hS.2.2 dX9_row_33
      · skip
        refine lv_bipush (v := (-2)) hx hb dX9_row_24 (by decide) ?_
        have hP9 := hP.sub (ws' := []) [] rfl
        have hD9 := d_sub (ws' := []) hD [] (by decide +kernel) rfl
        have hK9 := hK.sub (tys' := []) [] rfl
        exact W.iret (v := (-2)) hx hb hr (fun t ht hW => ⟨⟨(-2), mkU [] [], rfl, (a_row_2 (Or.inr (Or.inr (Int32.not_le.mp c_5)))), by rw [ht]; exact hP9, va_K.moved hW.alike hK9, by rw [hAe]; exact hD9⟩, by rw [hAe]; exact hS.F ht⟩) hS.2.2 dX9_row_26
    · subst er_3
      refine lv_if_eq (tgt := 24) hx hb dX9_row_15 (by decide) (fun c_7 => ?_) (fun c_7 => ?_)
      rotate_left
      · first | exact absurd c_7 (by decide) | exact absurd (by decide) c_7
      refine lv_bipush (v := (-2)) hx hb dX9_row_24 (by decide) ?_
      have hP9 := hP.sub (ws' := []) [] rfl
      have hD9 := d_sub (ws' := []) hD [] (by decide +kernel) rfl
      have hK9 := hK.sub (tys' := []) [] rfl
      exact W.iret (v := (-2)) hx hb hr (fun t ht hW => ⟨⟨(-2), mkU [] [], rfl, (a_row_2 (Or.inr (Or.inl gr_3))), by rw [ht]; exact hP9, va_K.moved hW.alike hK9, by rw [hAe]; exact hD9⟩, by rw [hAe]; exact hS.F ht⟩) hS.2.2 dX9_row_26
  · subst er_1
    exact absurd gr_1 (by decide)
set_option maxHeartbeats 4000000 in
set_option maxRecDepth 100000 in
theorem c_X9_rowW3 (l : Launch) (D : va_G) (k : Nat → ClassId) (x0 x1 x2 x3 x4 x5 x6 x7 x8 x9 x10 x11 x12 x13 x14 x15 x16 x17 x18 : Nat) (g0 : Nat → Int32) (g1 : Nat → Int32) (g2 : Nat → Int64) (p1 p2 : Int32) (sz : Nat) : Met l yX9_row (.code yX9_row cX9_row 4 (some .int) :: TB) (rmw 3 0 0) (va_Pc [.ref x0, .int 3, .int p1, .int p2] (PW D k sz [(x0, .inr (9, [.ref x1, .ref x2, .ref x3, .ref x4, .ref x5, .ref x6, .ref x7, .ref x8, .ref x9, .ref x10, .ref x11])), (x6, .inr (4, [.ref x12, .ref x13, .ref x14])), (x12, .inl (k 0, 4, .inl g0)), (x13, .inl (k 0, 4, .inl g1)), (x14, .inl (k 6, 4, .inr (.inr (.inr (.inr (va_up (va_up (va_up (va_up (fun _ => none) 0 (some x15)) 1 (some x16)) 2 (some x17)) 3 (some x18))))))), (x18, .inl (k 2, 60, .inr (.inl g2)))])) (QI D (S := UT) (fun r u => r = a_row 3 p1 p2) (fun u => []) (fun _ => []) [(x0, .inr (9, [.ref x1, .ref x2, .ref x3, .ref x4, .ref x5, .ref x6, .ref x7, .ref x8, .ref x9, .ref x10, .ref x11])), (x6, .inr (4, [.ref x12, .ref x13, .ref x14])), (x12, .inl (k 0, 4, .inl g0)), (x13, .inl (k 0, 4, .inl g1)), (x14, .inl (k 6, 4, .inr (.inr (.inr (.inr (va_up (va_up (va_up (va_up (fun _ => none) 0 (some x15)) 1 (some x16)) 2 (some x17)) 3 (some x18))))))), (x18, .inl (k 2, 60, .inr (.inl g2)))] sz) 0 0 (va_A [(x0, .inr (9, [.ref x1, .ref x2, .ref x3, .ref x4, .ref x5, .ref x6, .ref x7, .ref x8, .ref x9, .ref x10, .ref x11])), (x6, .inr (4, [.ref x12, .ref x13, .ref x14])), (x12, .inl (k 0, 4, .inl g0)), (x13, .inl (k 0, 4, .inl g1)), (x14, .inl (k 6, 4, .inr (.inr (.inr (.inr (va_up (va_up (va_up (va_up (fun _ => none) 0 (some x15)) 1 (some x16)) 2 (some x17)) 3 (some x18))))))), (x18, .inl (k 2, 60, .inr (.inl g2)))] sz) := by
  refine Met.ofW (cc := cX9_row) (maxL := 4) (ret := (some .int)) (by decide) rfl ?_
  intro p e s m args below meth c s₁ B hml hv
  obtain ⟨rfl, hsz, hP, hK, hD0, hN⟩ := hv
  have hx := B.exec
  have hb := B.bytes
  have hr := B.returns
  have hT : ∀ w ∈ TB, w.before ([.ref x0, .int 3, .int p1, .int p2] : List Value).toArray s = true := fun w h => atoms_spec (ws := .code yX9_row cX9_row 4 (some .int) :: TB) B.pre w (List.mem_cons_of_mem _ h)
  have hown : s.vm.findClass RX9 = some m.cls := findClass_of_methodNamed B.named
  have S : CallFix p m c cX9_row 4 s _ TB RX9 := ⟨hx, hb, hml, hown, hT⟩
  subst hsz
  have hD := hD0.self (sz := s.heap.size)
  generalize hAe : va_A [(x0, .inr (9, [.ref x1, .ref x2, .ref x3, .ref x4, .ref x5, .ref x6, .ref x7, .ref x8, .ref x9, .ref x10, .ref x11])), (x6, .inr (4, [.ref x12, .ref x13, .ref x14])), (x12, .inl (k 0, 4, .inl g0)), (x13, .inl (k 0, 4, .inl g1)), (x14, .inl (k 6, 4, .inr (.inr (.inr (.inr (va_up (va_up (va_up (va_up (fun _ => none) 0 (some x15)) 1 (some x16)) 2 (some x17)) 3 (some x18))))))), (x18, .inl (k 2, 60, .inr (.inl g2)))] s.heap.size = A at hD ⊢
  have hA : ∀ q : Nat, s.heap.size ≤ q → A q := fun q h => by rw [← hAe]; exact Or.inr h
  have hS : va_S A s.heap s.heap [] := va_S.rf
  have hP : va_P D vwCl [(x0, .inr (9, [.ref x1, .ref x2, .ref x3, .ref x4, .ref x5, .ref x6, .ref x7, .ref x8, .ref x9, .ref x10, .ref x11])), (x6, .inr (4, [.ref x12, .ref x13, .ref x14])), (x12, .inl (k 0, 4, .inl g0)), (x13, .inl (k 0, 4, .inl g1)), (x14, .inl (k 6, 4, .inr (.inr (.inr (.inr (va_up (va_up (va_up (va_up (fun _ => none) 0 (some x15)) 1 (some x16)) 2 (some x17)) 3 (some x18))))))), (x18, .inl (k 2, 60, .inr (.inl g2)))] s.heap := hP
  have hl := lv_entry ([.ref x0, .int 3, .int p1, .int p2]) (n := 4) (Nat.le_of_ble_eq_true rfl)
  rw [lg_entry_eq]
  generalize (lg_sl ([.ref x0, .int 3, .int p1, .int p2]) ++ List.replicate (4 - (lg_sl ([.ref x0, .int 3, .int p1, .int p2])).length) Slot.unset).toArray = ls at hl ⊢
  have hl : lv_has ls 4 [(0, .ref x0), (1, .int 3), (2, .int p1), (3, .int p2)] := hl
  refine lv_aload_n hx hb dX9_row_0 rfl (lv_at hl 0 rfl) ?_
  refine va_get (D := D) (ci := 9) (v := .ref x6) (C := RX9) (T := TX9) (N := 11) hx hb hT in_X9 hown hK hP 0 rfl rfl 5 (by decide) (hT _ t456) (fun _ h9 => h9) rfl dX9_row_1 ?_
  refine lv_iload_n hx hb dX9_row_4 rfl (lv_at hl 1 rfl) ?_
  refine ro_V (As := [.int 3]) (rest := []) S (c_X4_isSlotP l D k x6 x12 x13 x14 3 _) lkX9_238 ok_X4_isSlot ⟨rfl, rfl, Nat.le_of_ble_eq_true rfl, Nat.le_of_ble_eq_true rfl⟩ (pw_V (ci := 4) (q0 := 0) hK hN rfl rfl (hP.sub (ws' := [(x6, .inr (4, [.ref x12, .ref x13, .ref x14]))]) [1] rfl) ((d_sub (ws' := [(x6, .inr (4, [.ref x12, .ref x13, .ref x14]))]) hD [1] (by decide +kernel) rfl).weaken (fun _ _ _ _ => trivial))) rfl hl.1 rfl (Nat.le_of_ble_eq_true rfl) ⟨Nat.le_of_ble_eq_true rfl, Nat.le_of_ble_eq_true rfl⟩ dX9_row_5 (fun r_1 er_1 => ?_)
  rcases er_1 with ⟨er_1, gr_1⟩ | ⟨er_1, gr_1⟩
  · subst er_1
    refine lv_if_eq (tgt := 24) hx hb dX9_row_8 (by decide) (fun c_2 => ?_) (fun c_2 => ?_)
    · first | exact absurd c_2 (by decide) | exact absurd (by decide) c_2
    refine lv_iload_n hx hb dX9_row_11 rfl (lv_at hl 2 rfl) ?_
    refine ro_SX (As := [.int p1]) (rest := []) S (c_X4_isWidthP l D k p1 _) (gdC t1229) t1227 t1228 t111 ok_X4_isWidth ⟨rfl, rfl, Nat.le_of_ble_eq_true rfl, Nat.le_of_ble_eq_true rfl⟩ (pw_S hK hN (hP.sub (ws' := []) [] rfl) ((d_sub (ws' := []) hD [] (by decide +kernel) rfl).weaken (fun _ _ _ _ => trivial))) rfl hl.1 rfl (Nat.le_of_ble_eq_true rfl) ⟨Nat.le_of_ble_eq_true rfl, Nat.le_of_ble_eq_true rfl⟩ dX9_row_12 (fun r_3 er_3 => ?_)
    rcases er_3 with ⟨er_3, gr_3⟩ | ⟨er_3, gr_3⟩
    · subst er_3
      refine lv_if_eq (tgt := 24) hx hb dX9_row_15 (by decide) (fun c_4 => ?_) (fun c_4 => ?_)
      · first | exact absurd c_4 (by decide) | exact absurd (by decide) c_4
      refine lv_iload_n hx hb dX9_row_18 rfl (lv_at hl 3 rfl) ?_
      refine lv_bipush (v := 60) hx hb dX9_row_19 (by decide) ?_
      refine lv_icmp_le (tgt := 27) hx hb dX9_row_21 (by decide) (fun c_5 => ?_) (fun c_5 => ?_)
      · skip
        refine lv_iload_n hx hb dX9_row_27 rfl (lv_at hl 3 rfl) ?_
        refine lv_if_ge (tgt := 34) hx hb dX9_row_28 (by decide) (fun c_6 => ?_) (fun c_6 => ?_)
        · skip
          refine lv_aload_n hx hb dX9_row_34 rfl (lv_at hl 0 rfl) ?_
          refine va_get (D := D) (ci := 9) (v := .ref x6) (C := RX9) (T := TX9) (N := 11) hx hb hT in_X9 hown hK hP 0 rfl rfl 5 (by decide) (hT _ t456) (fun _ h9 => h9) rfl dX9_row_35 ?_
          refine lv_iload_n hx hb dX9_row_38 rfl (lv_at hl 1 rfl) ?_
          refine lv_iload_n hx hb dX9_row_39 rfl (lv_at hl 2 rfl) ?_
          refine lv_iload_n hx hb dX9_row_40 rfl (lv_at hl 3 rfl) ?_
          refine rw_v (wc := [(x6, .inr (4, [.ref x12, .ref x13, .ref x14])), (x12, .inl (k 0, 4, .inl g0)), (x13, .inl (k 0, 4, .inl g1)), (x14, .inl (k 6, 4, .inr (.inr (.inr (.inr (va_up (va_up (va_up (va_up (fun _ => none) 0 (some x15)) 1 (some x16)) 2 (some x17)) 3 (some x18))))))), (x18, .inl (k 2, 60, .inr (.inl g2)))]) (wr := [(x0, .inr (9, [.ref x1, .ref x2, .ref x3, .ref x4, .ref x5, .ref x6, .ref x7, .ref x8, .ref x9, .ref x10, .ref x11]))]) [1, 2, 3, 4, 5] [0] rfl rfl (by decide +kernel) (by decide +kernel) (by decide +kernel) hP hD hS hA (fun hPc hDc => run_V (As := [.int 3, .int p1, .int p2]) (rest := []) S (c_X4_beginW3 l D k x6 x12 x13 x14 x15 x16 x17 x18 g0 g1 g2 p1 p2 _) lkX9_419 ok_X4_begin ⟨rfl, rfl, Nat.le_of_ble_eq_true rfl, Nat.le_of_ble_eq_true rfl⟩ (pw_V (ci := 4) (q0 := 0) hK hN rfl rfl hPc hDc) rfl hl.1 rfl (Nat.le_of_ble_eq_true rfl) ⟨Nat.le_of_ble_eq_true rfl, Nat.le_of_ble_eq_true rfl⟩ dX9_row_41) (fun u41_1 H locs hu41_1 hKu41_1 hP9 hD9 hS9 => ?_)
          clear hP hD hS
          have hS := hS9
          have hP := hP9
          have hD := hD9
          clear hP9 hD9 hS9
          replace hP : va_P D vwCl [(x0, .inr (9, [.ref x1, .ref x2, .ref x3, .ref x4, .ref x5, .ref x6, .ref x7, .ref x8, .ref x9, .ref x10, .ref x11]))] H := hP
          replace hD : va_D A [(x0, .inr (9, [.ref x1, .ref x2, .ref x3, .ref x4, .ref x5, .ref x6, .ref x7, .ref x8, .ref x9, .ref x10, .ref x11]))] := hD
          refine lv_iconst (v := 0) hx hb dX9_row_44 (by decide) ?_
          have hP9 := hP.sub (ws' := []) [] rfl
          have hD9 := d_sub (ws' := []) hD [] (by decide +kernel) rfl
          have hK9 := hK.sub (tys' := []) [] rfl
          exact W.iret (v := 0) hx hb hr (fun t ht hW => ⟨⟨0, mkU [] [], rfl, (a_row_0 (show in4 3 from ⟨by decide, by decide⟩) gr_3 c_5 (Int32.not_lt.mpr c_6)), by rw [ht]; exact hP9, va_K.moved hW.alike hK9, by rw [hAe]; exact hD9⟩, by rw [hAe]; exact hS.F ht⟩) hS.2.2 dX9_row_45
        · skip
          refine lv_bipush (v := (-3)) hx hb dX9_row_31 (by decide) ?_
          have hP9 := hP.sub (ws' := []) [] rfl
          have hD9 := d_sub (ws' := []) hD [] (by decide +kernel) rfl
          have hK9 := hK.sub (tys' := []) [] rfl
          exact W.iret (v := (-3)) hx hb hr (fun t ht hW => ⟨⟨(-3), mkU [] [], rfl, (a_row_3 (show in4 3 from ⟨by decide, by decide⟩) gr_3 c_5 (Int32.not_le.mp c_6)), by rw [ht]; exact hP9, va_K.moved hW.alike hK9, by rw [hAe]; exact hD9⟩, by rw [hAe]; exact hS.F ht⟩) hS.2.2 dX9_row_33
      · skip
        refine lv_bipush (v := (-2)) hx hb dX9_row_24 (by decide) ?_
        have hP9 := hP.sub (ws' := []) [] rfl
        have hD9 := d_sub (ws' := []) hD [] (by decide +kernel) rfl
        have hK9 := hK.sub (tys' := []) [] rfl
        exact W.iret (v := (-2)) hx hb hr (fun t ht hW => ⟨⟨(-2), mkU [] [], rfl, (a_row_2 (Or.inr (Or.inr (Int32.not_le.mp c_5)))), by rw [ht]; exact hP9, va_K.moved hW.alike hK9, by rw [hAe]; exact hD9⟩, by rw [hAe]; exact hS.F ht⟩) hS.2.2 dX9_row_26
    · subst er_3
      refine lv_if_eq (tgt := 24) hx hb dX9_row_15 (by decide) (fun c_7 => ?_) (fun c_7 => ?_)
      rotate_left
      · first | exact absurd c_7 (by decide) | exact absurd (by decide) c_7
      refine lv_bipush (v := (-2)) hx hb dX9_row_24 (by decide) ?_
      have hP9 := hP.sub (ws' := []) [] rfl
      have hD9 := d_sub (ws' := []) hD [] (by decide +kernel) rfl
      have hK9 := hK.sub (tys' := []) [] rfl
      exact W.iret (v := (-2)) hx hb hr (fun t ht hW => ⟨⟨(-2), mkU [] [], rfl, (a_row_2 (Or.inr (Or.inl gr_3))), by rw [ht]; exact hP9, va_K.moved hW.alike hK9, by rw [hAe]; exact hD9⟩, by rw [hAe]; exact hS.F ht⟩) hS.2.2 dX9_row_26
  · subst er_1
    exact absurd gr_1 (by decide)
set_option maxHeartbeats 4000000 in
set_option maxRecDepth 100000 in
theorem c_X9_rowWN (l : Launch) (D : va_G) (k : Nat → ClassId) (x0 x1 x2 x3 x4 x5 x6 x7 x8 x9 x10 x11 x12 x13 x14 : Nat) (p0 p1 p2 : Int32) (hp : p0 < 0 ∨ 4 ≤ p0) (sz : Nat) : Met l yX9_row (.code yX9_row cX9_row 4 (some .int) :: TB) (rmw 2 0 0) (va_Pc [.ref x0, .int p0, .int p1, .int p2] (PW D k sz [(x0, .inr (9, [.ref x1, .ref x2, .ref x3, .ref x4, .ref x5, .ref x6, .ref x7, .ref x8, .ref x9, .ref x10, .ref x11])), (x6, .inr (4, [.ref x12, .ref x13, .ref x14]))])) (QI D (S := UT) (fun r u => r = a_row p0 p1 p2) (fun u => []) (fun _ => []) [(x0, .inr (9, [.ref x1, .ref x2, .ref x3, .ref x4, .ref x5, .ref x6, .ref x7, .ref x8, .ref x9, .ref x10, .ref x11])), (x6, .inr (4, [.ref x12, .ref x13, .ref x14]))] sz) 0 0 (va_A [(x0, .inr (9, [.ref x1, .ref x2, .ref x3, .ref x4, .ref x5, .ref x6, .ref x7, .ref x8, .ref x9, .ref x10, .ref x11])), (x6, .inr (4, [.ref x12, .ref x13, .ref x14]))] sz) := by
  refine Met.ofW (cc := cX9_row) (maxL := 4) (ret := (some .int)) (by decide) rfl ?_
  intro p e s m args below meth c s₁ B hml hv
  obtain ⟨rfl, hsz, hP, hK, hD0, hN⟩ := hv
  have hx := B.exec
  have hb := B.bytes
  have hr := B.returns
  have hT : ∀ w ∈ TB, w.before ([.ref x0, .int p0, .int p1, .int p2] : List Value).toArray s = true := fun w h => atoms_spec (ws := .code yX9_row cX9_row 4 (some .int) :: TB) B.pre w (List.mem_cons_of_mem _ h)
  have hown : s.vm.findClass RX9 = some m.cls := findClass_of_methodNamed B.named
  have S : CallFix p m c cX9_row 4 s _ TB RX9 := ⟨hx, hb, hml, hown, hT⟩
  subst hsz
  have hD := hD0.self (sz := s.heap.size)
  generalize hAe : va_A [(x0, .inr (9, [.ref x1, .ref x2, .ref x3, .ref x4, .ref x5, .ref x6, .ref x7, .ref x8, .ref x9, .ref x10, .ref x11])), (x6, .inr (4, [.ref x12, .ref x13, .ref x14]))] s.heap.size = A at hD ⊢
  have hA : ∀ q : Nat, s.heap.size ≤ q → A q := fun q h => by rw [← hAe]; exact Or.inr h
  have hS : va_S A s.heap s.heap [] := va_S.rf
  have hP : va_P D vwCl [(x0, .inr (9, [.ref x1, .ref x2, .ref x3, .ref x4, .ref x5, .ref x6, .ref x7, .ref x8, .ref x9, .ref x10, .ref x11])), (x6, .inr (4, [.ref x12, .ref x13, .ref x14]))] s.heap := hP
  have hl := lv_entry ([.ref x0, .int p0, .int p1, .int p2]) (n := 4) (Nat.le_of_ble_eq_true rfl)
  rw [lg_entry_eq]
  generalize (lg_sl ([.ref x0, .int p0, .int p1, .int p2]) ++ List.replicate (4 - (lg_sl ([.ref x0, .int p0, .int p1, .int p2])).length) Slot.unset).toArray = ls at hl ⊢
  have hl : lv_has ls 4 [(0, .ref x0), (1, .int p0), (2, .int p1), (3, .int p2)] := hl
  refine lv_aload_n hx hb dX9_row_0 rfl (lv_at hl 0 rfl) ?_
  refine va_get (D := D) (ci := 9) (v := .ref x6) (C := RX9) (T := TX9) (N := 11) hx hb hT in_X9 hown hK hP 0 rfl rfl 5 (by decide) (hT _ t456) (fun _ h9 => h9) rfl dX9_row_1 ?_
  refine lv_iload_n hx hb dX9_row_4 rfl (lv_at hl 1 rfl) ?_
  refine ro_V (As := [.int p0]) (rest := []) S (c_X4_isSlotP l D k x6 x12 x13 x14 p0 _) lkX9_238 ok_X4_isSlot ⟨rfl, rfl, Nat.le_of_ble_eq_true rfl, Nat.le_of_ble_eq_true rfl⟩ (pw_V (ci := 4) (q0 := 0) hK hN rfl rfl (hP.sub (ws' := [(x6, .inr (4, [.ref x12, .ref x13, .ref x14]))]) [1] rfl) ((d_sub (ws' := [(x6, .inr (4, [.ref x12, .ref x13, .ref x14]))]) hD [1] (by decide +kernel) rfl).weaken (fun _ _ _ _ => trivial))) rfl hl.1 rfl (Nat.le_of_ble_eq_true rfl) ⟨Nat.le_of_ble_eq_true rfl, Nat.le_of_ble_eq_true rfl⟩ dX9_row_5 (fun r_1 er_1 => ?_)
  rcases er_1 with ⟨er_1, gr_1⟩ | ⟨er_1, gr_1⟩
  · subst er_1
    exact absurd hp (fun z9 => z9.elim gr_1.1 (Int32.not_le.mpr gr_1.2))
  · subst er_1
    refine lv_if_eq (tgt := 24) hx hb dX9_row_8 (by decide) (fun c_2 => ?_) (fun c_2 => ?_)
    rotate_left
    · first | exact absurd c_2 (by decide) | exact absurd (by decide) c_2
    refine lv_bipush (v := (-2)) hx hb dX9_row_24 (by decide) ?_
    have hP9 := hP.sub (ws' := []) [] rfl
    have hD9 := d_sub (ws' := []) hD [] (by decide +kernel) rfl
    have hK9 := hK.sub (tys' := []) [] rfl
    exact W.iret (v := (-2)) hx hb hr (fun t ht hW => ⟨⟨(-2), mkU [] [], rfl, (a_row_2 (Or.inl hp)), by rw [ht]; exact hP9, va_K.moved hW.alike hK9, by rw [hAe]; exact hD9⟩, by rw [hAe]; exact hS.F ht⟩) hS.2.2 dX9_row_26
