/-! calls that write: the callee's cells among the caller's, by their places -/
def va_AOA (t : FieldType) (U : State) : Prop := (Cond.arrayOver (.array t)).before #[] U = true
theorem va_AOA.use {t : FieldType} {A : Array Value} {U : State} (h : va_AOA t U) : (Cond.arrayOver (.array t)).before A U = true := h
theorem fi_mv {u U : Vm} (hvm : u.Alike U) (comp : ClassId) (f : Class → Bool) (hf : f = (fun (x : Class) => match x.kind with | .array component _ => component == comp | _ => false)) : U.classes.findIdx? f = u.classes.findIdx? f := by
  subst hf
  exact (va_idx_bare U comp).symm.trans ((congrArg (fun v : Vm => v.classes.findIdx? (fun (x : Class) => match x.kind with | .array component _ => component == comp | _ => false)) hvm.bare_eq).trans (va_idx_bare u comp))
theorem aoa_mv {t : FieldType} {u U : State} (hvm : u.vm.Alike U.vm) (h : va_AOA t u) : va_AOA t U := by
  unfold va_AOA Cond.before Cond.holds at h ⊢
  simp only [Cond.value, beq_iff_eq, Option.bind_eq_some_iff, Option.map_eq_some_iff] at h ⊢
  obtain ⟨comp, hc, cc, hi, kk, hk, hb⟩ := h
  obtain ⟨k', hk', he⟩ := hvm.2.2 _ _ hk
  have hkd : k'.kind = kk.kind := by rw [he]
  refine ⟨comp, by rw [hvm.findClass]; exact hc, cc, ?_, k', hk', ?_⟩
  · rw [fi_mv hvm comp]
    · exact hi
    · rfl
  · rw [hkd, hvm.findClass]
    exact hb
def nestW : List Cond := [.methodLinkNest RX9 9 yX2_init "WheelMemory", .methodLinkNest RX2 11 yX6_init "WheelMemory", .methodLinkNest RX2 20 yX1_init "WheelMemory", .methodLinkNest RX9 23 yX8_init "WheelMemory", .methodLinkNest RX8 11 yX1_init "WheelMemory", .methodLinkNest RX9 52 yX7_init "WheelMemory", .methodLinkNest RX9 66 yX0_init "WheelMemory"]
/-- what the tables say that a call does not carry by itself -/
def NX (U : State) : Prop := (∀ w ∈ nestW, va_Nw w U) ∧ va_AO "WheelMemory$World" U ∧ va_AO "WheelMemory$State" U ∧ va_AOA .long U
theorem NX.warm {s U : State} (hW : s.WarmedH U.vm) (h : NX s) : NX U := by
  obtain ⟨h1, h2, h3, h4⟩ := h
  refine ⟨?_, va_AO.moved hW.alike h2, va_AO.moved hW.alike h3, aoa_mv hW.alike h4⟩
  have g : ∀ w ∈ nestW, va_Nw w s → va_Nw w U := by
    intro w hw hs
    simp only [nestW, List.mem_cons, List.not_mem_nil, or_false] at hw
    rcases hw with rfl | rfl | rfl | rfl | rfl | rfl | rfl <;> exact va_Nw.warmM hW hs
  exact fun w hw => g w hw (h1 w hw)
theorem NX.same {s U : State} (hv : s.vm = U.vm) (h : NX s) : NX U := by
  obtain ⟨h1, h2, h3, h4⟩ := h
  have ha : s.vm.Alike U.vm := hv ▸ Vm.Alike.refl s.vm
  refine ⟨?_, va_AO.moved ha h2, va_AO.moved ha h3, aoa_mv ha h4⟩
  have g : ∀ w ∈ nestW, va_Nw w s → va_Nw w U := by
    intro w hw hs
    simp only [nestW, List.mem_cons, List.not_mem_nil, or_false] at hw
    rcases hw with rfl | rfl | rfl | rfl | rfl | rfl | rfl <;> exact va_Nw.same rfl hv hs
  exact fun w hw => g w hw (h1 w hw)
abbrev PW (D : va_G) (k : Nat → ClassId) (sz : Nat) (WS : va_W) : State → Prop := fun U => U.heap.size = sz ∧ va_P D vwCl WS U.heap ∧ va_K D vwCl (KT k) U ∧ va_D (fun _ => True) WS ∧ NX U
abbrev QV (D : va_G) {S : Type} (post : S → Prop) (OUT : S → va_W) (TY : S → List (ClassId × FieldType)) (WS : va_W) (sz : Nat) : Array Value → State → Outcome → State → Prop := va_Qv post (fun u t => va_P D vwCl (OUT u) t.heap ∧ va_K D vwCl (TY u) t ∧ va_D (va_A WS sz) (OUT u)) (va_A WS sz)
abbrev QI (D : va_G) {S : Type} (post : Int32 → S → Prop) (OUT : S → va_W) (TY : S → List (ClassId × FieldType)) (WS : va_W) (sz : Nat) : Array Value → State → Outcome → State → Prop := va_Qi post (fun u t => va_P D vwCl (OUT u) t.heap ∧ va_K D vwCl (TY u) t ∧ va_D (va_A WS sz) (OUT u)) (va_A WS sz)
theorem pw_blind {D : va_G} {k : Nat → ClassId} {sz : Nat} {WS : va_W} {av : List Value} : FrameBlind (va_Pc av (PW D k sz WS)) := fun a U g mk h => by
  obtain ⟨h0, h1, hP, hK, hD, hN⟩ := h
  exact ⟨h0, h1, hP, va_K.moved (u := U) (U := U.calling g mk a) (Vm.Alike.refl U.vm) hK, hD, NX.same (s := U) (U := U.calling g mk a) rfl hN⟩
theorem pw_S {D : va_G} {k : Nat → ClassId} {WS : va_W} {s : State} {H : Heap} {As : List Value} (hK : va_K D vwCl (KT k) s) (hN : NX s) (hP : va_P D vwCl WS H) (hD : va_D (fun _ => True) WS) : PreS s H (va_Pc As (PW D k H.size WS)) As :=
  ⟨pw_blind, fun U hU hW => ⟨rfl, by rw [hU], by rw [hU]; exact hP, va_K.moved hW.alike hK, hD, NX.warm hW hN⟩⟩
theorem pw_V {D : va_G} {k : Nat → ClassId} {WS : va_W} {s : State} {H : Heap} {As : List Value} {b ci q0 : Nat} {r : vw_C} {fs : List Value} (hK : va_K D vwCl (KT k) s) (hN : NX s) (hc : vwCl[ci]? = some r) (he : WS[q0]? = some (b, .inr (ci, fs))) (hP : va_P D vwCl WS H) (hD : va_D (fun _ => True) WS) : PreV s H r.1 b (va_Pc (.ref b :: As) (PW D k H.size WS)) As :=
  ⟨pw_blind, va_recv hK hP hc he, (pw_S hK hN hP hD).2⟩
theorem fm_of {ws wc : va_W} {is : List Nat} (h : is.map (fun i => ws[i]?) = wc.map some) : is.filterMap (fun i => ws[i]?) = wc := by
  have e : is.filterMap (fun i => ws[i]?) = (is.map (fun i => ws[i]?)).filterMap id := by rw [List.filterMap_map]; rfl
  rw [e, h, List.filterMap_map]
  show List.filterMap some wc = wc
  exact List.filterMap_some
theorem map_fl {ws ws' : va_W} : ∀ {is : List Nat}, is.filterMap (fun i => ws[i]?) = ws' → (is.filter (fun i => decide (i < ws.length))).map (fun i => ws[i]?) = ws'.map some := by
  intro is h
  subst h
  induction is with
  | nil => rfl
  | cons i is ih =>
    by_cases hi : i < ws.length
    · have e : ws[i]? = some ws[i] := List.getElem?_eq_getElem hi
      have h1 : (i :: is).filterMap (fun i => ws[i]?) = ws[i] :: is.filterMap (fun i => ws[i]?) := by simp [List.filterMap_cons, e]
      have h2 : (i :: is).filter (fun i => decide (i < ws.length)) = i :: is.filter (fun i => decide (i < ws.length)) := by simp [List.filter_cons, hi]
      rw [h1, h2, List.map_cons, List.map_cons, ih, e]
    · have e : ws[i]? = none := List.getElem?_eq_none (by omega)
      have h1 : (i :: is).filterMap (fun i => ws[i]?) = is.filterMap (fun i => ws[i]?) := by simp [List.filterMap_cons, e]
      have h2 : (i :: is).filter (fun i => decide (i < ws.length)) = is.filter (fun i => decide (i < ws.length)) := by simp [List.filter_cons, hi]
      rw [h1, h2, ih]
theorem nd_fl {pp : Nat → Bool} : ∀ {is : List Nat}, va_nd is = true → va_nd (is.filter pp) = true := by
  intro is
  induction is with
  | nil => intro _; rfl
  | cons i is ih =>
    intro h
    simp only [va_nd, Bool.and_eq_true] at h
    by_cases hp : pp i = true
    · rw [List.filter_cons_of_pos hp]
      simp only [va_nd, Bool.and_eq_true]
      refine ⟨?_, ih h.2⟩
      have h1 : i ∉ is := of_decide_eq_true h.1
      exact decide_eq_true (fun z => h1 (List.mem_filter.mp z).1)
    · rw [List.filter_cons_of_neg hp]
      exact ih h.2
theorem d_sub {A : Nat → Prop} {ws ws' : va_W} (hD : va_D A ws) (is : List Nat) (hn : va_nd is = true) (h : is.filterMap (fun i => ws[i]?) = ws') : va_D A ws' := hD.sub _ (nd_fl hn) (map_fl h)
section RW
variable {p : Program} {l : Launch} {e : Env} {R : Room} {s : State} {m : MethodId} {args : Array Value} {below : List Frame} {meth : Method} {c : Code} {H : Heap} {locs : List Loc} {cells slots : Nat} {Q : State → Prop} {pc : Nat} {ls : Array Slot} {rest st : List Value}
variable {cc : ByteArray} {nL n index maxL mc ms : Nat} {own C : String} {y : MethodName} {bytes : ByteArray} {ret : Option FieldType} {rm : Room} {Pc : Array Value → State → Prop} {Qc : Array Value → State → Outcome → State → Prop} {free : Addr → Prop} {b : Addr} {As : List Value}
variable {D : va_G} {A : Nat → Prop} {H0 : Heap} {ws wc wr : va_W}
theorem run_V (S : CallFix p m c cc nL s args TB own) (hM : Met l y (.code y bytes maxL ret :: TB) rm Pc Qc mc ms free)
    (hG : GoodIn TB (wsV own index C y (.code y bytes maxL ret :: TB))) (hd : okY y C n)
    (hrm : rm.cells = mc ∧ rm.slots = ms ∧ rm.frames + 1 ≤ R.frames ∧ 8 + (maxL + 11) + rm.locals ≤ R.locals)
    (hp : PreV s H C b Pc As) (hn : As.length = n) (hsize : ls.size = nL) (hst : st = As.reverse ++ .ref b :: rest) (hW : (rest.map fun v => v.category).sum ≤ 8)
    (hf : cells + mc ≤ R.cells ∧ slots + ms ≤ R.slots) (hdg : decode cc pc = .ok (.invokevirtual index, 3)) :
    va_Run p l e R s m args below meth c H locs cells slots mc ms (F0 m pc ls st) rest (Qc (Value.ref b :: As).toArray) free := by
  subst hst
  exact va_runV S hM (cwV n S.2.2.2.2 hG rfl hrm.1 hrm.2.1 hd hrm.2.2) hp rfl hn hsize rfl (lv_room hW) hdg hf
theorem run_S (S : CallFix p m c cc nL s args TB own) (hM : Met l y (.code y bytes maxL ret :: TB) rm Pc Qc mc ms free)
    (hG : GoodIn TB (.code y bytes maxL ret :: TB)) (h1 : Cond.methodLink own index y ∈ TB) (h2 : Cond.static y ∈ TB) (h3 : Cond.initialized y.cls ∈ TB) (hd : okY y C n)
    (hrm : rm.cells = mc ∧ rm.slots = ms ∧ rm.frames + 1 ≤ R.frames ∧ 8 + (maxL + 11) + rm.locals ≤ R.locals)
    (hp : PreS s H Pc As) (hn : As.length = n) (hsize : ls.size = nL) (hst : st = As.reverse ++ rest) (hW : (rest.map fun v => v.category).sum ≤ 8)
    (hf : cells + mc ≤ R.cells ∧ slots + ms ≤ R.slots) (hdg : decode cc pc = .ok (.invokestatic index, 3)) :
    va_Run p l e R s m args below meth c H locs cells slots mc ms (F0 m pc ls st) rest (Qc As.toArray) free := by
  subst hst
  exact va_runS S hM ⟨callB_of n S.2.2.2.2 hG rfl hrm.1 hrm.2.1 (S.2.2.2.2 _ h3) (S.2.2.2.2 _ h1) hd.2 hrm.2.2, S.2.2.2.2 _ h2⟩ hp rfl hn hsize rfl (lv_room hW) hdg hf
theorem run_I (S : CallFix p m c cc nL s args TB own) (hM : Met l y (.code y bytes maxL none :: TB) rm Pc Qc mc ms free)
    (hG : GoodIn TB (.code y bytes maxL none :: TB)) (h1 : Cond.methodLink own index y ∈ TB) (h2 : Cond.instanceMethod y ∈ TB) (h3 : Cond.initialized y.cls ∈ TB) (hy : y.name = "<init>") (hd : okY y C n)
    (hrm : rm.cells = mc ∧ rm.slots = ms ∧ rm.frames + 1 ≤ R.frames ∧ 8 + (maxL + 11) + rm.locals ≤ R.locals)
    (hp : PreS s H Pc (.ref b :: As)) (hn : As.length = n) (hsize : ls.size = nL) (hst : st = As.reverse ++ .ref b :: rest) (hW : (rest.map fun v => v.category).sum ≤ 8)
    (hf : cells + mc ≤ R.cells ∧ slots + ms ≤ R.slots) (hdg : decode cc pc = .ok (.invokespecial index, 3)) :
    va_Run p l e R s m args below meth c H locs cells slots mc ms (F0 m pc ls st) rest (Qc (Value.ref b :: As).toArray) free := by
  subst hst
  exact va_runI S hM (cwI n S.2.2.2.2 hG rfl hrm.1 hrm.2.1 (S.2.2.2.2 _ h3) (S.2.2.2.2 _ h1) (S.2.2.2.2 _ h2) hy hd.2 hrm.2.2) hp rfl hn hsize rfl (lv_room hW) hdg hf
theorem run_IN {host : String} (S : CallFix p m c cc nL s args TB own) (hM : Met l y (.code y bytes maxL none :: TB) rm Pc Qc mc ms free)
    (hG : GoodIn TB (.code y bytes maxL none :: TB)) (h1 : va_Nw (.methodLinkNest own index y host) s) (h2 : Cond.instanceMethod y ∈ TB) (h3 : Cond.initialized y.cls ∈ TB) (hy : y.name = "<init>") (hd : okY y C n)
    (hrm : rm.cells = mc ∧ rm.slots = ms ∧ rm.frames + 1 ≤ R.frames ∧ 8 + (maxL + 11) + rm.locals ≤ R.locals)
    (hp : PreS s H Pc (.ref b :: As)) (hn : As.length = n) (hsize : ls.size = nL) (hst : st = As.reverse ++ .ref b :: rest) (hW : (rest.map fun v => v.category).sum ≤ 8)
    (hf : cells + mc ≤ R.cells ∧ slots + ms ≤ R.slots) (hdg : decode cc pc = .ok (.invokespecial index, 3)) :
    va_Run p l e R s m args below meth c H locs cells slots mc ms (F0 m pc ls st) rest (Qc (Value.ref b :: As).toArray) free := by
  subst hst
  exact va_runIN (host := host) S hM ⟨va_cnB n S.2.2.2.2 hG rfl hrm.1 hrm.2.1 h1 (S.2.2.2.2 _ h3) hd.2 hrm.2.2, hy, S.2.2.2.2 _ h2⟩ hp rfl hn hsize rfl (lv_room hW) hdg hf
theorem rw_v {S : Type} {post : S → Prop} {OUT : S → va_W} {TY : S → List (ClassId × FieldType)} {a : Array Value} (isC isR : List Nat) (hC0 : isC.filterMap (fun i => ws[i]?) = wc) (hR0 : isR.filterMap (fun i => ws[i]?) = wr) (hnC : va_nd isC = true) (hnR : va_nd isR = true) (hdis : ∀ i ∈ isR, i ∉ isC)
    (hP : va_P D vwCl ws H) (hD : va_D A ws) (hS : va_S A H0 H locs) (hA : ∀ q, H0.size ≤ q → A q)
    (hr : va_P D vwCl wc H → va_D (fun _ => True) wc → va_Run p l e R s m args below meth c H locs cells slots mc ms (F0 m pc ls st) rest (QV D post OUT TY wc H.size a) (va_A wc H.size))
    (kk : ∀ (u : S) (H1 : Heap) (locs1 : List Loc), post u → va_K D vwCl (TY u) s → va_P D vwCl (wr ++ OUT u) H1 → va_D A (wr ++ OUT u) → va_S A H0 H1 locs1 → W p l e R s m args below meth c H1 locs1 (cells + mc) (slots + ms) Q (F0 m (pc + 3) ls rest)) : W p l e R s m args below meth c H locs cells slots Q (F0 m pc ls st) := by
  have hC := map_fl hC0
  have hR := map_fl hR0
  have hF := va_free (wc := wc) hD hS hA _ hC
  have hPc := hP.sub (ws' := wc) isC hC0
  have hDc := hD.sub (ws' := wc) _ (nd_fl hnC) hC
  refine va_callv (hr hPc (hDc.weaken (fun _ _ _ _ => trivial))) hS (fun q _ h => hF q h) hF (fun u t H1 locs1 ht hvm hw hB hz1 hk1 hS1 => ?_)
  obtain ⟨hP1, hK1, hD1⟩ := hB
  rw [ht] at hP1
  obtain ⟨hP2, hD2⟩ := va_join (wr := wr) (w1 := OUT u) hP hD _ _ hC hR (nd_fl hnR) (fun i hi hc => hdis i (List.mem_filter.mp hi).1 (List.mem_filter.mp hc).1) hk1 hF hP1 hD1
  exact kk u H1 locs1 hw (va_K.moved hvm.symm hK1) hP2 hD2 hS1
theorem rw_i {S : Type} {post : Int32 → S → Prop} {OUT : S → va_W} {TY : S → List (ClassId × FieldType)} {a : Array Value} (isC isR : List Nat) (hC0 : isC.filterMap (fun i => ws[i]?) = wc) (hR0 : isR.filterMap (fun i => ws[i]?) = wr) (hnC : va_nd isC = true) (hnR : va_nd isR = true) (hdis : ∀ i ∈ isR, i ∉ isC)
    (hP : va_P D vwCl ws H) (hD : va_D A ws) (hS : va_S A H0 H locs) (hA : ∀ q, H0.size ≤ q → A q)
    (hr : va_P D vwCl wc H → va_D (fun _ => True) wc → va_Run p l e R s m args below meth c H locs cells slots mc ms (F0 m pc ls st) rest (QI D post OUT TY wc H.size a) (va_A wc H.size))
    (kk : ∀ (r : Int32) (u : S) (H1 : Heap) (locs1 : List Loc), post r u → va_K D vwCl (TY u) s → va_P D vwCl (wr ++ OUT u) H1 → va_D A (wr ++ OUT u) → va_S A H0 H1 locs1 → W p l e R s m args below meth c H1 locs1 (cells + mc) (slots + ms) Q (F0 m (pc + 3) ls (.int r :: rest))) : W p l e R s m args below meth c H locs cells slots Q (F0 m pc ls st) := by
  have hC := map_fl hC0
  have hR := map_fl hR0
  have hF := va_free (wc := wc) hD hS hA _ hC
  have hPc := hP.sub (ws' := wc) isC hC0
  have hDc := hD.sub (ws' := wc) _ (nd_fl hnC) hC
  refine va_calli (hr hPc (hDc.weaken (fun _ _ _ _ => trivial))) hS (fun q _ h => hF q h) hF (fun r u t H1 locs1 ht hvm hw hB hz1 hk1 hS1 => ?_)
  obtain ⟨hP1, hK1, hD1⟩ := hB
  rw [ht] at hP1
  obtain ⟨hP2, hD2⟩ := va_join (wr := wr) (w1 := OUT u) hP hD _ _ hC hR (nd_fl hnR) (fun i hi hc => hdis i (List.mem_filter.mp hi).1 (List.mem_filter.mp hc).1) hk1 hF hP1 hD1
  exact kk r u H1 locs1 hw (va_K.moved hvm.symm hK1) hP2 hD2 hS1
/-- a new array of a known class -/
theorem n_newa {tys : List (ClassId × FieldType)} {cT : ClassId} {atype : ArrayType} {ty : FieldType} (t0 : Nat) (hra : ∀ c1 c2 : ClassId, va_RA s c1 ty → va_RA s c2 ty → c1 = c2) (ht : tys[t0]? = some (cT, ty)) (hexec : p.tables.exec = Jvm.exec) (hb : c.code = cc) (harr : (Cond.arrayClass (newarray.typeOf atype)).before args s = true) (hty : newarray.typeOf atype = ty) (hK : va_K D vwCl tys s) (hP : va_P D vwCl ws H) (hD : va_D A ws) (hS : va_S A H0 H locs) (hA : ∀ q, H0.size ≤ q → A q)
    {n : Int32} {N' : Nat} {a0 : vp_A} (ha : ∀ cA : ClassId, vp_cell cA a0 = arrV cA N' (fun _ => defaultValue ty)) (hn : ¬ n < 0) (hN : n.toNatClampNeg = N') (hbytes : N' * componentBytes ty ≤ 536870912) (hcells : cells + 1 ≤ R.cells) (hslots : slots + N' ≤ R.slots) (hdg : decode cc pc = .ok (.newarray atype, 2))
    (kk : ∀ (q : Nat) (H1 : Heap), va_P D vwCl (ws ++ [(q, .inl (cT, a0))]) H1 → va_D A (ws ++ [(q, .inl (cT, a0))]) → va_S A H0 H1 locs → W p l e R s m args below meth c H1 locs (cells + 1) (slots + N') Q (F0 m (pc + 2) ls (.ref q :: rest))) : W p l e R s m args below meth c H locs cells slots Q (F0 m pc ls (.int n :: rest)) := by
  refine va_newa hexec hb harr hty hK hP hD hS hA ha hn hN hbytes hcells hslots hdg (fun q cA H1 hK1 hP1 hD1 hS1 => ?_)
  have e1 : va_RA s cA ty := (hK1.2 tys.length (cA, ty) (by simp)).2
  have e2 : va_RA s cT ty := (hK.2 t0 _ ht).2
  obtain rfl := hra _ _ e1 e2
  exact kk q H1 hP1 hD1 hS1
end RW
theorem ra_obj {C : String} {s : State} (c1 c2 : ClassId) (h1 : va_RA s c1 (.object C)) (h2 : va_RA s c2 (.object C)) : c1 = c2 := Option.some.inj ((va_nmO h1 rfl).symm.trans (va_nmO h2 rfl))
theorem ra_int {s : State} (c1 c2 : ClassId) (h1 : va_RA s c1 .int) (h2 : va_RA s c2 .int) : c1 = c2 := Option.some.inj ((va_nm_int h1).symm.trans (va_nm_int h2))
theorem ra_byte {s : State} (c1 c2 : ClassId) (h1 : va_RA s c1 .byte) (h2 : va_RA s c2 .byte) : c1 = c2 := Option.some.inj ((va_nm_byte h1).symm.trans (va_nm_byte h2))
theorem ra_long {s : State} (c1 c2 : ClassId) (h1 : va_RA s c1 .long) (h2 : va_RA s c2 .long) : c1 = c2 := Option.some.inj ((va_nm_long h1).symm.trans (va_nm_long h2))
theorem ra_bool {s : State} (c1 c2 : ClassId) (h1 : va_RA s c1 .boolean) (h2 : va_RA s c2 .boolean) : c1 = c2 := Option.some.inj ((va_nm_boolean h1).symm.trans (va_nm_boolean h2))
abbrev rmw (n mc ms : Nat) : Room := { frames := 4 * n + 2, cells := mc, slots := ms, locals := 100 * n + 40 }
abbrev zI (k : Nat → ClassId) (a N : Nat) : Nat × va_E := (a, .inl (k 0, N, .inl (fun _ => 0)))
abbrev sI (k : Nat → ClassId) (a N : Nat) (f : Nat → Int32) : Nat × va_E := (a, .inl (k 0, N, .inl f))
abbrev UT : Type := (Nat → Nat) × (Nat → Nat → Int32)
abbrev mkU (l : List Nat) (f : List (Nat → Int32)) : UT := (fun i => l.getD i 0, fun i => f.getD i (fun _ => 0))
abbrev sJ (k : Nat → ClassId) (a N : Nat) (f : Nat → Int64) : Nat × va_E := (a, .inl (k 2, N, .inr (.inl f)))
theorem fillI_loop {p : Program} {l : Launch} {e : Env} {R : Room} {s : State} {m : MethodId} {args : Array Value} {below : List Frame} {meth : Method} {c : Code} {cells slots : Nat} {Q : State → Prop} {D : va_G} {k : Nat → ClassId} {A : Nat → Prop} {H0 : Heap} {a N : Nat} {v : Int32} (hN : N < 2 ^ 31) (hx : p.tables.exec = Jvm.exec) (hb : c.code = cJ7_fill_53178) (hK : va_K D vwCl (KT k) s)
    (hend : ∀ (H : Heap) (locs : List Loc) (g : Nat → Int32) (ls : Array Slot), va_P D vwCl [sI k a N g] H → va_D A [sI k a N g] → va_S A H0 H locs → (∀ j, j < N → g j = v) → W p l e R s m args below meth c H locs cells slots Q (F0 m 20 ls [])) :
    ∀ (n i : Nat), i ≤ N → N - i < n → ∀ (H : Heap) (locs : List Loc) (g : Nat → Int32) (ls : Array Slot), va_P D vwCl [sI k a N g] H → va_D A [sI k a N g] → va_S A H0 H locs → (∀ j, j < i → g j = v) → lv_has ls 4 [(2, .int (nI i)), (3, .int (nI N)), (0, .ref a), (1, .int v)] → W p l e R s m args below meth c H locs cells slots Q (F0 m 5 ls []) := by
  intro n
  induction n with
  | zero => intro i _ h; omega
  | succ n ih =>
    intro i hi hn H locs g ls hP hD hS hg hl
    refine lv_iload_n hx hb dJ7_fill_53178_5 rfl (lv_at hl 0 rfl) ?_
    refine lv_iload_n hx hb dJ7_fill_53178_6 rfl (lv_at hl 1 rfl) ?_
    refine lv_icmp_ge (tgt := 20) hx hb dJ7_fill_53178_7 (by decide) (fun c1 => ?_) (fun c1 => ?_)
    · have hiN : i = N := by
        rcases Nat.lt_or_ge i N with q | q
        · exact absurd c1 (nI_ge q hN)
        · omega
      subst hiN
      exact hend H locs g ls hP hD hS hg
    · have hlt : i < N := by
        rcases Nat.lt_or_ge i N with q | q
        · exact q
        · exact absurd (nI_le q (by omega)) c1
      refine lv_aload_n hx hb dJ7_fill_53178_10 rfl (lv_at hl 2 rfl) ?_
      refine lv_iload_n hx hb dJ7_fill_53178_11 rfl (lv_at hl 0 rfl) ?_
      refine lv_iload_n hx hb dJ7_fill_53178_12 rfl (lv_at hl 3 rfl) ?_
      refine va_iast hx hb hK hP hD hS 0 0 rfl rfl (vp_in_nI hlt hN) dJ7_fill_53178_13 (fun H locs hP hD hS => ?_)
      have ei : (nI i).toNatClampNeg = i := nI_clamp (by omega)
      rw [ei] at hP hD
      have hP : va_P D vwCl [sI k a N (upd g i v)] H := hP
      have hD : va_D A [sI k a N (upd g i v)] := hD
      refine lv_iinc (v := nI (i + 1)) (lv' := [(2, .int (nI (i + 1))), (3, .int (nI N)), (0, .ref a), (1, .int v)]) hx hb dJ7_fill_53178_14 hl (k := 0) rfl (nI_1 i) (by decide) rfl (fun ls hl => ?_)
      refine lv_goto (tgt := 5) hx hb dJ7_fill_53178_17 (by decide) ?_
      exact ih (i + 1) hlt (by omega) H locs (upd g i v) ls hP hD hS (fun j hj => by
        by_cases h : j = i
        · subst h
          simp [upd]
        · have h2 : j < i := by omega
          simp [upd, h, hg j h2]) hl
set_option maxHeartbeats 4000000 in
set_option maxRecDepth 100000 in
theorem c_fillI (l : Launch) (D : va_G) (k : Nat → ClassId) (a N : Nat) (f : Nat → Int32) (v : Int32) (hNl : N < 2 ^ 31) (sz : Nat) : Met l yJ7_fill_53178 (.code yJ7_fill_53178 cJ7_fill_53178 4 none :: TB) (rmw 1 0 0) (va_Pc [.ref a, .int v] (PW D k sz [sI k a N f])) (QV D (S := Nat → Int32) (fun g => ∀ j, j < N → g j = v) (fun g => [sI k a N g]) (fun _ => []) [sI k a N f] sz) 0 0 (va_A [sI k a N f] sz) := by
  refine Met.ofW (cc := cJ7_fill_53178) (maxL := 4) (ret := none) (by decide) rfl ?_
  intro p e s m args below meth c s₁ B hml hv
  obtain ⟨rfl, hsz, hP, hK, hD0, hN⟩ := hv
  have hx := B.exec
  have hb := B.bytes
  have hr := B.returns
  have hT : ∀ w ∈ TB, w.before ([.ref a, .int v] : List Value).toArray s = true := fun w h => atoms_spec (ws := .code yJ7_fill_53178 cJ7_fill_53178 4 none :: TB) B.pre w (List.mem_cons_of_mem _ h)
  have hown : s.vm.findClass RJ7 = some m.cls := findClass_of_methodNamed B.named
  have S : CallFix p m c cJ7_fill_53178 4 s _ TB RJ7 := ⟨hx, hb, hml, hown, hT⟩
  subst hsz
  have hD := hD0.self (sz := s.heap.size)
  generalize hAe : va_A [sI k a N f] s.heap.size = A at hD ⊢
  have hA : ∀ q : Nat, s.heap.size ≤ q → A q := fun q h => by rw [← hAe]; exact Or.inr h
  have hS : va_S A s.heap s.heap [] := va_S.rf
  have hP : va_P D vwCl [sI k a N f] s.heap := hP
  have hl := lv_entry ([.ref a, .int v]) (n := 4) (Nat.le_of_ble_eq_true rfl)
  rw [lg_entry_eq]
  generalize (lg_sl ([.ref a, .int v]) ++ List.replicate (4 - (lg_sl ([.ref a, .int v])).length) Slot.unset).toArray = ls at hl ⊢
  have hl : lv_has ls 4 [(0, .ref a), (1, .int v)] := hl
  refine lv_iconst (v := 0) hx hb dJ7_fill_53178_0 (by decide) ?_
  refine lv_istore_n (lv' := [(2, .int 0), (0, .ref a), (1, .int v)]) hx hb dJ7_fill_53178_1 rfl hl (by decide) rfl (fun ls hl => ?_)
  refine lv_aload_n hx hb dJ7_fill_53178_2 rfl (lv_at hl 1 rfl) ?_
  refine va_alen (v := nI N) hx hb hK hP 0 0 rfl rfl rfl dJ7_fill_53178_3 ?_
  refine lv_istore_n (lv' := [(3, .int (nI N)), (2, .int 0), (0, .ref a), (1, .int v)]) hx hb dJ7_fill_53178_4 rfl hl (by decide) rfl (fun ls hl => ?_)
  refine fillI_loop (v := v) hNl hx hb hK (fun H locs g ls hP hD hS hg => ?_) (N + 1) 0 (Nat.zero_le _) (by omega) _ _ f ls hP hD hS (fun j hj => absurd hj (Nat.not_lt_zero j)) (lv_sub hl [1, 0, 2, 3] rfl)
  have hK9 := hK.sub (tys' := []) [] rfl
  exact W.vret hx hb hr (fun t ht hW => ⟨⟨g, rfl, hg, by rw [ht]; exact hP, va_K.moved hW.alike hK9, by rw [hAe]; exact hD⟩, by rw [hAe]; exact hS.F ht⟩) hS.2.2 dJ7_fill_53178_20

theorem fillJ_loop {p : Program} {l : Launch} {e : Env} {R : Room} {s : State} {m : MethodId} {args : Array Value} {below : List Frame} {meth : Method} {c : Code} {cells slots : Nat} {Q : State → Prop} {D : va_G} {k : Nat → ClassId} {A : Nat → Prop} {H0 : Heap} {a N : Nat} {v : Int64} (hN : N < 2 ^ 31) (hx : p.tables.exec = Jvm.exec) (hb : c.code = cJ7_fill_d0a16) (hK : va_K D vwCl (KT k) s)
    (hend : ∀ (H : Heap) (locs : List Loc) (g : Nat → Int64) (ls : Array Slot), va_P D vwCl [sJ k a N g] H → va_D A [sJ k a N g] → va_S A H0 H locs → (∀ j, j < N → g j = v) → W p l e R s m args below meth c H locs cells slots Q (F0 m 22 ls [])) :
    ∀ (n i : Nat), i ≤ N → N - i < n → ∀ (H : Heap) (locs : List Loc) (g : Nat → Int64) (ls : Array Slot), va_P D vwCl [sJ k a N g] H → va_D A [sJ k a N g] → va_S A H0 H locs → (∀ j, j < i → g j = v) → lv_has ls 5 [(3, .int (nI i)), (4, .int (nI N)), (0, .ref a), (1, .long v)] → W p l e R s m args below meth c H locs cells slots Q (F0 m 6 ls []) := by
  intro n
  induction n with
  | zero => intro i _ h; omega
  | succ n ih =>
    intro i hi hn H locs g ls hP hD hS hg hl
    refine lv_iload_n hx hb dJ7_fill_d0a16_6 rfl (lv_at hl 0 rfl) ?_
    refine lv_iload hx hb dJ7_fill_d0a16_7 (lv_at hl 1 rfl) ?_
    refine lv_icmp_ge (tgt := 22) hx hb dJ7_fill_d0a16_9 (by decide) (fun c1 => ?_) (fun c1 => ?_)
    · have hiN : i = N := by
        rcases Nat.lt_or_ge i N with q | q
        · exact absurd c1 (nI_ge q hN)
        · omega
      subst hiN
      exact hend H locs g ls hP hD hS hg
    · have hlt : i < N := by
        rcases Nat.lt_or_ge i N with q | q
        · exact q
        · exact absurd (nI_le q (by omega)) c1
      refine lv_aload_n hx hb dJ7_fill_d0a16_12 rfl (lv_at hl 2 rfl) ?_
      refine lv_iload_n hx hb dJ7_fill_d0a16_13 rfl (lv_at hl 0 rfl) ?_
      refine lv_lload_n hx hb dJ7_fill_d0a16_14 rfl (lv_at hl 3 rfl) ?_
      refine va_last hx hb hK hP hD hS 0 2 rfl rfl (vp_in_nI hlt hN) dJ7_fill_d0a16_15 (fun H locs hP hD hS => ?_)
      have ei : (nI i).toNatClampNeg = i := nI_clamp (by omega)
      rw [ei] at hP hD
      have hP : va_P D vwCl [sJ k a N (vp_updL g i v)] H := hP
      have hD : va_D A [sJ k a N (vp_updL g i v)] := hD
      refine lv_iinc (v := nI (i + 1)) (lv' := [(3, .int (nI (i + 1))), (4, .int (nI N)), (0, .ref a), (1, .long v)]) hx hb dJ7_fill_d0a16_16 hl (k := 0) rfl (nI_1 i) (by decide) rfl (fun ls hl => ?_)
      refine lv_goto (tgt := 6) hx hb dJ7_fill_d0a16_19 (by decide) ?_
      exact ih (i + 1) hlt (by omega) H locs (vp_updL g i v) ls hP hD hS (fun j hj => by
        by_cases h : j = i
        · subst h
          simp [vp_updL]
        · have h2 : j < i := by omega
          simp [vp_updL, h, hg j h2]) hl
set_option maxHeartbeats 4000000 in
set_option maxRecDepth 100000 in
theorem c_fillJ (l : Launch) (D : va_G) (k : Nat → ClassId) (a N : Nat) (f : Nat → Int64) (v : Int64) (hNl : N < 2 ^ 31) (sz : Nat) : Met l yJ7_fill_d0a16 (.code yJ7_fill_d0a16 cJ7_fill_d0a16 5 none :: TB) (rmw 1 0 0) (va_Pc [.ref a, .long v] (PW D k sz [sJ k a N f])) (QV D (S := Nat → Int64) (fun g => ∀ j, j < N → g j = v) (fun g => [sJ k a N g]) (fun _ => []) [sJ k a N f] sz) 0 0 (va_A [sJ k a N f] sz) := by
  refine Met.ofW (cc := cJ7_fill_d0a16) (maxL := 5) (ret := none) (by decide) rfl ?_
  intro p e s m args below meth c s₁ B hml hv
  obtain ⟨rfl, hsz, hP, hK, hD0, hN⟩ := hv
  have hx := B.exec
  have hb := B.bytes
  have hr := B.returns
  have hT : ∀ w ∈ TB, w.before ([.ref a, .long v] : List Value).toArray s = true := fun w h => atoms_spec (ws := .code yJ7_fill_d0a16 cJ7_fill_d0a16 5 none :: TB) B.pre w (List.mem_cons_of_mem _ h)
  have hown : s.vm.findClass RJ7 = some m.cls := findClass_of_methodNamed B.named
  have S : CallFix p m c cJ7_fill_d0a16 5 s _ TB RJ7 := ⟨hx, hb, hml, hown, hT⟩
  subst hsz
  have hD := hD0.self (sz := s.heap.size)
  generalize hAe : va_A [sJ k a N f] s.heap.size = A at hD ⊢
  have hA : ∀ q : Nat, s.heap.size ≤ q → A q := fun q h => by rw [← hAe]; exact Or.inr h
  have hS : va_S A s.heap s.heap [] := va_S.rf
  have hP : va_P D vwCl [sJ k a N f] s.heap := hP
  have hl := lv_entry ([.ref a, .long v]) (n := 5) (Nat.le_of_ble_eq_true rfl)
  rw [lg_entry_eq]
  generalize (lg_sl ([.ref a, .long v]) ++ List.replicate (5 - (lg_sl ([.ref a, .long v])).length) Slot.unset).toArray = ls at hl ⊢
  have hl : lv_has ls 5 [(0, .ref a), (1, .long v)] := hl
  refine lv_iconst (v := 0) hx hb dJ7_fill_d0a16_0 (by decide) ?_
  refine lv_istore_n (lv' := [(3, .int 0), (0, .ref a), (1, .long v)]) hx hb dJ7_fill_d0a16_1 rfl hl (by decide) rfl (fun ls hl => ?_)
  refine lv_aload_n hx hb dJ7_fill_d0a16_2 rfl (lv_at hl 1 rfl) ?_
  refine va_alen (v := nI N) hx hb hK hP 0 2 rfl rfl rfl dJ7_fill_d0a16_3 ?_
  refine lv_istore (lv' := [(4, .int (nI N)), (3, .int 0), (0, .ref a), (1, .long v)]) hx hb dJ7_fill_d0a16_4 hl (by decide) rfl (fun ls hl => ?_)
  refine fillJ_loop (v := v) hNl hx hb hK (fun H locs g ls hP hD hS hg => ?_) (N + 1) 0 (Nat.zero_le _) (by omega) _ _ f ls hP hD hS (fun j hj => absurd hj (Nat.not_lt_zero j)) (lv_sub hl [1, 0, 2, 3] rfl)
  have hK9 := hK.sub (tys' := []) [] rfl
  exact W.vret hx hb hr (fun t ht hW => ⟨⟨g, rfl, hg, by rw [ht]; exact hP, va_K.moved hW.alike hK9, by rw [hAe]; exact hD⟩, by rw [hAe]; exact hS.F ht⟩) hS.2.2 dJ7_fill_d0a16_22
