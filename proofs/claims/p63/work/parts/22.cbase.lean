/-! whole worlds: calls, stores, frames -/
theorem nm_0 {c : Nat} : c ∉ ([] : List Nat) := List.not_mem_nil
theorem nm_1 {c q : Nat} {l : List Nat} (h : c ≠ q) (h2 : c ∉ l) : c ∉ q :: l := List.not_mem_cons_of_ne_of_not_mem h h2
theorem sub_0 {M : List Nat} : ∀ c ∈ ([] : List Nat), c ∈ M := fun c h => absurd h List.not_mem_nil
theorem sub_1 {q : Nat} {l M : List Nat} (h : q ∈ M) (h2 : ∀ c ∈ l, c ∈ M) : ∀ c ∈ q :: l, c ∈ M := fun c hc => by
  rcases List.mem_cons.mp hc with rfl | hc
  · exact h
  · exact h2 c hc
theorem ne_cx {x c o : Nat} (mx : x ∈ SC) (h : ∀ z ∈ SC, c ≠ z + o) : c ≠ x + o := h x mx
theorem ne_xc {x c o : Nat} (mx : x ∈ SC) (h : ∀ z ∈ SC, z + o ≠ c) : x + o ≠ c := h x mx
theorem ne_xy {x y o p : Nat} (mx : x ∈ SC) (my : y ∈ SC) (h : ∀ z ∈ SC, ∀ w ∈ SC, z + o ≠ w + p) : x + o ≠ y + p := h x mx y my
def FR (M : List Nat) (st u : CT) : Prop := ∀ c : Nat, c ∉ M → u c = st c
theorem fr_rf {M : List Nat} {st : CT} : FR M st st := fun _ _ => rfl
theorem fr_sw {M : List Nat} {st u v : CT} {q : Nat} {f : Nat → Int32} (h : FR M st u) (hq : q ∈ M) (e : v = sw u q f) : FR M st v := fun c hc => (sw_at e (fun z => hc (by rw [z]; exact hq))).trans (h c hc)
theorem fr_ca {M M2 : List Nat} {st u v : CT} (h : FR M st u) (h2 : FR M2 u v) (hs : ∀ c ∈ M2, c ∈ M) : FR M st v := fun c hc => (h2 c (fun z => hc (hs c z))).trans (h c hc)
theorem nd_of {l : List Nat} (h : l.Nodup) : va_nd l = true := by
  induction l with
  | nil => rfl
  | cons a l ih =>
    rw [List.nodup_cons] at h
    simp only [va_nd, Bool.and_eq_true, decide_eq_true_eq]
    exact ⟨h.1, ih h.2⟩
theorem fm_range (ws : va_W) : (List.range ws.length).filterMap (fun i => ws[i]?) = ws := by
  apply List.ext_getElem?
  intro i
  have h : ∀ (w : va_W), (List.range w.length).filterMap (fun i => w[i]?) = w := by
    intro w
    induction w with
    | nil => rfl
    | cons a w ih =>
      rw [List.length_cons, List.range_succ_eq_map, List.filterMap_cons]
      simp only [List.getElem?_cons_zero, List.filterMap_map]
      congr 1
  rw [h]
section CAL
variable {p : Program} {l : Launch} {e : Env} {R : Room} {s : State} {m : MethodId} {args : Array Value} {below : List Frame} {meth : Method} {c : Code} {H : Heap} {locs : List Loc} {cells slots : Nat} {Q : State → Prop} {pc : Nat} {ls : Array Slot} {rest stk : List Value} {D : va_G} {A : Nat → Prop} {H0 : Heap} {ws : va_W} {cc : ByteArray} {k : Nat → ClassId} {a : Nat → Nat} {st : CT} {sl : CL} {WS : CT → CL → va_W}
theorem nameQ {g : JFrame} (kk : ∀ Q' : State → Prop, Q' = Q → W p l e R s m args below meth c H locs cells slots Q' g) : W p l e R s m args below meth c H locs cells slots Q g := kk Q rfl
theorem ca_i {S : Type} {post : Int32 → S → Prop} {OUT : S → va_W} {a9 : Array Value} (hP : va_P D vwCl ws H) (hD : va_D A ws) (hS : va_S A H0 H locs) (hA : ∀ q, H0.size ≤ q → A q)
    (hr : va_D (fun _ => True) ws → va_Run p l e R s m args below meth c H locs cells slots 0 0 (F0 m pc ls stk) rest (QI D post OUT (fun _ => []) ws H.size a9) (va_A ws H.size))
    (kk : ∀ (r : Int32) (u : S) (H1 : Heap) (locs1 : List Loc), post r u → va_P D vwCl (OUT u) H1 → va_D A (OUT u) → va_S A H0 H1 locs1 → W p l e R s m args below meth c H1 locs1 cells slots Q (F0 m (pc + 3) ls (.int r :: rest))) : W p l e R s m args below meth c H locs cells slots Q (F0 m pc ls stk) :=
  rw_i (mc := 0) (ms := 0) (wc := ws) (wr := []) (List.range ws.length) [] (fm_range ws) rfl (nd_of List.nodup_range) rfl (fun i hi => absurd hi List.not_mem_nil) hP hD hS hA (fun _ hDc => hr hDc) (fun r u H1 locs1 h1 _ hP1 hD1 hS1 => kk r u H1 locs1 h1 hP1 hD1 hS1)
theorem ca_v {S : Type} {post : S → Prop} {OUT : S → va_W} {a9 : Array Value} (hP : va_P D vwCl ws H) (hD : va_D A ws) (hS : va_S A H0 H locs) (hA : ∀ q, H0.size ≤ q → A q)
    (hr : va_D (fun _ => True) ws → va_Run p l e R s m args below meth c H locs cells slots 0 0 (F0 m pc ls stk) rest (QV D post OUT (fun _ => []) ws H.size a9) (va_A ws H.size))
    (kk : ∀ (u : S) (H1 : Heap) (locs1 : List Loc), post u → va_P D vwCl (OUT u) H1 → va_D A (OUT u) → va_S A H0 H1 locs1 → W p l e R s m args below meth c H1 locs1 cells slots Q (F0 m (pc + 3) ls rest)) : W p l e R s m args below meth c H locs cells slots Q (F0 m pc ls stk) :=
  rw_v (mc := 0) (ms := 0) (wc := ws) (wr := []) (List.range ws.length) [] (fm_range ws) rfl (nd_of List.nodup_range) rfl (fun i hi => absurd hi List.not_mem_nil) hP hD hS hA (fun _ hDc => hr hDc) (fun u H1 locs1 h1 _ hP1 hD1 hS1 => kk u H1 locs1 h1 hP1 hD1 hS1)
theorem c_ist {q ad N : Nat} {i v : Int32} (hx : p.tables.exec = Jvm.exec) (hb : c.code = cc) (hK : va_K D vwCl (KT k) s) (hP : va_P D vwCl (WS st sl) H) (hD : va_D A (WS st sl)) (hS : va_S A H0 H locs) (hg : (WS st sl)[q]? = some (ad, .inl (k 0, N, .inl (st q)))) (hs : ∀ f : Nat → Int32, (WS st sl).set q (ad, .inl (k 0, N, .inl f)) = WS (sw st q f) sl) (hin : vp_in i N) (hdg : decode cc pc = .ok (.iastore, 1))
    (kk : ∀ (st9 : CT) (H1 : Heap) (locs1 : List Loc), st9 = sw st q (upd (st q) i.toNatClampNeg v) → va_P D vwCl (WS st9 sl) H1 → va_D A (WS st9 sl) → va_S A H0 H1 locs1 → W p l e R s m args below meth c H1 locs1 cells slots Q (F0 m (pc + 1) ls rest)) : W p l e R s m args below meth c H locs cells slots Q (F0 m pc ls (.int v :: .int i :: .ref ad :: rest)) :=
  va_iast hx hb hK hP hD hS q 0 hg rfl hin hdg (fun H1 locs1 hP1 hD1 hS1 => kk _ H1 locs1 rfl (by rw [← hs]; exact hP1) (by rw [← hs]; exact hD1) hS1)
theorem c_bst {q ad N : Nat} {i v : Int32} (hx : p.tables.exec = Jvm.exec) (hb : c.code = cc) (hK : va_K D vwCl (KT k) s) (hP : va_P D vwCl (WS st sl) H) (hD : va_D A (WS st sl)) (hS : va_S A H0 H locs) (hg : (WS st sl)[q]? = some (ad, .inl (k 1, N, .inl (st q)))) (hs : ∀ f : Nat → Int32, (WS st sl).set q (ad, .inl (k 1, N, .inl f)) = WS (sw st q f) sl) (hin : vp_in i N) (hdg : decode cc pc = .ok (.bastore, 1))
    (kk : ∀ (st9 : CT) (H1 : Heap) (locs1 : List Loc), st9 = sw st q (upd (st q) i.toNatClampNeg (vp_nar .byte v)) → va_P D vwCl (WS st9 sl) H1 → va_D A (WS st9 sl) → va_S A H0 H1 locs1 → W p l e R s m args below meth c H1 locs1 cells slots Q (F0 m (pc + 1) ls rest)) : W p l e R s m args below meth c H locs cells slots Q (F0 m pc ls (.int v :: .int i :: .ref ad :: rest)) :=
  va_bast hx hb hK hP hD hS q 1 hg rfl hin hdg (fun H1 locs1 hP1 hD1 hS1 => kk _ H1 locs1 rfl (by rw [← hs]; exact hP1) (by rw [← hs]; exact hD1) hS1)
theorem c_zst {q ad N : Nat} {i v : Int32} (hx : p.tables.exec = Jvm.exec) (hb : c.code = cc) (hK : va_K D vwCl (KT k) s) (hP : va_P D vwCl (WS st sl) H) (hD : va_D A (WS st sl)) (hS : va_S A H0 H locs) (hg : (WS st sl)[q]? = some (ad, .inl (k 3, N, .inl (st q)))) (hs : ∀ f : Nat → Int32, (WS st sl).set q (ad, .inl (k 3, N, .inl f)) = WS (sw st q f) sl) (hin : vp_in i N) (hdg : decode cc pc = .ok (.bastore, 1))
    (kk : ∀ (st9 : CT) (H1 : Heap) (locs1 : List Loc), st9 = sw st q (upd (st q) i.toNatClampNeg (vp_nar .boolean v)) → va_P D vwCl (WS st9 sl) H1 → va_D A (WS st9 sl) → va_S A H0 H1 locs1 → W p l e R s m args below meth c H1 locs1 cells slots Q (F0 m (pc + 1) ls rest)) : W p l e R s m args below meth c H locs cells slots Q (F0 m pc ls (.int v :: .int i :: .ref ad :: rest)) :=
  va_zast hx hb hK hP hD hS q 3 hg rfl hin hdg (fun H1 locs1 hP1 hD1 hS1 => kk _ H1 locs1 rfl (by rw [← hs]; exact hP1) (by rw [← hs]; exact hD1) hS1)
theorem c_put {q ad ci N index j : Nat} {C own : String} {T : u_T} {fs : List Value} {Ts : List Cond} {v : Int32} (hx : p.tables.exec = Jvm.exec) (hb : c.code = cc) (hts : ∀ w ∈ Ts, w.before args s = true) (hin : ∀ w ∈ u_ws C T N, w ∈ Ts) (ty0 : Nat → FieldType) (hty : ∀ k, k < N → parseFieldDescriptor (T k).2.2.1 = some (ty0 k)) (hnm : ∀ a, a < N → ∀ b, b < N → a ≠ b → (T a).2.1 ≠ (T b).2.1) (hown : s.vm.findClass own = some m.cls) (hK : va_K D vwCl (KT k) s) (hP : va_P D vwCl (WS st sl) H) (hD : va_D A (WS st sl)) (hS : va_S A H0 H locs) (he : (WS st sl)[q]? = some (ad, .inr (ci, fs))) (hc : vwCl[ci]? = some (C, T, N)) (hk : j < N) (hlink : (Cond.fieldLink own index (T j).1 (T j).2.1 (T j).2.2.1).before args s = true) (hfin : (T j).2.2.2 = false) (hd : parseFieldDescriptor (T j).2.2.1 = some .int) (hn : narrow .int (.int v) = .int v) (hfit : fits .int (.int v) = true) (hl : j < fs.length) (hs : (WS st sl).set q (ad, .inr (ci, fs.set j (.int v))) = WS (sw st q (upd (st q) j v)) sl) (hdg : decode cc pc = .ok (.putfield index, 3))
    (kk : ∀ (st9 : CT) (H1 : Heap) (locs1 : List Loc), st9 = sw st q (upd (st q) j v) → va_P D vwCl (WS st9 sl) H1 → va_D A (WS st9 sl) → va_S A H0 H1 locs1 → W p l e R s m args below meth c H1 locs1 cells slots Q (F0 m (pc + 3) ls rest)) : W p l e R s m args below meth c H locs cells slots Q (F0 m pc ls (.int v :: .ref ad :: rest)) :=
  va_put (ty := .int) hx hb hts hin ty0 hty hnm hown hK hP hD hS q he hc j hk hlink (fun _ h9 => h9) hfin hd hn hfit hl hdg (fun H1 locs1 hP1 hD1 hS1 => kk _ H1 locs1 rfl (by rw [← hs]; exact hP1) (by rw [← hs]; exact hD1) hS1)
theorem c_cpy {q0 q1 a0 a1 N : Nat} {n : Int32} (hx : p.tables.exec = Jvm.exec) (hb : c.code = cc) (hml : c.maxLocals = ls.size) {own : String} {index : Nat} (hown : s.vm.findClass own = some m.cls) (hlink : (Cond.methodLink own index arraycopyName).before args s = true) (hnat : (Cond.native arraycopyName).before args s = true) (hstat : (Cond.static arraycopyName).before args s = true) (hini : (Cond.initialized "java/lang/System").before args s = true)
    (hK : va_K D vwCl (KT k) s) (hP : va_P D vwCl (WS st sl) H) (hD : va_D A (WS st sl)) (hS : va_S A H0 H locs) (h0 : (WS st sl)[q0]? = some (a0, .inl (k 0, N, .inl (st q0)))) (h1 : (WS st sl)[q1]? = some (a1, .inl (k 0, N, .inl (st q1)))) (hs : ∀ f : Nat → Int32, (WS st sl).set q1 (a1, .inl (k 0, N, .inl f)) = WS (sw st q1 f) sl)
    (hframes : 1 ≤ R.frames) (hlocals : (rest.map fun v => v.category).sum + (nativeFrameWords "java/lang/System" "arraycopy" 5 + 11) ≤ R.locals) (hn : ¬ n < 0) (hN : n.toNatClampNeg = N) (hz : (0 : Int32).toNatClampNeg = 0) (hdg : decode cc pc = .ok (.invokestatic index, 3))
    (kk : ∀ (st9 : CT) (H1 : Heap) (locs1 : List Loc) (f : Nat → Int32), st9 = sw st q1 f → (∀ j : Nat, j < N → f j = st q0 j) → va_P D vwCl (WS st9 sl) H1 → va_D A (WS st9 sl) → va_S A H0 H1 locs1 → W p l e R s m args below meth c H1 locs1 cells slots Q (F0 m (pc + 3) ls rest)) : W p l e R s m args below meth c H locs cells slots Q (F0 m pc ls (.int n :: .int 0 :: .ref a1 :: .int 0 :: .ref a0 :: rest)) :=
  va_copyi (ty := .int) hx hb hml hown hlink hnat hstat hini hK hP hD hS q0 q1 0 0 h0 h1 rfl rfl rfl (by decide) (by decide) hn (by rw [hz, hN]; omega) (by rw [hz, hN]; omega) (fun _ _ => rfl) hframes hlocals hdg (fun H1 locs1 hP1 hD1 hS1 => kk _ H1 locs1 (va_cpy (st q0) (st q1) (0 : Int32).toNatClampNeg (0 : Int32).toNatClampNeg n.toNatClampNeg) rfl (fun j hj => by
    rw [hz, hN]
    unfold va_cpy
    rw [if_pos ⟨Nat.zero_le _, by omega⟩]
    congr 1
    omega) (by rw [← hs]; exact hP1) (by rw [← hs]; exact hD1) hS1)
theorem p_set {ws : va_W} {q ad : Nat} {e0 e1 : va_E} {wr : va_W} (hwr : wr = ((List.range ws.length).filter (fun i => i != q)).filterMap (fun i => ws[i]?)) (hq : ws[q]? = some (ad, e0)) (h : va_P D vwCl (wr ++ [(ad, e1)]) H) : va_P D vwCl (ws.set q (ad, e1)) H := by
  intro i z hi
  rw [List.getElem?_set] at hi
  by_cases e : q = i
  · subst e
    have hl : q < ws.length := (List.getElem?_eq_some_iff.mp hq).1
    rw [if_pos rfl, if_pos hl] at hi
    cases hi
    exact h wr.length _ (by rw [List.getElem?_append_right (Nat.le_refl _), Nat.sub_self]; rfl)
  · rw [if_neg e] at hi
    have hl : i < ws.length := (List.getElem?_eq_some_iff.mp hi).1
    have hm : z ∈ wr := by
      rw [hwr]
      refine List.mem_filterMap.mpr ⟨i, List.mem_filter.mpr ⟨List.mem_range.mpr hl, ?_⟩, hi⟩
      simp only [bne_iff_ne, ne_eq]
      exact fun z9 => e z9.symm
    obtain ⟨t, ht, hz⟩ := List.getElem_of_mem hm
    exact h t z (by rw [List.getElem?_append_left ht, List.getElem?_eq_getElem ht, hz])
theorem c_fil {q ad N : Nat} {v : Int32} {a9 : Array Value} (hP : va_P D vwCl (WS st sl) H) (hD : va_D A (WS st sl)) (hS : va_S A H0 H locs) (hA : ∀ q, H0.size ≤ q → A q) (hg : (WS st sl)[q]? = some (ad, .inl (k 0, N, .inl (st q)))) (hs : ∀ f : Nat → Int32, (WS st sl).set q (ad, .inl (k 0, N, .inl f)) = WS (sw st q f) sl)
    (hr : va_P D vwCl [sI k ad N (st q)] H → va_D (fun _ => True) [sI k ad N (st q)] → va_Run p l e R s m args below meth c H locs cells slots 0 0 (F0 m pc ls stk) rest (QV D (S := Nat → Int32) (fun g => ∀ j, j < N → g j = v) (fun g => [sI k ad N g]) (fun _ => []) [sI k ad N (st q)] H.size a9) (va_A [sI k ad N (st q)] H.size))
    (kk : ∀ (st9 : CT) (H1 : Heap) (locs1 : List Loc) (f : Nat → Int32), st9 = sw st q f → (∀ j : Nat, j < N → f j = v) → va_P D vwCl (WS st9 sl) H1 → va_D A (WS st9 sl) → va_S A H0 H1 locs1 → W p l e R s m args below meth c H1 locs1 cells slots Q (F0 m (pc + 3) ls rest)) : W p l e R s m args below meth c H locs cells slots Q (F0 m pc ls stk) := by
  refine rw_v (mc := 0) (ms := 0) (wc := [sI k ad N (st q)]) (wr := ((List.range (WS st sl).length).filter (fun i => i != q)).filterMap (fun i => (WS st sl)[i]?)) [q] ((List.range (WS st sl).length).filter (fun i => i != q)) ?_ rfl ?_ (nd_fl (nd_of List.nodup_range)) ?_ hP hD hS hA hr (fun f H1 locs1 h1 _ hP1 hD1 hS1 => ?_)
  · rw [List.filterMap_cons, hg]
    rfl
  · simp [va_nd]
  · intro i hi hc
    have h9 := (List.mem_filter.mp hi).2
    simp only [List.mem_singleton] at hc
    subst hc
    simp at h9
  · refine kk _ H1 locs1 f rfl h1 ?_ ?_ hS1
    · rw [← hs]
      exact p_set rfl hg hP1
    · rw [← hs]
      exact hD.set hg
theorem c_lst {q ad N : Nat} {i : Int32} {v : Int64} (hx : p.tables.exec = Jvm.exec) (hb : c.code = cc) (hK : va_K D vwCl (KT k) s) (hP : va_P D vwCl (WS st sl) H) (hD : va_D A (WS st sl)) (hS : va_S A H0 H locs) (hg : (WS st sl)[q]? = some (ad, .inl (k 2, N, .inr (.inl (sl q))))) (hs : ∀ f : Nat → Int64, (WS st sl).set q (ad, .inl (k 2, N, .inr (.inl f))) = WS st (sw sl q f)) (hin : vp_in i N) (hdg : decode cc pc = .ok (.lastore, 1))
    (kk : ∀ (sl9 : CL) (H1 : Heap) (locs1 : List Loc), va_P D vwCl (WS st sl9) H1 → va_D A (WS st sl9) → va_S A H0 H1 locs1 → W p l e R s m args below meth c H1 locs1 cells slots Q (F0 m (pc + 1) ls rest)) : W p l e R s m args below meth c H locs cells slots Q (F0 m pc ls (.long v :: .int i :: .ref ad :: rest)) :=
  va_last hx hb hK hP hD hS q 2 hg rfl hin hdg (fun H1 locs1 hP1 hD1 hS1 => kk _ H1 locs1 (by rw [← hs]; exact hP1) (by rw [← hs]; exact hD1) hS1)
theorem c_cpl {q0 q1 a0 a1 N : Nat} {sp dp n : Int32} (hx : p.tables.exec = Jvm.exec) (hb : c.code = cc) (hml : c.maxLocals = ls.size) {own : String} {index : Nat} (hown : s.vm.findClass own = some m.cls) (hlink : (Cond.methodLink own index arraycopyName).before args s = true) (hnat : (Cond.native arraycopyName).before args s = true) (hstat : (Cond.static arraycopyName).before args s = true) (hini : (Cond.initialized "java/lang/System").before args s = true)
    (hK : va_K D vwCl (KT k) s) (hP : va_P D vwCl (WS st sl) H) (hD : va_D A (WS st sl)) (hS : va_S A H0 H locs) (h0 : (WS st sl)[q0]? = some (a0, .inl (k 2, N, .inr (.inl (sl q0))))) (h1 : (WS st sl)[q1]? = some (a1, .inl (k 2, N, .inr (.inl (sl q1))))) (hs : ∀ f : Nat → Int64, (WS st sl).set q1 (a1, .inl (k 2, N, .inr (.inl f))) = WS st (sw sl q1 f))
    (hframes : 1 ≤ R.frames) (hlocals : (rest.map fun v => v.category).sum + (nativeFrameWords "java/lang/System" "arraycopy" 5 + 11) ≤ R.locals) (b1 : ¬ sp < 0) (b2 : ¬ dp < 0) (b3 : ¬ n < 0) (b4 : sp.toNatClampNeg + n.toNatClampNeg ≤ N) (b5 : dp.toNatClampNeg + n.toNatClampNeg ≤ N) (hdg : decode cc pc = .ok (.invokestatic index, 3))
    (kk : ∀ (sl9 : CL) (H1 : Heap) (locs1 : List Loc), va_P D vwCl (WS st sl9) H1 → va_D A (WS st sl9) → va_S A H0 H1 locs1 → W p l e R s m args below meth c H1 locs1 cells slots Q (F0 m (pc + 3) ls rest)) : W p l e R s m args below meth c H locs cells slots Q (F0 m pc ls (.int n :: .int dp :: .ref a1 :: .int sp :: .ref a0 :: rest)) :=
  va_copyl (ty := .long) hx hb hml hown hlink hnat hstat hini hK hP hD hS q0 q1 2 2 h0 h1 rfl rfl rfl b1 b2 b3 b4 b5 (fun _ _ => rfl) hframes hlocals hdg (fun H1 locs1 hP1 hD1 hS1 => kk _ H1 locs1 (by rw [← hs]; exact hP1) (by rw [← hs]; exact hD1) hS1)
theorem c_fij {q ad N : Nat} {v : Int64} {a9 : Array Value} (hP : va_P D vwCl (WS st sl) H) (hD : va_D A (WS st sl)) (hS : va_S A H0 H locs) (hA : ∀ q, H0.size ≤ q → A q) (hg : (WS st sl)[q]? = some (ad, .inl (k 2, N, .inr (.inl (sl q))))) (hs : ∀ f : Nat → Int64, (WS st sl).set q (ad, .inl (k 2, N, .inr (.inl f))) = WS st (sw sl q f))
    (hr : va_P D vwCl [sJ k ad N (sl q)] H → va_D (fun _ => True) [sJ k ad N (sl q)] → va_Run p l e R s m args below meth c H locs cells slots 0 0 (F0 m pc ls stk) rest (QV D (S := Nat → Int64) (fun g => ∀ j, j < N → g j = v) (fun g => [sJ k ad N g]) (fun _ => []) [sJ k ad N (sl q)] H.size a9) (va_A [sJ k ad N (sl q)] H.size))
    (kk : ∀ (sl9 : CL) (H1 : Heap) (locs1 : List Loc), va_P D vwCl (WS st sl9) H1 → va_D A (WS st sl9) → va_S A H0 H1 locs1 → W p l e R s m args below meth c H1 locs1 cells slots Q (F0 m (pc + 3) ls rest)) : W p l e R s m args below meth c H locs cells slots Q (F0 m pc ls stk) := by
  refine rw_v (mc := 0) (ms := 0) (wc := [sJ k ad N (sl q)]) (wr := ((List.range (WS st sl).length).filter (fun i => i != q)).filterMap (fun i => (WS st sl)[i]?)) [q] ((List.range (WS st sl).length).filter (fun i => i != q)) ?_ rfl ?_ (nd_fl (nd_of List.nodup_range)) ?_ hP hD hS hA hr (fun f H1 locs1 h1 _ hP1 hD1 hS1 => ?_)
  · rw [List.filterMap_cons, hg]
    rfl
  · simp [va_nd]
  · intro i hi hc
    have h9 := (List.mem_filter.mp hi).2
    simp only [List.mem_singleton] at hc
    subst hc
    simp at h9
  · refine kk (sw sl q f) H1 locs1 ?_ ?_ hS1
    · rw [← hs f]
      exact p_set rfl hg hP1
    · rw [← hs f]
      exact hD.set hg
end CAL
theorem iv_eq {v : Int} {x : Int32} (y : Int32) (h : Iv v v x) (e : y.toInt = v) : x = y := by
  obtain ⟨p1, p2⟩ := h
  exact Int32.toInt_inj.mp (by omega)
theorem lc_lt {a b : Int64} {z : Int32} (e : z = lg_cmp a b) (h : z < 0) : a.toInt < b.toInt := by
  rw [e] at h
  have h2 := mt (lg_cmp_ge a b).mpr (Int32.not_le.mpr h)
  exact Int64.lt_iff_toInt_lt.mp (Int64.not_le.mp h2)
theorem lc_nlt {a b : Int64} {z : Int32} (e : z = lg_cmp a b) (h : ¬ z < 0) : b.toInt ≤ a.toInt := by
  rw [e] at h
  exact Int64.le_iff_toInt_le.mp ((lg_cmp_ge a b).mp (Int32.not_lt.mp h))
theorem lc_ge {a b : Int64} {z : Int32} (e : z = lg_cmp a b) (h : 0 ≤ z) : b.toInt ≤ a.toInt := lc_nlt e (Int32.not_lt.mpr h)
theorem lc_nge {a b : Int64} {z : Int32} (e : z = lg_cmp a b) (h : ¬ 0 ≤ z) : a.toInt < b.toInt := lc_lt e (Int32.not_le.mp h)
theorem lc_gt {a b : Int64} {z : Int32} (e : z = lg_cmp a b) (h : 0 < z) : b.toInt < a.toInt := by
  rw [e] at h
  have h2 := mt (lg_cmp_le a b).mpr (Int32.not_le.mpr h)
  exact Int64.lt_iff_toInt_lt.mp (Int64.not_le.mp h2)
theorem lc_ngt {a b : Int64} {z : Int32} (e : z = lg_cmp a b) (h : ¬ 0 < z) : a.toInt ≤ b.toInt := by
  rw [e] at h
  exact Int64.le_iff_toInt_le.mp ((lg_cmp_le a b).mp (Int32.not_lt.mp h))
theorem lc_le {a b : Int64} {z : Int32} (e : z = lg_cmp a b) (h : z ≤ 0) : a.toInt ≤ b.toInt := lc_ngt e (Int32.not_lt.mpr h)
theorem lc_nle {a b : Int64} {z : Int32} (e : z = lg_cmp a b) (h : ¬ z ≤ 0) : b.toInt < a.toInt := lc_gt e (Int32.not_le.mp h)
theorem lc_eq {a b : Int64} {z : Int32} (e : z = lg_cmp a b) (h : z = 0) : a.toInt = b.toInt := by
  have h1 := lc_le e (by rw [h]; decide)
  have h2 := lc_ge e (by rw [h]; decide)
  omega
theorem lc_neq {a b : Int64} {z : Int32} (e : z = lg_cmp a b) (h : ¬ z = 0) : ¬ a.toInt = b.toInt := fun q => by
  have h1 := (lg_cmp_le a b).mpr (Int64.le_iff_toInt_le.mpr (by omega))
  have h2 := (lg_cmp_ge a b).mpr (Int64.le_iff_toInt_le.mpr (by omega))
  rw [← e] at h1 h2
  exact h (Int32.le_antisymm h1 h2)
theorem lc_ne {a b : Int64} {z : Int32} (e : z = lg_cmp a b) (h : z ≠ 0) : ¬ a.toInt = b.toInt := lc_neq e h
theorem lc_nne {a b : Int64} {z : Int32} (e : z = lg_cmp a b) (h : ¬ z ≠ 0) : a.toInt = b.toInt := lc_eq e (Classical.not_not.mp h)
def vp_Sr9 (post : Nat → Prop) : Array Value → State → Outcome → State → Prop := fun _ st o t => ∃ r : Nat, o = .returned (some (.ref r)) ∧ post r ∧ t.heap = st.heap
section ROZ
variable {p : Program} {l : Launch} {e : Env} {R : Room} {s : State} {m : MethodId} {args : Array Value} {below : List Frame} {meth : Method} {c : Code} {H : Heap} {locs : List Loc} {cells slots : Nat} {Q : State → Prop} {pc : Nat} {ls : Array Slot} {rest st : List Value}
theorem call_r9 {post : Nat → Prop} {a : Array Value} {st0 : List Value} (hr : CallRun p l e R s m args below meth c H locs cells slots 0 0 (F0 m pc ls st0) rest (vp_Sr9 post a) (fun _ => False))
    (kk : ∀ r : Nat, post r → W p l e R s m args below meth c H locs cells slots Q (F0 m (pc + 3) ls (.ref r :: rest))) : W p l e R s m args below meth c H locs cells slots Q (F0 m pc ls st0) := by
  intro T hT X
  obtain ⟨v, st₀, t, T', L, h0, X', hL, e1, ⟨r, hv, hp, hh⟩, st⟩ := hr T hT X
  cases hv
  obtain ⟨t2, a1, b1⟩ := kk r hp T' (by rw [e1, hh, h0]) (Stand.forget X' (fun q h => (hL q h).elim))
  exact ⟨t2, st t2 a1, b1⟩
theorem ro_VA {cc : ByteArray} {nL n index maxL : Nat} {own C : String} {y : MethodName} {bytes : ByteArray} {ret : Option FieldType} {rm : Room} {Pc : Array Value → State → Prop} {post : Nat → Prop} {b : Addr} {As : List Value}
    (S : CallFix p m c cc nL s args TB own) (hM : Met l y (.code y bytes maxL ret :: TB) rm Pc (vp_Sr9 post) 0 0 (fun _ => False))
    (hG : GoodIn TB (wsV own index C y (.code y bytes maxL ret :: TB))) (hd : okY y C n)
    (hrm : rm.cells = 0 ∧ rm.slots = 0 ∧ rm.frames + 1 ≤ R.frames ∧ 8 + (maxL + 11) + rm.locals ≤ R.locals)
    (hp : PreV s H C b Pc As) (hn : As.length = n) (hsize : ls.size = nL) (hst : st = As.reverse ++ .ref b :: rest) (hW : (rest.map fun v => v.category).sum ≤ 8)
    (hf : cells ≤ R.cells ∧ slots ≤ R.slots) (hdg : decode cc pc = .ok (.invokevirtual index, 3))
    (kk : ∀ r : Nat, post r → W p l e R s m args below meth c H locs cells slots Q (F0 m (pc + 3) ls (.ref r :: rest))) : W p l e R s m args below meth c H locs cells slots Q (F0 m pc ls st) := by
  subst hst
  exact call_r9 (W.runV S hM (cwV n S.2.2.2.2 hG rfl hrm.1 hrm.2.1 hd hrm.2.2) hp rfl hn hsize rfl (lv_room hW) hdg hf) kk
theorem ro_VL {cc : ByteArray} {nL n index maxL : Nat} {own C : String} {y : MethodName} {bytes : ByteArray} {ret : Option FieldType} {rm : Room} {Pc : Array Value → State → Prop} {post : Int64 → Prop} {b : Addr} {As : List Value}
    (S : CallFix p m c cc nL s args TB own) (hM : Met l y (.code y bytes maxL ret :: TB) rm Pc (vp_Sl post) 0 0 (fun _ => False))
    (hG : GoodIn TB (wsV own index C y (.code y bytes maxL ret :: TB))) (hd : okY y C n)
    (hrm : rm.cells = 0 ∧ rm.slots = 0 ∧ rm.frames + 1 ≤ R.frames ∧ 8 + (maxL + 11) + rm.locals ≤ R.locals)
    (hp : PreV s H C b Pc As) (hn : As.length = n) (hsize : ls.size = nL) (hst : st = As.reverse ++ .ref b :: rest) (hW : (rest.map fun v => v.category).sum ≤ 8)
    (hf : cells ≤ R.cells ∧ slots ≤ R.slots) (hdg : decode cc pc = .ok (.invokevirtual index, 3))
    (kk : ∀ r : Int64, post r → W p l e R s m args below meth c H locs cells slots Q (F0 m (pc + 3) ls (.long r :: rest))) : W p l e R s m args below meth c H locs cells slots Q (F0 m pc ls st) := by
  subst hst
  exact vp_callSl (W.runV S hM (cwV n S.2.2.2.2 hG rfl hrm.1 hrm.2.1 hd hrm.2.2) hp rfl hn hsize rfl (lv_room hW) hdg hf) kk
theorem ro_SL {cc : ByteArray} {nL n index maxL : Nat} {own : String} {y : MethodName} {bytes : ByteArray} {ret : Option FieldType} {rm : Room} {Pc : Array Value → State → Prop} {post : Int64 → Prop} {As : List Value}
    (S : CallFix p m c cc nL s args TB own) (hM : Met l y (.code y bytes maxL ret :: TB) rm Pc (vp_Sl post) 0 0 (fun _ => False))
    (hG : GoodIn TB (wsS own index y (.code y bytes maxL ret :: TB))) (hd : okY y own n)
    (hrm : rm.cells = 0 ∧ rm.slots = 0 ∧ rm.frames + 1 ≤ R.frames ∧ 8 + (maxL + 11) + rm.locals ≤ R.locals)
    (hp : PreS s H Pc As) (hn : As.length = n) (hsize : ls.size = nL) (hst : st = As.reverse ++ rest) (hW : (rest.map fun v => v.category).sum ≤ 8)
    (hf : cells ≤ R.cells ∧ slots ≤ R.slots) (hdg : decode cc pc = .ok (.invokestatic index, 3))
    (kk : ∀ r : Int64, post r → W p l e R s m args below meth c H locs cells slots Q (F0 m (pc + 3) ls (.long r :: rest))) : W p l e R s m args below meth c H locs cells slots Q (F0 m pc ls st) := by
  subst hst
  exact vp_callSl (W.runS S hM (cwS n S.2.2.2.2 hG rfl hrm.1 hrm.2.1 hd hrm.2.2) hp rfl hn hsize rfl (lv_room hW) hdg hf) kk
end ROZ
theorem iv_nn {a b : Int} {x : Int32} (h : Iv a b x) (h0 : 0 ≤ a) : ¬ x < 0 := fun q => by
  have q := i_lt q
  have z : (0 : Int32).toInt = 0 := rfl
  have p1 := h.1
  omega
