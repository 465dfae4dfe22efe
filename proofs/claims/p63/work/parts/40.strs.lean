/-! String constants -/
def STA (A : Nat → Prop) (w n : Nat) (f : Nat → Int32) (U : State) (H : Heap) : Prop := ∃ v : Nat, va_O "java/lang/String" w A U H ∧ va_OF "java/lang/String" "coder" "B" (.int 0) w A U H ∧ va_OF "java/lang/String" "value" "[B" (.ref v) w A U H ∧ va_T .byte v n (fun j => .int (f j)) A U H
def SXA (A : Nat → Prop) (U : State) (H : Heap) : Prop := va_Z "java/lang/String" "COMPACT_STRINGS" "Z" (.int 1) A U H ∧ va_Zq "jdk/internal/util/Preconditions" "SIOOBE_FORMATTER" "Ljava/util/function/BiFunction;" A U H
def LIT : List (String × Nat × String × List Int32) := [(RX2, 81, "land", [108, 97, 110, 100]), (RX2, 87, "places", [112, 108, 97, 99, 101, 115]), (RX2, 93, "hand", [104, 97, 110, 100]), (RX2, 53, "road", [114, 111, 97, 100]), (RX2, 103, "to", [116, 111]), (RX2, 108, "miles", [109, 105, 108, 101, 115]), (RX2, 62, "wheel", [119, 104, 101, 101, 108]), (RX2, 117, "rim", [114, 105, 109]), (RX2, 122, "likes", [108, 105, 107, 101, 115]), (RX2, 67, "cart", [99, 97, 114, 116]), (RX2, 136, "at", [97, 116]), (RX2, 138, "wheels", [119, 104, 101, 101, 108, 115]), (RX2, 72, "errand", [101, 114, 114, 97, 110, 100]), (RX2, 157, "by", [98, 121]), (RX10, 218, "land", [108, 97, 110, 100]), (RX10, 220, "places", [112, 108, 97, 99, 101, 115]), (RX10, 222, "hand", [104, 97, 110, 100]), (RX10, 198, "road", [114, 111, 97, 100]), (RX10, 200, "wheel", [119, 104, 101, 101, 108]), (RX10, 202, "cart", [99, 97, 114, 116]), (RX10, 204, "errand", [101, 114, 114, 97, 110, 100]), (RX10, 174, "to", [116, 111]), (RX10, 176, "miles", [109, 105, 108, 101, 115]), (RX10, 181, "rim", [114, 105, 109]), (RX10, 182, "likes", [108, 105, 107, 101, 115]), (RX10, 184, "at", [97, 116]), (RX10, 185, "wheels", [119, 104, 101, 101, 108, 115]), (RX10, 196, "by", [98, 121])]
def STRS (A : Nat → Prop) (U : State) (H : Heap) : Prop := ∀ e ∈ LIT, ∃ w : Nat, vk_R e.1 e.2.1 e.2.2.1 w U ∧ STA A w e.2.2.2.length (fun j => e.2.2.2.getD j 0) U H
def NS (A : Nat → Prop) (U : State) (H : Heap) : Prop := SXA A U H ∧ STRS A U H
def NSW (w n : Nat) (f : Nat → Int32) (A : Nat → Prop) (U : State) (H : Heap) : Prop := NS A U H ∧ STA A w n f U H
abbrev XT : Type := (Nat → Prop) → State → Heap → Prop
/-- what is said of cells outside A, of tables that don't change -/
def Nice (X : XT) : Prop := (∀ (A : Nat → Prop) (s U : State) (H : Heap), s.WarmedH U.vm → X A s H → X A U H) ∧ (∀ (A : Nat → Prop) (u U : State) (H : Heap), U.vm = u.vm → X A u H → X A U H) ∧ (∀ (A : Nat → Prop) (U : State) (H H1 : Heap), (∀ a : Nat, a < H.size → ¬ A a → H1[a]? = H[a]?) → X A U H → X A U H1) ∧ (∀ (A B : Nat → Prop) (U : State) (H : Heap), (∀ q, B q → A q) → X A U H → X B U H)
theorem al_of {u U : State} (h : U.vm = u.vm) : u.vm.Alike U.vm := h ▸ Vm.Alike.refl u.vm
theorem sta_mv {A : Nat → Prop} {w n : Nat} {f : Nat → Int32} {u U : State} {H : Heap} (h : u.vm.Alike U.vm) (x : STA A w n f u H) : STA A w n f U H := by
  obtain ⟨v, h1, h2, h3, h4⟩ := x
  exact ⟨v, va_O.moved h h1, va_OF.moved h h2, va_OF.moved h h3, va_T.moved h h4⟩
theorem sta_kp {A : Nat → Prop} {w n : Nat} {f : Nat → Int32} {U : State} {H H1 : Heap} (h : ∀ a : Nat, a < H.size → ¬ A a → H1[a]? = H[a]?) (x : STA A w n f U H) : STA A w n f U H1 := by
  obtain ⟨v, h1, h2, h3, h4⟩ := x
  exact ⟨v, h1.kept h, h2.kept h, h3.kept h, h4.kept h⟩
theorem sta_nr {A B : Nat → Prop} {w n : Nat} {f : Nat → Int32} {U : State} {H : Heap} (h : ∀ q, B q → A q) (x : STA A w n f U H) : STA B w n f U H := by
  obtain ⟨v, h1, h2, h3, h4⟩ := x
  exact ⟨v, h1.narrow h, h2.narrow h, h3.narrow h, h4.narrow h⟩
theorem zq_mv {C n d : String} {A : Nat → Prop} {u U : State} {H : Heap} (h : u.vm.Alike U.vm) (x : va_Zq C n d A u H) : va_Zq C n d A U H := by
  rcases x with x | ⟨t, x⟩
  · exact Or.inl (va_Z.moved h x)
  · exact Or.inr ⟨t, va_Z.moved h x⟩
theorem zq_kp {C n d : String} {A : Nat → Prop} {U : State} {H H1 : Heap} (h : ∀ a : Nat, a < H.size → ¬ A a → H1[a]? = H[a]?) (x : va_Zq C n d A U H) : va_Zq C n d A U H1 := by
  rcases x with x | ⟨t, x⟩
  · exact Or.inl (x.kept h)
  · exact Or.inr ⟨t, x.kept h⟩
theorem zq_nr {C n d : String} {A B : Nat → Prop} {U : State} {H : Heap} (h : ∀ q, B q → A q) (x : va_Zq C n d A U H) : va_Zq C n d B U H := by
  rcases x with x | ⟨t, x⟩
  · exact Or.inl (x.narrow h)
  · exact Or.inr ⟨t, x.narrow h⟩
theorem nice_NS : Nice NS := by
  refine ⟨?_, ?_, ?_, ?_⟩
  · intro A s U H hW x
    refine ⟨⟨va_Z.moved hW.alike x.1.1, zq_mv hW.alike x.1.2⟩, fun e he => ?_⟩
    obtain ⟨w, h1, h2⟩ := x.2 e he
    exact ⟨w, vk_R.warm hW h1, sta_mv hW.alike h2⟩
  · intro A u U H hv x
    refine ⟨⟨va_Z.moved (al_of hv) x.1.1, zq_mv (al_of hv) x.1.2⟩, fun e he => ?_⟩
    obtain ⟨w, h1, h2⟩ := x.2 e he
    exact ⟨w, vk_R.same hv h1, sta_mv (al_of hv) h2⟩
  · intro A U H H1 hq x
    refine ⟨⟨x.1.1.kept hq, zq_kp hq x.1.2⟩, fun e he => ?_⟩
    obtain ⟨w, h1, h2⟩ := x.2 e he
    exact ⟨w, h1, sta_kp hq h2⟩
  · intro A B U H hq x
    refine ⟨⟨x.1.1.narrow hq, zq_nr hq x.1.2⟩, fun e he => ?_⟩
    obtain ⟨w, h1, h2⟩ := x.2 e he
    exact ⟨w, h1, sta_nr hq h2⟩
theorem nice_NSW {w n : Nat} {f : Nat → Int32} : Nice (NSW w n f) :=
  ⟨fun A s U H hW x => ⟨nice_NS.1 A s U H hW x.1, sta_mv hW.alike x.2⟩, fun A u U H hv x => ⟨nice_NS.2.1 A u U H hv x.1, sta_mv (al_of hv) x.2⟩, fun A U H H1 hq x => ⟨nice_NS.2.2.1 A U H H1 hq x.1, sta_kp hq x.2⟩, fun A B U H hq x => ⟨nice_NS.2.2.2 A B U H hq x.1, sta_nr hq x.2⟩⟩
/-- a method's start that also says X of what lies outside its world -/
abbrev PX (D : va_G) (k : Nat → ClassId) (sz : Nat) (WS : va_W) (X : XT) : State → Prop := fun U => U.heap.size = sz ∧ va_P D vwCl WS U.heap ∧ va_K D vwCl (KT k) U ∧ va_D (fun _ => True) WS ∧ NX U ∧ X (va_A WS sz) U U.heap
theorem px_blind {D : va_G} {k : Nat → ClassId} {sz : Nat} {WS : va_W} {X : XT} {av : List Value} (hX : Nice X) : FrameBlind (va_Pc av (PX D k sz WS X)) := fun a U g mk h => by
  obtain ⟨h0, h1, hP, hK, hD, hN, hx⟩ := h
  exact ⟨h0, h1, hP, va_K.moved (u := U) (U := U.calling g mk a) (Vm.Alike.refl U.vm) hK, hD, NX.same (s := U) (U := U.calling g mk a) rfl hN, hX.2.1 _ U (U.calling g mk a) _ rfl hx⟩
theorem px_S {D : va_G} {k : Nat → ClassId} {WS : va_W} {s : State} {H : Heap} {As : List Value} {X : XT} {A : Nat → Prop} {locs : List Loc} (hX : Nice X) (hK : va_K D vwCl (KT k) s) (hN : NX s) (hP : va_P D vwCl WS H) (hD : va_D (fun _ => True) WS) (hx : X A s s.heap) (hS : va_S A s.heap H locs) (hF : ∀ q, va_A WS H.size q → A q) : PreS s H (va_Pc As (PX D k H.size WS X)) As :=
  ⟨px_blind hX, fun U hU hW => ⟨rfl, by rw [hU], by rw [hU]; exact hP, va_K.moved hW.alike hK, hD, NX.warm hW hN, by rw [hU]; exact hX.1 _ s U _ hW (hX.2.2.2 A _ s H hF (hX.2.2.1 A s s.heap H hS.2.1 hx))⟩⟩
theorem px_V {D : va_G} {k : Nat → ClassId} {WS : va_W} {s : State} {H : Heap} {As : List Value} {b ci q0 : Nat} {r : vw_C} {fs : List Value} {X : XT} {A : Nat → Prop} {locs : List Loc} (hX : Nice X) (hK : va_K D vwCl (KT k) s) (hN : NX s) (hc : vwCl[ci]? = some r) (he : WS[q0]? = some (b, .inr (ci, fs))) (hP : va_P D vwCl WS H) (hD : va_D (fun _ => True) WS) (hx : X A s s.heap) (hS : va_S A s.heap H locs) (hF : ∀ q, va_A WS H.size q → A q) : PreV s H r.1 b (va_Pc (.ref b :: As) (PX D k H.size WS X)) As :=
  ⟨px_blind hX, va_recv hK hP hc he, (px_S hX hK hN hP hD hx hS hF).2⟩
theorem px_free {A : Nat → Prop} {WS : va_W} {H0 H : Heap} {locs : List Loc} (hD : va_D A WS) (hS : va_S A H0 H locs) (hA : ∀ q, H0.size ≤ q → A q) : ∀ q, va_A WS H.size q → A q :=
  va_free (wc := WS) hD hS hA _ (map_fl (fm_range WS))
/-- the JDK's methods on a String at w -/
def SPc (w n : Nat) (f : Nat → Int32) (U : State) : Prop := STA (fun _ => False) w n f U U.heap ∧ SXA (fun _ => False) U U.heap
theorem sp_same {w n : Nat} {f : Nat → Int32} {u U : State} (hv : U.vm = u.vm) (hh : U.heap = u.heap) (h : SPc w n f u) : SPc w n f U := by
  unfold SPc
  rw [hh]
  exact ⟨sta_mv (al_of hv) h.1, va_Z.moved (al_of hv) h.2.1, zq_mv (al_of hv) h.2.2⟩
theorem sp_blind {w n : Nat} {f : Nat → Int32} {av : List Value} : FrameBlind (va_Pc av (SPc w n f)) := fun a U g mk h => ⟨h.1, sp_same (u := U) (U := U.calling g mk a) rfl rfl h.2⟩
theorem sp_S {w n : Nat} {f : Nat → Int32} {s : State} {As : List Value} {A : Nat → Prop} (h : STA A w n f s s.heap) (h2 : SXA A s s.heap) : PreS s s.heap (va_Pc As (SPc w n f)) As :=
  ⟨sp_blind, fun U hU hW => ⟨rfl, by rw [hU]; exact sta_nr (fun _ q => q.elim) (sta_mv hW.alike h), by rw [hU]; exact va_Z.narrow (va_Z.moved hW.alike h2.1) (fun _ q => q.elim), by rw [hU]; exact zq_nr (fun _ q => q.elim) (zq_mv hW.alike h2.2)⟩⟩
theorem sp_V {w n : Nat} {f : Nat → Int32} {s : State} {As : List Value} {A : Nat → Prop} (h : STA A w n f s s.heap) (h2 : SXA A s s.heap) : PreV s s.heap "java/lang/String" w (va_Pc (.ref w :: As) (SPc w n f)) As :=
  ⟨sp_blind, by obtain ⟨v, ⟨cell, q1, q2, q3, -⟩, -⟩ := h; exact ⟨cell, q1, q2, q3⟩, (sp_S h h2).2⟩
def vp_Sv9 : Array Value → State → Outcome → State → Prop := fun _ st o t => o = .returned none ∧ t.heap = st.heap
section RSV
variable {p : Program} {l : Launch} {e : Env} {R : Room} {s : State} {m : MethodId} {args : Array Value} {below : List Frame} {meth : Method} {c : Code} {H : Heap} {locs : List Loc} {cells slots : Nat} {Q : State → Prop} {pc : Nat} {ls : Array Slot} {rest st : List Value}
theorem call_v9 {a : Array Value} {st0 : List Value} (hr : CallRun p l e R s m args below meth c H locs cells slots 0 0 (F0 m pc ls st0) rest (vp_Sv9 a) (fun _ => False))
    (kk : W p l e R s m args below meth c H locs cells slots Q (F0 m (pc + 3) ls rest)) : W p l e R s m args below meth c H locs cells slots Q (F0 m pc ls st0) := by
  intro T hT X
  obtain ⟨v, st₀, t, T', L, h0, X', hL, e1, ⟨hv, hh⟩, st⟩ := hr T hT X
  cases hv
  obtain ⟨t2, a1, b1⟩ := kk T' (by rw [e1, hh, h0]) (Stand.forget X' (fun q h => (hL q h).elim))
  exact ⟨t2, st t2 a1, b1⟩
theorem ro_SV {cc : ByteArray} {nL n index maxL : Nat} {own C : String} {y : MethodName} {bytes : ByteArray} {ret : Option FieldType} {rm : Room} {Pc : Array Value → State → Prop} {As : List Value}
    (S : CallFix p m c cc nL s args TB own) (hM : Met l y (.code y bytes maxL ret :: TB) rm Pc vp_Sv9 0 0 (fun _ => False))
    (hG : GoodIn TB (.code y bytes maxL ret :: TB)) (h1 : Cond.methodLink own index y ∈ TB) (h2 : Cond.static y ∈ TB) (h3 : Cond.initialized y.cls ∈ TB) (hd : okY y C n)
    (hrm : rm.cells = 0 ∧ rm.slots = 0 ∧ rm.frames + 1 ≤ R.frames ∧ 8 + (maxL + 11) + rm.locals ≤ R.locals)
    (hp : PreS s H Pc As) (hn : As.length = n) (hsize : ls.size = nL) (hst : st = As.reverse ++ rest) (hW : (rest.map fun v => v.category).sum ≤ 8)
    (hf : cells ≤ R.cells ∧ slots ≤ R.slots) (hdg : decode cc pc = .ok (.invokestatic index, 3))
    (kk : W p l e R s m args below meth c H locs cells slots Q (F0 m (pc + 3) ls rest)) : W p l e R s m args below meth c H locs cells slots Q (F0 m pc ls st) := by
  subst hst
  exact call_v9 (W.runS S hM ⟨callB_of n S.2.2.2.2 hG rfl hrm.1 hrm.2.1 (S.2.2.2.2 _ h3) (S.2.2.2.2 _ h1) hd.2 hrm.2.2, S.2.2.2.2 _ h2⟩ hp rfl hn hsize rfl (lv_room hW) hdg hf) kk
end RSV
theorem tt_blind {av : List Value} : FrameBlind (va_Pc av (fun _ => True)) := fun a U g mk h => ⟨h.1, trivial⟩
theorem tt_S {s : State} {H : Heap} {As : List Value} : PreS s H (va_Pc As (fun _ => True)) As := ⟨tt_blind, fun U hU hW => ⟨rfl, trivial⟩⟩
set_option maxHeartbeats 4000000 in
set_option maxRecDepth 100000 in
theorem j_coder (l : Launch) (w n : Nat) (f : Nat → Int32) : Met l yJ0_coder_7d493 (.code yJ0_coder_7d493 cJ0_coder_7d493 1 (some .byte) :: TB) (rmk 1) (va_Pc [.ref w] (SPc w n f)) (vp_Si (fun r => r = 0)) 0 0 (fun _ => False) := by
  refine Met.ofW (cc := cJ0_coder_7d493) (maxL := 1) (ret := (some .byte)) (by decide) rfl ?_
  intro p e s m args below meth c s₁ B hml hv
  obtain ⟨rfl, ⟨v, hO, hC, hV, hA⟩, hZ, hZq⟩ := hv
  have hx := B.exec
  have hb := B.bytes
  have hr := B.returns
  have hT : ∀ w9 ∈ TB, w9.before ([.ref w] : List Value).toArray s = true := fun w9 h => atoms_spec (ws := .code yJ0_coder_7d493 cJ0_coder_7d493 1 (some .byte) :: TB) B.pre w9 (List.mem_cons_of_mem _ h)
  have hown : s.vm.findClass RJ0 = some m.cls := findClass_of_methodNamed B.named
  have S : CallFix p m c cJ0_coder_7d493 1 s _ TB RJ0 := ⟨hx, hb, hml, hown, hT⟩
  have hl := lv_entry ([.ref w]) (n := 1) (Nat.le_of_ble_eq_true rfl)
  rw [lg_entry_eq]
  generalize (lg_sl ([.ref w]) ++ List.replicate (1 - (lg_sl ([.ref w])).length) Slot.unset).toArray = ls at hl ⊢
  have hl : lv_has ls 1 [(0, .ref w)] := hl
  have hS : va_S (fun _ => False) s.heap s.heap [] := va_S.rf
  refine va_gets hx hb hZ hS hown (hT _ t571) (fun _ h9 => h9) dJ0_coder_7d493_0 ?_
  refine lv_if_eq (tgt := 13) hx hb dJ0_coder_7d493_3 (by decide) (fun c1 => absurd c1 (by decide)) (fun _ => ?_)
  refine lv_aload_n hx hb dJ0_coder_7d493_6 rfl (lv_at hl 0 rfl) ?_
  refine vk_getf hx hb hC hS hown (hT _ t1944) (fun _ h9 => h9) dJ0_coder_7d493_7 ?_
  refine lv_goto (tgt := 14) hx hb dJ0_coder_7d493_10 (by decide) ?_
  exact W.zret (v := 0) (ty := .byte) hx hb hr rfl (fun t ht hW => ⟨_, rfl, rfl, ht⟩) (fun _ h9 => by cases h9) dJ0_coder_7d493_14
set_option maxHeartbeats 4000000 in
set_option maxRecDepth 100000 in
theorem j_latin (l : Launch) (w n : Nat) (f : Nat → Int32) : Met l yJ0_isLatin1_aae02 (.code yJ0_isLatin1_aae02 cJ0_isLatin1_aae02 1 (some .boolean) :: TB) (rmk 1) (va_Pc [.ref w] (SPc w n f)) (vp_Si (fun r => r = 1)) 0 0 (fun _ => False) := by
  refine Met.ofW (cc := cJ0_isLatin1_aae02) (maxL := 1) (ret := (some .boolean)) (by decide) rfl ?_
  intro p e s m args below meth c s₁ B hml hv
  obtain ⟨rfl, ⟨v, hO, hC, hV, hA⟩, hZ, hZq⟩ := hv
  have hx := B.exec
  have hb := B.bytes
  have hr := B.returns
  have hT : ∀ w9 ∈ TB, w9.before ([.ref w] : List Value).toArray s = true := fun w9 h => atoms_spec (ws := .code yJ0_isLatin1_aae02 cJ0_isLatin1_aae02 1 (some .boolean) :: TB) B.pre w9 (List.mem_cons_of_mem _ h)
  have hown : s.vm.findClass RJ0 = some m.cls := findClass_of_methodNamed B.named
  have S : CallFix p m c cJ0_isLatin1_aae02 1 s _ TB RJ0 := ⟨hx, hb, hml, hown, hT⟩
  have hl := lv_entry ([.ref w]) (n := 1) (Nat.le_of_ble_eq_true rfl)
  rw [lg_entry_eq]
  generalize (lg_sl ([.ref w]) ++ List.replicate (1 - (lg_sl ([.ref w])).length) Slot.unset).toArray = ls at hl ⊢
  have hl : lv_has ls 1 [(0, .ref w)] := hl
  have hS : va_S (fun _ => False) s.heap s.heap [] := va_S.rf
  refine va_gets hx hb hZ hS hown (hT _ t571) (fun _ h9 => h9) dJ0_isLatin1_aae02_0 ?_
  refine lv_if_eq (tgt := 17) hx hb dJ0_isLatin1_aae02_3 (by decide) (fun c1 => absurd c1 (by decide)) (fun _ => ?_)
  refine lv_aload_n hx hb dJ0_isLatin1_aae02_6 rfl (lv_at hl 0 rfl) ?_
  refine vk_getf hx hb hC hS hown (hT _ t1944) (fun _ h9 => h9) dJ0_isLatin1_aae02_7 ?_
  refine lv_if_ne (tgt := 17) hx hb dJ0_isLatin1_aae02_10 (by decide) (fun c1 => absurd rfl c1) (fun _ => ?_)
  refine lv_iconst (v := 1) hx hb dJ0_isLatin1_aae02_13 (by decide) ?_
  refine lv_goto (tgt := 18) hx hb dJ0_isLatin1_aae02_14 (by decide) ?_
  exact W.zret (v := 1) (ty := .boolean) hx hb hr rfl (fun t ht hW => ⟨_, rfl, rfl, ht⟩) (fun _ h9 => by cases h9) dJ0_isLatin1_aae02_18
set_option maxHeartbeats 4000000 in
set_option maxRecDepth 100000 in
theorem j_length (l : Launch) (w n : Nat) (f : Nat → Int32) (hn : n < 2 ^ 31) : Met l yJ0_length_8abf5 (.code yJ0_length_8abf5 cJ0_length_8abf5 1 (some .int) :: TB) (rmk 2) (va_Pc [.ref w] (SPc w n f)) (vp_Si (fun r => r = nI n)) 0 0 (fun _ => False) := by
  refine Met.ofW (cc := cJ0_length_8abf5) (maxL := 1) (ret := (some .int)) (by decide) rfl ?_
  intro p e s m args below meth c s₁ B hml hv
  obtain ⟨rfl, ⟨v, hO, hC, hV, hA⟩, hZ, hZq⟩ := hv
  have hx := B.exec
  have hb := B.bytes
  have hr := B.returns
  have hT : ∀ w9 ∈ TB, w9.before ([.ref w] : List Value).toArray s = true := fun w9 h => atoms_spec (ws := .code yJ0_length_8abf5 cJ0_length_8abf5 1 (some .int) :: TB) B.pre w9 (List.mem_cons_of_mem _ h)
  have hown : s.vm.findClass RJ0 = some m.cls := findClass_of_methodNamed B.named
  have S : CallFix p m c cJ0_length_8abf5 1 s _ TB RJ0 := ⟨hx, hb, hml, hown, hT⟩
  have hl := lv_entry ([.ref w]) (n := 1) (Nat.le_of_ble_eq_true rfl)
  rw [lg_entry_eq]
  generalize (lg_sl ([.ref w]) ++ List.replicate (1 - (lg_sl ([.ref w])).length) Slot.unset).toArray = ls at hl ⊢
  have hl : lv_has ls 1 [(0, .ref w)] := hl
  have hS : va_S (fun _ => False) s.heap s.heap [] := va_S.rf
  refine lv_aload_n hx hb dJ0_length_8abf5_0 rfl (lv_at hl 0 rfl) ?_
  refine vk_getf hx hb hV hS hown (hT _ t1943) (fun _ h9 => h9) dJ0_length_8abf5_1 ?_
  refine va_tlen (v := nI n) hx hb hA hS rfl dJ0_length_8abf5_4 ?_
  refine lv_aload_n hx hb dJ0_length_8abf5_5 rfl (lv_at hl 0 rfl) ?_
  refine ro_V (As := []) (rest := [.int (nI n)]) S (j_coder l w n f) lkJ0_335 ok_J0_coder_7d493 ⟨rfl, rfl, Nat.le_of_ble_eq_true rfl, Nat.le_of_ble_eq_true rfl⟩ (sp_V (A := fun _ => False) ⟨v, hO, hC, hV, hA⟩ ⟨hZ, hZq⟩) rfl hl.1 rfl (Nat.le_of_ble_eq_true rfl) ⟨Nat.zero_le _, Nat.zero_le _⟩ dJ0_length_8abf5_6 (fun r1 er1 => ?_)
  subst er1
  refine lv_ishr hx hb dJ0_length_8abf5_9 ?_
  refine k_top (y := nI n) (sc_shr0 hn) ?_
  exact W.iret (v := (nI n)) hx hb hr (fun t ht hW => ⟨_, rfl, rfl, ht⟩) (fun _ h9 => by cases h9) dJ0_length_8abf5_10
set_option maxHeartbeats 4000000 in
set_option maxRecDepth 100000 in
theorem j_pre0 (l : Launch) (i z : Int32) (h0 : ¬ i < 0) (h1 : i < z) : Met l yJ3_checkIndex_8e157 (.code yJ3_checkIndex_8e157 cJ3_checkIndex_8e157 3 (some .int) :: TB) (rmk 1) (va_Pc [.int i, .int z, .null] (fun _ => True)) (vp_Si (fun r => r = i)) 0 0 (fun _ => False) := by
  refine Met.ofW (cc := cJ3_checkIndex_8e157) (maxL := 3) (ret := (some .int)) (by decide) rfl ?_
  intro p e s m args below meth c s₁ B hml hv
  obtain ⟨rfl, -⟩ := hv
  have hx := B.exec
  have hb := B.bytes
  have hr := B.returns
  have hT : ∀ w9 ∈ TB, w9.before ([.int i, .int z, .null] : List Value).toArray s = true := fun w9 h => atoms_spec (ws := .code yJ3_checkIndex_8e157 cJ3_checkIndex_8e157 3 (some .int) :: TB) B.pre w9 (List.mem_cons_of_mem _ h)
  have hown : s.vm.findClass RJ3 = some m.cls := findClass_of_methodNamed B.named
  have S : CallFix p m c cJ3_checkIndex_8e157 3 s _ TB RJ3 := ⟨hx, hb, hml, hown, hT⟩
  have hl := lv_entry ([.int i, .int z, .null]) (n := 3) (Nat.le_of_ble_eq_true rfl)
  rw [lg_entry_eq]
  generalize (lg_sl ([.int i, .int z, .null]) ++ List.replicate (3 - (lg_sl ([.int i, .int z, .null])).length) Slot.unset).toArray = ls at hl ⊢
  have hl : lv_has ls 3 [(0, .int i), (1, .int z), (2, .null)] := hl
  have hS : va_S (fun _ => False) s.heap s.heap [] := va_S.rf
  refine lv_iload_n hx hb dJ3_checkIndex_8e157_0 rfl (lv_at hl 0 rfl) ?_
  refine lv_if_lt (tgt := 9) hx hb dJ3_checkIndex_8e157_1 (by decide) (fun c1 => absurd c1 h0) (fun _ => ?_)
  refine lv_iload_n hx hb dJ3_checkIndex_8e157_4 rfl (lv_at hl 0 rfl) ?_
  refine lv_iload_n hx hb dJ3_checkIndex_8e157_5 rfl (lv_at hl 1 rfl) ?_
  refine lv_icmp_lt (tgt := 16) hx hb dJ3_checkIndex_8e157_6 (by decide) (fun _ => ?_) (fun c1 => absurd h1 c1)
  refine lv_iload_n hx hb dJ3_checkIndex_8e157_16 rfl (lv_at hl 0 rfl) ?_
  exact W.iret (v := i) hx hb hr (fun t ht hW => ⟨_, rfl, rfl, ht⟩) (fun _ h9 => by cases h9) dJ3_checkIndex_8e157_17
set_option maxHeartbeats 4000000 in
set_option maxRecDepth 100000 in
theorem j_pre1 (l : Launch) (i z : Int32) (t : Nat) (h0 : ¬ i < 0) (h1 : i < z) : Met l yJ3_checkIndex_8e157 (.code yJ3_checkIndex_8e157 cJ3_checkIndex_8e157 3 (some .int) :: TB) (rmk 1) (va_Pc [.int i, .int z, .ref t] (fun _ => True)) (vp_Si (fun r => r = i)) 0 0 (fun _ => False) := by
  refine Met.ofW (cc := cJ3_checkIndex_8e157) (maxL := 3) (ret := (some .int)) (by decide) rfl ?_
  intro p e s m args below meth c s₁ B hml hv
  obtain ⟨rfl, -⟩ := hv
  have hx := B.exec
  have hb := B.bytes
  have hr := B.returns
  have hT : ∀ w9 ∈ TB, w9.before ([.int i, .int z, .ref t] : List Value).toArray s = true := fun w9 h => atoms_spec (ws := .code yJ3_checkIndex_8e157 cJ3_checkIndex_8e157 3 (some .int) :: TB) B.pre w9 (List.mem_cons_of_mem _ h)
  have hown : s.vm.findClass RJ3 = some m.cls := findClass_of_methodNamed B.named
  have S : CallFix p m c cJ3_checkIndex_8e157 3 s _ TB RJ3 := ⟨hx, hb, hml, hown, hT⟩
  have hl := lv_entry ([.int i, .int z, .ref t]) (n := 3) (Nat.le_of_ble_eq_true rfl)
  rw [lg_entry_eq]
  generalize (lg_sl ([.int i, .int z, .ref t]) ++ List.replicate (3 - (lg_sl ([.int i, .int z, .ref t])).length) Slot.unset).toArray = ls at hl ⊢
  have hl : lv_has ls 3 [(0, .int i), (1, .int z), (2, .ref t)] := hl
  have hS : va_S (fun _ => False) s.heap s.heap [] := va_S.rf
  refine lv_iload_n hx hb dJ3_checkIndex_8e157_0 rfl (lv_at hl 0 rfl) ?_
  refine lv_if_lt (tgt := 9) hx hb dJ3_checkIndex_8e157_1 (by decide) (fun c1 => absurd c1 h0) (fun _ => ?_)
  refine lv_iload_n hx hb dJ3_checkIndex_8e157_4 rfl (lv_at hl 0 rfl) ?_
  refine lv_iload_n hx hb dJ3_checkIndex_8e157_5 rfl (lv_at hl 1 rfl) ?_
  refine lv_icmp_lt (tgt := 16) hx hb dJ3_checkIndex_8e157_6 (by decide) (fun _ => ?_) (fun c1 => absurd h1 c1)
  refine lv_iload_n hx hb dJ3_checkIndex_8e157_16 rfl (lv_at hl 0 rfl) ?_
  exact W.iret (v := i) hx hb hr (fun t ht hW => ⟨_, rfl, rfl, ht⟩) (fun _ h9 => by cases h9) dJ3_checkIndex_8e157_17
set_option maxHeartbeats 4000000 in
set_option maxRecDepth 100000 in
theorem j_check (l : Launch) (i z : Int32) (h0 : ¬ i < 0) (h1 : i < z) : Met l yJ0_checkIndex_df160 (.code yJ0_checkIndex_df160 cJ0_checkIndex_df160 2 none :: TB) (rmk 2) (va_Pc [.int i, .int z] (fun U => SXA (fun _ => False) U U.heap)) vp_Sv9 0 0 (fun _ => False) := by
  refine Met.ofW (cc := cJ0_checkIndex_df160) (maxL := 2) (ret := none) (by decide) rfl ?_
  intro p e s m args below meth c s₁ B hml hv
  obtain ⟨rfl, hZ, hZq⟩ := hv
  have hx := B.exec
  have hb := B.bytes
  have hr := B.returns
  have hT : ∀ w9 ∈ TB, w9.before ([.int i, .int z] : List Value).toArray s = true := fun w9 h => atoms_spec (ws := .code yJ0_checkIndex_df160 cJ0_checkIndex_df160 2 none :: TB) B.pre w9 (List.mem_cons_of_mem _ h)
  have hown : s.vm.findClass RJ0 = some m.cls := findClass_of_methodNamed B.named
  have S : CallFix p m c cJ0_checkIndex_df160 2 s _ TB RJ0 := ⟨hx, hb, hml, hown, hT⟩
  have hl := lv_entry ([.int i, .int z]) (n := 2) (Nat.le_of_ble_eq_true rfl)
  rw [lg_entry_eq]
  generalize (lg_sl ([.int i, .int z]) ++ List.replicate (2 - (lg_sl ([.int i, .int z])).length) Slot.unset).toArray = ls at hl ⊢
  have hl : lv_has ls 2 [(0, .int i), (1, .int z)] := hl
  have hS : va_S (fun _ => False) s.heap s.heap [] := va_S.rf
  refine lv_iload_n hx hb dJ0_checkIndex_df160_0 rfl (lv_at hl 0 rfl) ?_
  refine lv_iload_n hx hb dJ0_checkIndex_df160_1 rfl (lv_at hl 1 rfl) ?_
  rcases hZq with hZq | ⟨t, hZq⟩
  · refine va_gets hx hb hZq hS hown (hT _ t587) (fun _ h9 => h9) dJ0_checkIndex_df160_2 ?_
    refine ro_SX (As := [.int i, .int z, .null]) (rest := []) S (j_pre0 l i z h0 h1) (gdC t591) t589 t590 t119 ok_J3_checkIndex_8e157 ⟨rfl, rfl, Nat.le_of_ble_eq_true rfl, Nat.le_of_ble_eq_true rfl⟩ tt_S rfl hl.1 rfl (Nat.le_of_ble_eq_true rfl) ⟨Nat.zero_le _, Nat.zero_le _⟩ dJ0_checkIndex_df160_5 (fun r1 er1 => ?_)
    refine lv_pop hx hb dJ0_checkIndex_df160_8 rfl ?_
    exact W.vret hx hb hr (fun t ht hW => ⟨rfl, ht⟩) (fun _ h9 => by cases h9) dJ0_checkIndex_df160_9
  · refine va_gets hx hb hZq hS hown (hT _ t587) (fun _ h9 => h9) dJ0_checkIndex_df160_2 ?_
    refine ro_SX (As := [.int i, .int z, .ref t]) (rest := []) S (j_pre1 l i z t h0 h1) (gdC t591) t589 t590 t119 ok_J3_checkIndex_8e157 ⟨rfl, rfl, Nat.le_of_ble_eq_true rfl, Nat.le_of_ble_eq_true rfl⟩ tt_S rfl hl.1 rfl (Nat.le_of_ble_eq_true rfl) ⟨Nat.zero_le _, Nat.zero_le _⟩ dJ0_checkIndex_df160_5 (fun r1 er1 => ?_)
    refine lv_pop hx hb dJ0_checkIndex_df160_8 rfl ?_
    exact W.vret hx hb hr (fun t ht hW => ⟨rfl, ht⟩) (fun _ h9 => by cases h9) dJ0_checkIndex_df160_9
theorem sv_blind {av : List Value} : FrameBlind (va_Pc av (fun U => SXA (fun _ => False) U U.heap)) := fun a U g mk h => ⟨h.1, va_Z.moved (u := U) (U := U.calling g mk a) (Vm.Alike.refl U.vm) h.2.1, zq_mv (u := U) (U := U.calling g mk a) (Vm.Alike.refl U.vm) h.2.2⟩
theorem sv_S {s : State} {As : List Value} (h2 : SXA (fun _ => False) s s.heap) : PreS s s.heap (va_Pc As (fun U => SXA (fun _ => False) U U.heap)) As :=
  ⟨sv_blind, fun U hU hW => ⟨rfl, by rw [hU]; exact va_Z.moved hW.alike h2.1, by rw [hU]; exact zq_mv hW.alike h2.2⟩⟩
def LPc (v n : Nat) (f : Nat → Int32) (U : State) : Prop := va_T .byte v n (fun j => .int (f j)) (fun _ => False) U U.heap ∧ SXA (fun _ => False) U U.heap
theorem lp_blind {v n : Nat} {f : Nat → Int32} {av : List Value} : FrameBlind (va_Pc av (LPc v n f)) := fun a U g mk h => ⟨h.1, va_T.moved (u := U) (U := U.calling g mk a) (Vm.Alike.refl U.vm) h.2.1, va_Z.moved (u := U) (U := U.calling g mk a) (Vm.Alike.refl U.vm) h.2.2.1, zq_mv (u := U) (U := U.calling g mk a) (Vm.Alike.refl U.vm) h.2.2.2⟩
theorem lp_S {v n : Nat} {f : Nat → Int32} {s : State} {As : List Value} (h : va_T .byte v n (fun j => .int (f j)) (fun _ => False) s s.heap) (h2 : SXA (fun _ => False) s s.heap) : PreS s s.heap (va_Pc As (LPc v n f)) As :=
  ⟨lp_blind, fun U hU hW => ⟨rfl, by rw [hU]; exact va_T.moved hW.alike h, by rw [hU]; exact va_Z.moved hW.alike h2.1, by rw [hU]; exact zq_mv hW.alike h2.2⟩⟩
theorem nI_of9 {n : Nat} {i : Int32} (hn : n < 2 ^ 31) (h0 : 0 ≤ i.toInt) (h1 : i.toInt < n) : (¬ i < 0) ∧ i < nI n ∧ vp_in i n := by
  have e := nI_toInt (n := n) (by omega)
  refine ⟨fun q => ?_, Int32.lt_iff_toInt_lt.mpr (by rw [e]; exact h1), (vp_in_iff).mpr ⟨h0, h1⟩⟩
  have q := Int32.lt_iff_toInt_lt.mp q
  have z : (0 : Int32).toInt = 0 := rfl
  omega
set_option maxHeartbeats 4000000 in
set_option maxRecDepth 100000 in
theorem j_lchar (l : Launch) (v n : Nat) (f : Nat → Int32) (i : Int32) (hn : n < 2 ^ 31) (h0 : 0 ≤ i.toInt) (h1 : i.toInt < n) : Met l yJ1_charAt_3b067 (.code yJ1_charAt_3b067 cJ1_charAt_3b067 2 (some .char) :: TB) (rmk 3) (va_Pc [.ref v, .int i] (LPc v n f)) (vp_Si (fun r => r = f i.toNatClampNeg &&& 255)) 0 0 (fun _ => False) := by
  refine Met.ofW (cc := cJ1_charAt_3b067) (maxL := 2) (ret := (some .char)) (by decide) rfl ?_
  intro p e s m args below meth c s₁ B hml hv
  obtain ⟨rfl, hA, hZ, hZq⟩ := hv
  have hx := B.exec
  have hb := B.bytes
  have hr := B.returns
  have hT : ∀ w9 ∈ TB, w9.before ([.ref v, .int i] : List Value).toArray s = true := fun w9 h => atoms_spec (ws := .code yJ1_charAt_3b067 cJ1_charAt_3b067 2 (some .char) :: TB) B.pre w9 (List.mem_cons_of_mem _ h)
  have hown : s.vm.findClass RJ1 = some m.cls := findClass_of_methodNamed B.named
  have S : CallFix p m c cJ1_charAt_3b067 2 s _ TB RJ1 := ⟨hx, hb, hml, hown, hT⟩
  have hl := lv_entry ([.ref v, .int i]) (n := 2) (Nat.le_of_ble_eq_true rfl)
  rw [lg_entry_eq]
  generalize (lg_sl ([.ref v, .int i]) ++ List.replicate (2 - (lg_sl ([.ref v, .int i])).length) Slot.unset).toArray = ls at hl ⊢
  have hl : lv_has ls 2 [(0, .ref v), (1, .int i)] := hl
  have hS : va_S (fun _ => False) s.heap s.heap [] := va_S.rf
  obtain ⟨g0, g1, g2⟩ := nI_of9 hn h0 h1
  refine lv_iload_n hx hb dJ1_charAt_3b067_0 rfl (lv_at hl 1 rfl) ?_
  refine lv_aload_n hx hb dJ1_charAt_3b067_1 rfl (lv_at hl 0 rfl) ?_
  refine va_tlen (v := nI n) hx hb hA hS rfl dJ1_charAt_3b067_2 ?_
  refine ro_SV (As := [.int i, .int (nI n)]) (rest := []) S (j_check l i (nI n) g0 g1) (gdC t586) t584 t585 t117 ok_J0_checkIndex_df160 ⟨rfl, rfl, Nat.le_of_ble_eq_true rfl, Nat.le_of_ble_eq_true rfl⟩ (sv_S ⟨hZ, hZq⟩) rfl hl.1 rfl (Nat.le_of_ble_eq_true rfl) ⟨Nat.zero_le _, Nat.zero_le _⟩ dJ1_charAt_3b067_3 ?_
  refine lv_aload_n hx hb dJ1_charAt_3b067_6 rfl (lv_at hl 0 rfl) ?_
  refine lv_iload_n hx hb dJ1_charAt_3b067_7 rfl (lv_at hl 1 rfl) ?_
  refine va_tb hx hb hA hS g2 rfl dJ1_charAt_3b067_8 ?_
  refine lv_sipush (v := 255) hx hb dJ1_charAt_3b067_9 (by decide) ?_
  refine lv_iand hx hb dJ1_charAt_3b067_12 ?_
  refine lv_i2c hx hb dJ1_charAt_3b067_13 (sc_c2 _) ?_
  exact W.zret (v := (f i.toNatClampNeg &&& 255)) (ty := .char) hx hb hr (sc_nar _) (fun t ht hW => ⟨_, rfl, rfl, ht⟩) (fun _ h9 => by cases h9) dJ1_charAt_3b067_14
set_option maxHeartbeats 4000000 in
set_option maxRecDepth 100000 in
theorem j_char (l : Launch) (w n : Nat) (f : Nat → Int32) (i : Int32) (hn : n < 2 ^ 31) (h0 : 0 ≤ i.toInt) (h1 : i.toInt < n) : Met l yJ0_charAt_5068e (.code yJ0_charAt_5068e cJ0_charAt_5068e 2 (some .char) :: TB) (rmk 4) (va_Pc [.ref w, .int i] (SPc w n f)) (vp_Si (fun r => r = f i.toNatClampNeg &&& 255)) 0 0 (fun _ => False) := by
  refine Met.ofW (cc := cJ0_charAt_5068e) (maxL := 2) (ret := (some .char)) (by decide) rfl ?_
  intro p e s m args below meth c s₁ B hml hv
  obtain ⟨rfl, ⟨v, hO, hC, hV, hA⟩, hZ, hZq⟩ := hv
  have hx := B.exec
  have hb := B.bytes
  have hr := B.returns
  have hT : ∀ w9 ∈ TB, w9.before ([.ref w, .int i] : List Value).toArray s = true := fun w9 h => atoms_spec (ws := .code yJ0_charAt_5068e cJ0_charAt_5068e 2 (some .char) :: TB) B.pre w9 (List.mem_cons_of_mem _ h)
  have hown : s.vm.findClass RJ0 = some m.cls := findClass_of_methodNamed B.named
  have S : CallFix p m c cJ0_charAt_5068e 2 s _ TB RJ0 := ⟨hx, hb, hml, hown, hT⟩
  have hl := lv_entry ([.ref w, .int i]) (n := 2) (Nat.le_of_ble_eq_true rfl)
  rw [lg_entry_eq]
  generalize (lg_sl ([.ref w, .int i]) ++ List.replicate (2 - (lg_sl ([.ref w, .int i])).length) Slot.unset).toArray = ls at hl ⊢
  have hl : lv_has ls 2 [(0, .ref w), (1, .int i)] := hl
  have hS : va_S (fun _ => False) s.heap s.heap [] := va_S.rf
  refine lv_aload_n hx hb dJ0_charAt_5068e_0 rfl (lv_at hl 0 rfl) ?_
  refine ro_V (As := []) (rest := []) S (j_latin l w n f) lkJ0_492 ok_J0_isLatin1_aae02 ⟨rfl, rfl, Nat.le_of_ble_eq_true rfl, Nat.le_of_ble_eq_true rfl⟩ (sp_V (A := fun _ => False) ⟨v, hO, hC, hV, hA⟩ ⟨hZ, hZq⟩) rfl hl.1 rfl (Nat.le_of_ble_eq_true rfl) ⟨Nat.zero_le _, Nat.zero_le _⟩ dJ0_charAt_5068e_1 (fun r1 er1 => ?_)
  subst er1
  refine lv_if_eq (tgt := 16) hx hb dJ0_charAt_5068e_4 (by decide) (fun c1 => absurd c1 (by decide)) (fun _ => ?_)
  refine lv_aload_n hx hb dJ0_charAt_5068e_7 rfl (lv_at hl 0 rfl) ?_
  refine vk_getf hx hb hV hS hown (hT _ t1943) (fun _ h9 => h9) dJ0_charAt_5068e_8 ?_
  refine lv_iload_n hx hb dJ0_charAt_5068e_11 rfl (lv_at hl 1 rfl) ?_
  refine ro_SX (As := [.ref v, .int i]) (rest := []) S (j_lchar l v n f i hn h0 h1) (gdC t583) t581 t582 t118 ok_J1_charAt_3b067 ⟨rfl, rfl, Nat.le_of_ble_eq_true rfl, Nat.le_of_ble_eq_true rfl⟩ (lp_S hA ⟨hZ, hZq⟩) rfl hl.1 rfl (Nat.le_of_ble_eq_true rfl) ⟨Nat.zero_le _, Nat.zero_le _⟩ dJ0_charAt_5068e_12 (fun r1 er1 => ?_)
  subst er1
  exact W.zret (v := (f i.toNatClampNeg &&& 255)) (ty := .char) hx hb hr (sc_nar _) (fun t ht hW => ⟨_, rfl, rfl, ht⟩) (fun _ h9 => by cases h9) dJ0_charAt_5068e_15
