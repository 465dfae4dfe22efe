/-! words: one list for every method -/
def TB : List Cond := lw_tbl.filter goodWord
theorem tb (i : Nat) (w : Cond) (h : lw_tbl[i]? = some w) (g : goodWord w = true) : w ∈ TB := List.mem_filter.mpr ⟨List.mem_of_getElem? h, g⟩
theorem tb_good {w : Cond} (h : w ∈ TB) : (w.onTables && w.keeps) = true ∨ ∃ ty, w = .arrayClass ty := good_of_word (List.mem_filter.mp h).2
theorem tb_in {w : Cond} (h : w ∈ TB) : w ∈ lw_tbl := (List.mem_filter.mp h).1
theorem gd_all (ws : List Cond) (h : ∀ w ∈ ws, w ∈ TB) : GoodIn TB ws := fun w hw => ⟨h w hw, tb_good (h w hw)⟩
theorem gdC {y : MethodName} {b : ByteArray} {n : Nat} {r : Option FieldType} (h5 : Cond.code y b n r ∈ TB) : GoodIn TB (.code y b n r :: TB) := gd_all _ (fun w hw => by
  rcases List.mem_cons.mp hw with rfl | hw
  · exact h5
  · exact hw)
theorem gdV {own : String} {idx : Nat} {C : String} {y : MethodName} {b : ByteArray} {n : Nat} {r : Option FieldType} (h1 : Cond.methodLink own idx y ∈ TB) (h2 : Cond.instanceMethod y ∈ TB) (h3 : Cond.selects C y y ∈ TB) (h4 : Cond.initialized C ∈ TB) (h5 : Cond.code y b n r ∈ TB) : GoodIn TB (wsV own idx C y (.code y b n r :: TB)) := gd_all _ (fun w hw => by
  unfold wsV at hw
  rcases List.mem_append.mp hw with hw | hw
  · rcases List.mem_cons.mp hw with rfl | hw
    · exact h1
    · rcases List.mem_cons.mp hw with rfl | hw
      · exact h2
      · rcases List.mem_cons.mp hw with rfl | hw
        · exact h3
        · rcases List.mem_cons.mp hw with rfl | hw
          · exact h4
          · cases hw
  · exact (gdC h5 w hw).1)
theorem gdS {own : String} {idx : Nat} {y : MethodName} {b : ByteArray} {n : Nat} {r : Option FieldType} (h1 : Cond.methodLink own idx y ∈ TB) (h2 : Cond.static y ∈ TB) (h4 : Cond.initialized own ∈ TB) (h5 : Cond.code y b n r ∈ TB) : GoodIn TB (wsS own idx y (.code y b n r :: TB)) := gd_all _ (fun w hw => by
  unfold wsS at hw
  rcases List.mem_append.mp hw with hw | hw
  · rcases List.mem_cons.mp hw with rfl | hw
    · exact h1
    · rcases List.mem_cons.mp hw with rfl | hw
      · exact h2
      · rcases List.mem_cons.mp hw with rfl | hw
        · exact h4
        · cases hw
  · exact (gdC h5 w hw).1)
theorem gdF (ws : List Cond) (ps : List Nat) (hp : ws = ps.filterMap (fun i => lw_tbl[i]?)) (h : ws.all goodWord = true) : ∀ w ∈ ws, w ∈ TB := fun w hw => by
  have h1 := List.all_eq_true.mp h w hw
  rw [hp] at hw
  obtain ⟨i, -, hi⟩ := List.mem_filterMap.mp hw
  exact tb i w hi h1
/-- how many parameters, and that a name is plain -/
def okY (y : MethodName) (C : String) (n : Nat) : Prop := y.cls = C ∧ y.cls ≠ "java/lang/invoke/MethodHandle" ∧ y.cls ≠ "java/lang/invoke/VarHandle" ∧ (parseMethodDescriptor y.desc).map (fun d => d.parameters.length) = some n
section RO
variable {p : Program} {l : Launch} {e : Env} {R : Room} {s : State} {m : MethodId} {args : Array Value} {below : List Frame} {meth : Method} {c : Code} {H : Heap} {locs : List Loc} {cells slots : Nat} {Q : State → Prop} {pc : Nat} {ls : Array Slot} {rest st : List Value}
theorem k_top {x y : Int32} (h : x = y) (k : W p l e R s m args below meth c H locs cells slots Q (F0 m pc ls (.int y :: rest))) : W p l e R s m args below meth c H locs cells slots Q (F0 m pc ls (.int x :: rest)) := h ▸ k
theorem k_topl {x y : Int64} (h : x = y) (k : W p l e R s m args below meth c H locs cells slots Q (F0 m pc ls (.long y :: rest))) : W p l e R s m args below meth c H locs cells slots Q (F0 m pc ls (.long x :: rest)) := h ▸ k
theorem ro_V {cc : ByteArray} {nL n index maxL : Nat} {own C : String} {y : MethodName} {bytes : ByteArray} {ret : Option FieldType} {rm : Room} {Pc : Array Value → State → Prop} {post : Int32 → Prop} {b : Addr} {As : List Value}
    (S : CallFix p m c cc nL s args TB own) (hM : Met l y (.code y bytes maxL ret :: TB) rm Pc (vp_Si post) 0 0 (fun _ => False))
    (hG : GoodIn TB (wsV own index C y (.code y bytes maxL ret :: TB))) (hd : okY y C n)
    (hrm : rm.cells = 0 ∧ rm.slots = 0 ∧ rm.frames + 1 ≤ R.frames ∧ 8 + (maxL + 11) + rm.locals ≤ R.locals)
    (hp : PreV s H C b Pc As) (hn : As.length = n) (hsize : ls.size = nL) (hst : st = As.reverse ++ .ref b :: rest) (hW : (rest.map fun v => v.category).sum ≤ 8)
    (hf : cells ≤ R.cells ∧ slots ≤ R.slots) (hdg : decode cc pc = .ok (.invokevirtual index, 3))
    (kk : ∀ r : Int32, post r → W p l e R s m args below meth c H locs cells slots Q (F0 m (pc + 3) ls (.int r :: rest))) : W p l e R s m args below meth c H locs cells slots Q (F0 m pc ls st) := by
  subst hst
  exact vp_callSi (W.runV S hM (cwV n S.2.2.2.2 hG rfl hrm.1 hrm.2.1 hd hrm.2.2) hp rfl hn hsize rfl (lv_room hW) hdg hf) kk
theorem ro_S {cc : ByteArray} {nL n index maxL : Nat} {own : String} {y : MethodName} {bytes : ByteArray} {ret : Option FieldType} {rm : Room} {Pc : Array Value → State → Prop} {post : Int32 → Prop} {As : List Value}
    (S : CallFix p m c cc nL s args TB own) (hM : Met l y (.code y bytes maxL ret :: TB) rm Pc (vp_Si post) 0 0 (fun _ => False))
    (hG : GoodIn TB (wsS own index y (.code y bytes maxL ret :: TB))) (hd : okY y own n)
    (hrm : rm.cells = 0 ∧ rm.slots = 0 ∧ rm.frames + 1 ≤ R.frames ∧ 8 + (maxL + 11) + rm.locals ≤ R.locals)
    (hp : PreS s H Pc As) (hn : As.length = n) (hsize : ls.size = nL) (hst : st = As.reverse ++ rest) (hW : (rest.map fun v => v.category).sum ≤ 8)
    (hf : cells ≤ R.cells ∧ slots ≤ R.slots) (hdg : decode cc pc = .ok (.invokestatic index, 3))
    (kk : ∀ r : Int32, post r → W p l e R s m args below meth c H locs cells slots Q (F0 m (pc + 3) ls (.int r :: rest))) : W p l e R s m args below meth c H locs cells slots Q (F0 m pc ls st) := by
  subst hst
  exact vp_callSi (W.runS S hM (cwS n S.2.2.2.2 hG rfl hrm.1 hrm.2.1 hd hrm.2.2) hp rfl hn hsize rfl (lv_room hW) hdg hf) kk
end RO
theorem i32_nn {x y : Int32} (h : ¬ x < y) : y ≤ x := Int32.not_lt.mp h
theorem i32_in {x : Int32} {n : Nat} (N : Int32) (hN : N.toInt = n) (h0 : ¬ x < 0) (h1 : x < N) : vp_in x n := by
  rw [vp_in_iff]
  have a1 := mt Int32.lt_iff_toInt_lt.mpr h0
  have a2 := Int32.lt_iff_toInt_lt.mp h1
  rw [hN] at a2
  have a3 : (0 : Int32).toInt = 0 := rfl
  rw [a3] at a1
  exact ⟨by omega, a2⟩
theorem vp_in_lt {x : Int32} {n : Nat} (h : vp_in x n) : x.toNatClampNeg < n := by
  unfold vp_in at h
  exact Nat.lt_of_not_le (fun q => h (Or.inr q))
