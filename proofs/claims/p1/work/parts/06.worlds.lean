abbrev rmk (n : Nat) : Room := { frames := 4 * n + 2, cells := 0, slots := 0, locals := 100 * n + 40 }
abbrev KT (k : Nat → ClassId) : List (ClassId × FieldType) := [(k 0, .int), (k 1, .byte), (k 2, .long), (k 3, .boolean), (k 4, .object "WheelMemory$World"), (k 5, .object "WheelMemory$State"), (k 6, .array .long)]
def FW (k : Nat → ClassId) (q : Nat → Nat) (wf : Nat → Int32) : va_W := [(q 0, .inr (9, [.ref (q 1), .ref (q 2), .ref (q 3), .ref (q 4), .ref (q 5), .ref (q 6), .ref (q 7), .ref (q 8), .ref (q 9), .ref (q 10), .ref (q 11)])), (q 3, .inr (8, [.ref (q 12), .ref (q 13), .int 0, .ref (q 14), .ref (q 15), .ref (q 16)])), (q 12, .inr (1, [.int 0, .int 0, .int 0, .int 0, .int 0, .int 0, .int 0, .ref (q 17), .ref (q 18), .ref (q 19), .ref (q 20), .ref (q 21), .ref (q 22), .ref (q 23)])), (q 6, .inr (4, [.ref (q 24), .ref (q 25), .ref (q 26)])), (q 24, .inl (k 0, 4, .inl wf)), (q 5, .inl (k 3, 3, .inl (fun _ => 0))), (q 1, .inr (6, [.ref (q 27), .int 0])), (q 2, .inr (2, [.ref (q 1), .ref (q 28), .int 0, .int (-1), .int 0, .int 0, .int 0, .int 0]))]
def FWH (D : va_G) (k : Nat → ClassId) (q : Nat → Nat) (wf : Nat → Int32) (U : State) (H : Heap) : Prop := va_P D vwCl (FW k q wf) H ∧ va_K D vwCl (KT k) U ∧ ∀ j : Nat, j < 4 → wf j = -1
def MW (k : Nat → ClassId) (u : Nat → Nat) (mf : Nat → Int32) : va_W := [(u 0, .inr (10, [.int 0, .ref (u 1), .ref (u 2), .ref (u 3), .ref (u 4), .int 0, .ref (u 5), .int 0, .int 0, .int 0, .int 0, .int 0, .int 0, .int (-1), .ref (u 6), .ref (u 7), .ref (u 8), .ref (u 9), .ref (u 10), .ref (u 11), .int 0, .int 0, .int 0, .ref (u 12), .ref (u 13), .ref (u 14), .int 0, .int 0, .ref (u 15), .int 0, .ref (u 16), .int 0, .ref (u 17), .int 0, .ref (u 18), .ref (u 19), .ref (u 20), .ref (u 21)])), (u 1, .inl (k 0, 168, .inl (fun _ => 0))), (u 3, .inl (k 3, 3, .inl (fun _ => 0))), (u 18, .inl (k 0, 4, .inl mf))]
def MWH (D : va_G) (k : Nat → ClassId) (u : Nat → Nat) (mf : Nat → Int32) (U : State) (H : Heap) : Prop := va_P D vwCl (MW k u mf) H ∧ va_K D vwCl (KT k) U ∧ ∀ j : Nat, j < 4 → mf j = -1
theorem fw_blind {D : va_G} {k : Nat → ClassId} {q : Nat → Nat} {wf : Nat → Int32} {av : List Value} : FrameBlind (va_Pc av (fun U => FWH D k q wf U U.heap)) := fun a U g mk h => by
  obtain ⟨h0, hP, hK, hw⟩ := h
  exact ⟨h0, hP, va_K.moved (u := U) (U := U.calling g mk a) (Vm.Alike.refl U.vm) hK, hw⟩
theorem mw_blind {D : va_G} {k : Nat → ClassId} {u : Nat → Nat} {mf : Nat → Int32} {av : List Value} : FrameBlind (va_Pc av (fun U => MWH D k u mf U U.heap)) := fun a U g mk h => by
  obtain ⟨h0, hP, hK, hw⟩ := h
  exact ⟨h0, hP, va_K.moved (u := U) (U := U.calling g mk a) (Vm.Alike.refl U.vm) hK, hw⟩
theorem fw_S {D : va_G} {k : Nat → ClassId} {q : Nat → Nat} {wf : Nat → Int32} {s : State} {H : Heap} {As : List Value} (hF : FWH D k q wf s H) : PreS s H (va_Pc As (fun U => FWH D k q wf U U.heap)) As :=
  ⟨fw_blind, fun U hU hW => ⟨rfl, by rw [hU]; exact hF.1, va_K.moved hW.alike hF.2.1, hF.2.2⟩⟩
theorem mw_S {D : va_G} {k : Nat → ClassId} {u : Nat → Nat} {mf : Nat → Int32} {s : State} {H : Heap} {As : List Value} (hF : MWH D k u mf s H) : PreS s H (va_Pc As (fun U => MWH D k u mf U U.heap)) As :=
  ⟨mw_blind, fun U hU hW => ⟨rfl, by rw [hU]; exact hF.1, va_K.moved hW.alike hF.2.1, hF.2.2⟩⟩
theorem fw_V {D : va_G} {k : Nat → ClassId} {q : Nat → Nat} {wf : Nat → Int32} {s : State} {H : Heap} {As : List Value} {b ci q0 : Nat} {r : vw_C} {fs : List Value} (hF : FWH D k q wf s H) (hc : vwCl[ci]? = some r) (he : (FW k q wf)[q0]? = some (b, .inr (ci, fs))) : PreV s H r.1 b (va_Pc (.ref b :: As) (fun U => FWH D k q wf U U.heap)) As :=
  ⟨fw_blind, va_recv hF.2.1 hF.1 hc he, (fw_S hF).2⟩
theorem mw_V {D : va_G} {k : Nat → ClassId} {u : Nat → Nat} {mf : Nat → Int32} {s : State} {H : Heap} {As : List Value} {b ci q0 : Nat} {r : vw_C} {fs : List Value} (hF : MWH D k u mf s H) (hc : vwCl[ci]? = some r) (he : (MW k u mf)[q0]? = some (b, .inr (ci, fs))) : PreV s H r.1 b (va_Pc (.ref b :: As) (fun U => MWH D k u mf U U.heap)) As :=
  ⟨mw_blind, va_recv hF.2.1 hF.1 hc he, (mw_S hF).2⟩
def a_fault (x : Int32) : Int32 := if x = 0 then 0 else -1
def a_count (x : Int32) : Int32 := if x.toInt < 0 ∨ 9 < x.toInt then -1 else 0
def a_back (x : Int32) : Int32 := if x < 0 ∨ 3 ≤ x then -2 else -6
def a_slot (x : Int32) : Int32 := if x < 0 ∨ 4 ≤ x then -2 else -6
def a_two (x y : Int32) : Int32 := if (x < 0 ∨ 4 ≤ x) ∨ (y < 0 ∨ 4 ≤ y) then -2 else -6
def in4 (x : Int32) : Prop := ¬ x < 0 ∧ x < 4
theorem in4_vp {x : Int32} (h : in4 x) : vp_in x 4 := i32_in 4 rfl h.1 h.2
theorem no_in (v : Int64) : ¬ ((0 : Int64) ≤ v ∧ v ≤ -1) := fun h => by
  have a := Int64.le_iff_toInt_le.mp h.1
  have b := Int64.le_iff_toInt_le.mp h.2
  have e0 : (0 : Int64).toInt = 0 := rfl
  have e1 : (-1 : Int64).toInt = -1 := by decide
  rw [e0] at a
  rw [e1] at b
  omega
theorem i64_01 {x : Int32} (n : Int64) (N : Int32) (k : Nat) (hn : n.toInt = k) (hN : N.toInt = k + 1) : ((0 : Int64) ≤ x.toInt64 ∧ x.toInt64 ≤ n) ↔ (¬ x < 0 ∧ x < N) := by
  rw [Int64.le_iff_toInt_le, Int64.le_iff_toInt_le, Int32.lt_iff_toInt_lt, Int32.lt_iff_toInt_lt, Int32.toInt_toInt64, hn, hN]
  have e0 : (0 : Int64).toInt = 0 := rfl
  have e1 : (0 : Int32).toInt = 0 := rfl
  rw [e0, e1]
  omega
theorem i64_out {x : Int32} (n : Int64) (N : Int32) (k : Nat) (hn : n.toInt = k) (hN : N.toInt = k + 1) (h : ¬ ((0 : Int64) ≤ x.toInt64 ∧ x.toInt64 ≤ n)) : x < 0 ∨ N ≤ x := by
  rw [i64_01 n N k hn hN] at h
  by_cases h0 : x < 0
  · exact Or.inl h0
  · exact Or.inr (Int32.not_lt.mp (fun z => h ⟨h0, z⟩))
theorem in4_of {x : Int32} (h : (0 : Int64) ≤ x.toInt64 ∧ x.toInt64 ≤ 3) : in4 x := (i64_01 3 4 3 (by decide) (by decide)).mp h
theorem out4_of {x : Int32} (h : ¬ ((0 : Int64) ≤ x.toInt64 ∧ x.toInt64 ≤ 3)) : x < 0 ∨ 4 ≤ x := i64_out 3 4 3 (by decide) (by decide) h
theorem in3_of {x : Int32} (h : (0 : Int64) ≤ x.toInt64 ∧ x.toInt64 ≤ 2) : ¬ x < 0 ∧ x < 3 := (i64_01 2 3 2 (by decide) (by decide)).mp h
theorem out3_of {x : Int32} (h : ¬ ((0 : Int64) ≤ x.toInt64 ∧ x.toInt64 ≤ 2)) : x < 0 ∨ 3 ≤ x := i64_out 2 3 2 (by decide) (by decide) h
