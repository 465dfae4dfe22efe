theorem nx_of {args : Array Value} {s : State} (h : ∀ w ∈ lw_tbl, w.before args s = true) : NX s := by
  refine ⟨?_, va_AO.of (A := args) (h _ (List.mem_of_getElem? (i := 333) (by decide +kernel))), va_AO.of (A := args) (h _ (List.mem_of_getElem? (i := 398) (by decide +kernel))), (show (Cond.arrayOver (.array .long)).before args s = true from h _ (List.mem_of_getElem? (i := 341) (by decide +kernel)))⟩
  intro w hw
  simp only [nestW, List.mem_cons, List.not_mem_nil, or_false] at hw
  rcases hw with rfl | rfl | rfl | rfl | rfl | rfl | rfl
  · exact va_Nw.of rfl (h _ (List.mem_of_getElem? (i := 133) (by decide +kernel)))
  · exact va_Nw.of rfl (h _ (List.mem_of_getElem? (i := 139) (by decide +kernel)))
  · exact va_Nw.of rfl (h _ (List.mem_of_getElem? (i := 154) (by decide +kernel)))
  · exact va_Nw.of rfl (h _ (List.mem_of_getElem? (i := 303) (by decide +kernel)))
  · exact va_Nw.of rfl (h _ (List.mem_of_getElem? (i := 308) (by decide +kernel)))
  · exact va_Nw.of rfl (h _ (List.mem_of_getElem? (i := 362) (by decide +kernel)))
  · exact va_Nw.of rfl (h _ (List.mem_of_getElem? (i := 437) (by decide +kernel)))
theorem known_at {s : State} {args : Array Value} (hT : ∀ w ∈ TB, w.before args s = true) (hN : NX s) : ∃ (D : va_G) (k : Nat → ClassId), va_K D vwCl (KT k) s := by
  obtain ⟨c0, i0, k0⟩ := u_known (C := RX0) (T := TX0) (N := 3) (n := 3) hT in_X0 (hT _ t436)
  obtain ⟨c1, i1, k1⟩ := u_known (C := RX1) (T := TX1) (N := 14) (n := 14) hT in_X1 (hT _ t153)
  obtain ⟨c2, i2, k2⟩ := u_known (C := RX2) (T := TX2) (N := 8) (n := 8) hT in_X2 (hT _ t132)
  obtain ⟨c3, i3, k3⟩ := u_known (C := RX3) (T := TX3) (N := 10) (n := 10) hT in_X3 (hT _ t392)
  obtain ⟨c4, i4, k4⟩ := u_known (C := RX4) (T := TX4) (N := 3) (n := 3) hT in_X4 (hT _ t335)
  obtain ⟨c5, i5, k5⟩ := u_known (C := RX5) (T := TX5) (N := 5) (n := 5) hT in_X5 (hT _ t159)
  obtain ⟨c6, i6, k6⟩ := u_known (C := RX6) (T := TX6) (N := 2) (n := 2) hT in_X6 (hT _ t138)
  obtain ⟨c7, i7, k7⟩ := u_known (C := RX7) (T := TX7) (N := 6) (n := 6) hT in_X7 (hT _ t361)
  obtain ⟨c8, i8, k8⟩ := u_known (C := RX8) (T := TX8) (N := 6) (n := 6) hT in_X8 (hT _ t302)
  obtain ⟨c9, i9, k9⟩ := u_known (C := RX9) (T := TX9) (N := 11) (n := 11) hT in_X9 (hT _ t124)
  obtain ⟨c10, i10, k10⟩ := u_known (C := RX10) (T := TX10) (N := 38) (n := 38) hT in_X10 (hT _ t1258)
  obtain ⟨a0, q0, z0, f0, g0, h0⟩ := Cond.arrayClass_spec (hT _ t194)
  obtain ⟨a1, q1, z1, f1, g1, h1⟩ := Cond.arrayClass_spec (hT _ t151)
  obtain ⟨a2, q2, z2, f2, g2, h2⟩ := Cond.arrayClass_spec (hT _ t357)
  obtain ⟨a3, q3, z3, f3, g3, h3⟩ := Cond.arrayClass_spec (hT _ t356)
  obtain ⟨z4, a4, q4, e4, -, g4, h4, f4⟩ := Cond.arrayOver_spec hN.2.1
  obtain ⟨z5, a5, q5, e5, -, g5, h5, f5⟩ := Cond.arrayOver_spec hN.2.2.1
  obtain ⟨z6, a6, q6, -, g6, h6, f6⟩ := Cond.arrayOver_specA hN.2.2.2
  refine ⟨((fun j => if j = 0 then c0 else if j = 1 then c1 else if j = 2 then c2 else if j = 3 then c3 else if j = 4 then c4 else if j = 5 then c5 else if j = 6 then c6 else if j = 7 then c7 else if j = 8 then c8 else if j = 9 then c9 else c10), (fun j => if j = 0 then i0 else if j = 1 then i1 else if j = 2 then i2 else if j = 3 then i3 else if j = 4 then i4 else if j = 5 then i5 else if j = 6 then i6 else if j = 7 then i7 else if j = 8 then i8 else if j = 9 then i9 else i10)), (fun j => if j = 0 then a0 else if j = 1 then a1 else if j = 2 then a2 else if j = 3 then a3 else if j = 4 then a4 else if j = 5 then a5 else a6), ?_, ?_⟩
  · intro j q hq
    match j, hq with
    | 0, hq => cases hq; exact k0
    | 1, hq => cases hq; exact k1
    | 2, hq => cases hq; exact k2
    | 3, hq => cases hq; exact k3
    | 4, hq => cases hq; exact k4
    | 5, hq => cases hq; exact k5
    | 6, hq => cases hq; exact k6
    | 7, hq => cases hq; exact k7
    | 8, hq => cases hq; exact k8
    | 9, hq => cases hq; exact k9
    | 10, hq => cases hq; exact k10
    | j + 11, hq => simp [vwCl] at hq
  · intro j q hq
    match j, hq with
    | 0, hq => cases hq; exact ⟨fun N z => ⟨fun q hq => (by cases hq), q0, g0, z0, h0⟩, f0⟩
    | 1, hq => cases hq; exact ⟨fun N z => ⟨fun q hq => (by cases hq), q1, g1, z1, h1⟩, f1⟩
    | 2, hq => cases hq; exact ⟨fun N z => ⟨fun q hq => (by cases hq), q2, g2, z2, h2⟩, f2⟩
    | 3, hq => cases hq; exact ⟨fun N z => ⟨fun q hq => (by cases hq), q3, g3, z3, h3⟩, f3⟩
    | 4, hq => cases hq; exact ⟨fun N z => ⟨fun q hq => (by cases hq), q4, g4, z4, h4⟩, q4, z4, g4, h4, e4, f4⟩
    | 5, hq => cases hq; exact ⟨fun N z => ⟨fun q hq => (by cases hq), q5, g5, z5, h5⟩, q5, z5, g5, h5, e5, f5⟩
    | 6, hq => cases hq; exact ⟨fun N z => ⟨fun q hq => (by cases hq), q6, g6, z6, h6⟩, f6⟩
    | j + 7, hq => simp at hq
