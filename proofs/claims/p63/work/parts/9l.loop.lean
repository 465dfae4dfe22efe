theorem hv_of {i : Int32} {L : Nat} (h0 : 0 ≤ i.toInt) (h1 : i.toInt + 6 ≤ L) (hL : L ≤ 3072) : ∀ j : Int32, 0 ≤ j.toInt → j.toInt ≤ 5 → vp_in (i + j) L := fun j a b => by
  rw [vp_in_iff]
  have e := ti_add (a := 0) (b := 3072) (c := 0) (d := 5) (z := i + j) rfl ⟨h0, by omega⟩ ⟨a, b⟩ (by decide) (by decide)
  exact ⟨by omega, by omega⟩
theorem len6 {L : Nat} {z : Int32} (hL : L ≤ 3072) (e : z = Int32.ofNat L - 6) : z.toInt = (L : Int) - 6 := by
  have h := nI_toInt (n := L) (by omega)
  have q := ti_sub (a := 0) (b := 3072) (c := 6) (d := 6) (x := nI L) (y := 6) e ⟨by omega, by omega⟩ ⟨by decide, by decide⟩ (by decide) (by decide)
  have z6 : (6 : Int32).toInt = 6 := rfl
  omega
set_option maxHeartbeats 4000000 in
set_option maxRecDepth 100000 in
theorem law_loop {p : Program} {l : Launch} {e : Env} {s : State} {m : MethodId} {below : List Frame} {meth : Method} {c : Code} {cells slots : Nat} {b L : Nat} {xs : Nat → Int32} {D : va_G} {k : Nat → ClassId} {a q : Nat → Nat} (G : LSX p s m c b L xs D k) (hr : meth.sig.returnType = ret) (hlocks : meth.locks = false) (hL : L ≤ 3072) (hcs : cells ≤ 600000 ∧ slots ≤ 7302250) : ∀ (n : Nat) (i : Int32) (ls : Array Slot) (st mt : CT) (sl ml : CL) (H : Heap) (locs : List Loc), 0 ≤ i.toInt → i.toInt ≤ 3078 → (3078 - i.toInt).toNat < n → lv_has ls 4 [(0, .ref b), (1, .ref (a 0)), (2, .ref (q 0)), (3, .int i)] → INV st mt → va_P D vwCl (CWS k a st sl) H → va_P D vwCl (MWS k q mt ml) H → va_D (fun z : Nat => s.heap.size ≤ z) (CWS k a st sl ++ MWS k q mt ml) → va_S (fun z : Nat => s.heap.size ≤ z) s.heap H locs → W p l e room_1 s m #[Value.ref b] below meth c H locs cells slots (lw_Z below #[Value.ref b] s) (F0 m 18 ls []) := by
  obtain ⟨S, hK, hN, hNS, hX, hbl⟩ := id G
  have hx := S.1
  have hb := S.2.1
  have hbA : ¬ (fun z : Nat => s.heap.size ≤ z) b := Nat.not_le.mpr hbl
  intro n
  induction n with
  | zero =>
    intro i ls st mt sl ml H locs h0 h1 hm
    omega
  | succ n ih =>
    intro i ls st mt sl ml H locs h0 h1 hm hl hI hP1 hP2 hD hS
    refine lv_iload_n hx hb dL_law_18 rfl (lv_at hl 3 rfl) ?_
    refine lv_aload_n hx hb dL_law_19 rfl (lv_at hl 0 rfl) ?_
    refine va_slen hx hb hX hbl hbA hS dL_law_20 ?_
    refine lv_bipush (v := 6) hx hb dL_law_21 (by decide) ?_
    refine lv_isub hx hb dL_law_23 ?_
    refine lv_topi (fun z ez => ?_)
    have ezi := len6 hL ez
    refine lv_icmp_gt (tgt := 2218) hx hb dL_law_24 (by decide) (fun c1 => ?_) (fun c1 => ?_)
    · refine lv_iconst (v := 1) hx hb dL_law_2218 (by decide) ?_
      refine va_forget hS.2.2 ?_
      refine W.widen (k := 600000) (n := 7302250) hcs.1 hcs.2 ?_
      exact lw_ret hx hb hr hlocks dL_law_2219
    · have c2 := i_nlt c1
      refine lv_aload_n hx hb dL_law_27 rfl (lv_at hl 0 rfl) ?_
      refine lv_iload_n hx hb dL_law_28 rfl (lv_at hl 3 rfl) ?_
      refine va_sld hx hb hX hbl hbA hS (vp_in_iff.mpr ⟨h0, by omega⟩) dL_law_29 ?_
      refine lv_bipush (v := 63) hx hb dL_law_30 (by decide) ?_
      refine lv_iand hx hb dL_law_32 ?_
      refine law_sw (i := i) (L := L) (xs := xs) (D := D) (k := k) (a := a) (q := q) (st := st) (mt := mt) (sl := sl) (ml := ml) _ G (hv_of h0 (by omega) hL) hl hcs hI hP1 hP2 hD hS (fun st mt sl ml H locs hI hP1 hP2 hD hS => ?_)
      obtain ⟨i2, e2⟩ : ∃ z9 : Int32, z9 = i + Int32.ofInt 6 := ⟨_, rfl⟩
      have e3 := ti_inc (a := 0) (b := 3078) e2 ⟨h0, h1⟩ (by decide) (by decide) (by decide) (by decide)
      refine lv_iinc (v := i2) (lv' := [(3, .int i2), (0, .ref b), (1, .ref (a 0)), (2, .ref (q 0))]) hx hb dL_law_2212 hl (k := 3) rfl e2.symm (by decide) rfl (fun ls hl => ?_)
      refine lv_goto (tgt := 18) hx hb dL_law_2215 (by decide) ?_
      exact ih i2 ls st mt sl ml H locs (by omega) (by omega) (by omega) (lv_sub hl [1, 2, 3, 0] rfl) hI hP1 hP2 hD hS
