def EN (f : Nat → Int32) (r k : Int32) : Int32 := f (8 + 3 * r + k).toNatClampNeg
def BS (x : Int32) : Nat → Int32
  | 0 => 0
  | m + 1 => BS x m + ((x >>> (nI m &&& 31)) &&& 1)
theorem nI_cl {lo hi : Int} {k : Int32} (h : Iv lo hi k) (h0 : 0 ≤ lo) : nI k.toNatClampNeg = k := by
  have c := cl_int h h0
  have q := (iv_full k).2
  apply Int32.toInt_inj.mp
  rw [nI_toInt (by omega)]
  exact c
theorem cl_succ {lo hi : Int} {k k2 : Int32} (h : Iv lo hi k) (h0 : 0 ≤ lo) (e : k2.toInt = k.toInt + 1) : k2.toNatClampNeg = k.toNatClampNeg + 1 := by
  have c := cl_int h h0
  exact cl_of (by rw [e]; omega)
theorem bs_step {p n k k2 z1 z2 z3 : Int32} (h : n = BS p k.toNatClampNeg) (hk : Iv 0 9 k) (e : k2.toInt = k.toInt + 1) (e1 : z1 = p >>> (k &&& 31)) (e2 : z2 = z1 &&& 1) (e3 : z3 = n + z2) : z3 = BS p k2.toNatClampNeg := by
  rw [cl_succ hk (by decide) e, BS, nI_cl hk (by decide), ← h, ← e1, ← e2]
  exact e3
theorem bs_pos : ∀ n : Nat, n < 256 → 1 ≤ n → 1 ≤ (BS (nI n) 10).toInt := by decide +kernel
theorem bs_nz {x : Int32} (h : Iv 1 255 x) : 1 ≤ (BS x 10).toInt := by
  have c := nI_cl h (by decide)
  have q := cl_int h (by decide)
  have h1 := h.1
  have h2 := h.2
  have z := bs_pos x.toNatClampNeg (by omega) (by omega)
  rw [c] at z
  exact z
def RO (f : Nat → Int32) (p : Int32) : Nat → Int32
  | 0 => 0
  | m + 1 => RO f p m ||| (if EN f (nI m) 0 = p ∨ EN f (nI m) 1 = p then (1 : Int32) <<< (nI m &&& 31) else 0)
theorem ro_y {f : Nat → Int32} {p s k k2 z1 z2 : Int32} (h : s = RO f p k.toNatClampNeg) (hk : Iv 0 7 k) (e : k2.toInt = k.toInt + 1) (c : EN f k 0 = p ∨ EN f k 1 = p) (e1 : z1 = (1 : Int32) <<< (k &&& 31)) (e2 : z2 = s ||| z1) : z2 = RO f p k2.toNatClampNeg := by
  rw [cl_succ hk (by decide) e, RO, nI_cl hk (by decide), if_pos c, ← h, ← e1]
  exact e2
theorem ro_n {f : Nat → Int32} {p s k k2 z2 : Int32} (h : s = RO f p k.toNatClampNeg) (hk : Iv 0 7 k) (e : k2.toInt = k.toInt + 1) (c : ¬ (EN f k 0 = p ∨ EN f k 1 = p)) (e2 : z2 = s ||| 0) : z2 = RO f p k2.toNatClampNeg := by
  rw [cl_succ hk (by decide) e, RO, nI_cl hk (by decide), if_neg c, ← h]
  exact e2
set_option maxHeartbeats 4000000 in
set_option maxRecDepth 100000 in
theorem m_X10_in (l : Launch) (D : va_G) (k : Nat → ClassId) (a : Nat → Nat) (st : CT) (sl : CL) (p0 : Int64) (p1 : Int64) (p2 : Int64) (sz : Nat) (hB : MB st)  : Met l yX10_in (.code yX10_in cX10_in 6 (some .boolean) :: TB) (rmk 1) (va_Pc [.long p0, .long p1, .long p2] (PW D k sz (MWS k a st sl))) (vp_Si (fun r => (r = 1 ∧ (p1.toInt ≤ p0.toInt ∧ p0.toInt ≤ p2.toInt)) ∨ (r = 0 ∧ (¬ (p1.toInt ≤ p0.toInt ∧ p0.toInt ≤ p2.toInt))))) 0 0 (fun _ => False) := by
  refine Met.ofW (cc := cX10_in) (maxL := 6) (ret := (some .boolean)) (by decide) rfl ?_
  intro p e s m args below meth c s₁ B hml hv
  obtain ⟨rfl, hsz, hP, hK, hD0, hN⟩ := hv
  have hx := B.exec
  have hb := B.bytes
  have hr := B.returns
  have hT : ∀ w9 ∈ TB, w9.before ([.long p0, .long p1, .long p2] : List Value).toArray s = true := fun w9 h => atoms_spec (ws := .code yX10_in cX10_in 6 (some .boolean) :: TB) B.pre w9 (List.mem_cons_of_mem _ h)
  have hown : s.vm.findClass RX10 = some m.cls := findClass_of_methodNamed B.named
  have S : CallFix p m c cX10_in 6 s _ TB RX10 := ⟨hx, hb, hml, hown, hT⟩
  subst hsz
  have hl := lv_entry ([.long p0, .long p1, .long p2]) (n := 6) (Nat.le_of_ble_eq_true rfl)
  rw [lg_entry_eq]
  generalize (lg_sl ([.long p0, .long p1, .long p2]) ++ List.replicate (6 - (lg_sl ([.long p0, .long p1, .long p2])).length) Slot.unset).toArray = ls at hl ⊢
  have hl : lv_has ls 6 [(0, .long p0), (2, .long p1), (4, .long p2)] := hl
  refine nameQ (fun Q hQ => ?_)
  refine lv_lload_n hx hb dX10_in_0 rfl (lv_at hl 0 rfl) ?_
  refine lv_lload_n hx hb dX10_in_1 rfl (lv_at hl 1 rfl) ?_
  refine W.lcmp hx hb dX10_in_2 ?_
  refine lv_topi (fun z1 ez1 => ?_)
  refine lv_if_lt (tgt := 17) hx hb dX10_in_3 (by decide) (fun c2 => ?_) (fun c2 => ?_)
  · skip
    have n3 := lc_lt ez1 c2
    refine lv_iconst (v := 0) hx hb dX10_in_17 (by decide) ?_
    rw [hQ]
    exact W.zret (v := 0) (ty := .boolean) hx hb hr rfl (fun t ht hW => ⟨0, rfl, Or.inr ⟨rfl, (fun z9 => absurd z9.1 (Int.not_le.mpr n3))⟩, ht⟩) (fun _ h9 => by cases h9) dX10_in_18
  · skip
    have n4 := lc_nlt ez1 c2
    refine lv_lload_n hx hb dX10_in_6 rfl (lv_at hl 0 rfl) ?_
    refine lv_lload hx hb dX10_in_7 (lv_at hl 2 rfl) ?_
    refine W.lcmp hx hb dX10_in_9 ?_
    refine lv_topi (fun z5 ez5 => ?_)
    refine lv_if_gt (tgt := 17) hx hb dX10_in_10 (by decide) (fun c6 => ?_) (fun c6 => ?_)
    · skip
      have n7 := lc_gt ez5 c6
      refine lv_iconst (v := 0) hx hb dX10_in_17 (by decide) ?_
      rw [hQ]
      exact W.zret (v := 0) (ty := .boolean) hx hb hr rfl (fun t ht hW => ⟨0, rfl, Or.inr ⟨rfl, (fun z9 => absurd z9.2 (Int.not_le.mpr n7))⟩, ht⟩) (fun _ h9 => by cases h9) dX10_in_18
    · skip
      have n8 := lc_ngt ez5 c6
      refine lv_iconst (v := 1) hx hb dX10_in_13 (by decide) ?_
      refine lv_goto (tgt := 18) hx hb dX10_in_14 (by decide) ?_
      rw [hQ]
      exact W.zret (v := 1) (ty := .boolean) hx hb hr rfl (fun t ht hW => ⟨1, rfl, Or.inl ⟨rfl, ⟨n4, n8⟩⟩, ht⟩) (fun _ h9 => by cases h9) dX10_in_18
set_option maxHeartbeats 4000000 in
set_option maxRecDepth 100000 in
theorem m_X10_bits (l : Launch) (D : va_G) (k : Nat → ClassId) (a : Nat → Nat) (st : CT) (sl : CL) (p0 : Int32) (sz : Nat) (hB : MB st)  : Met l yX10_bits (.code yX10_bits cX10_bits 3 (some .int) :: TB) (rmk 1) (va_Pc [.int p0] (PW D k sz (MWS k a st sl))) (vp_Si (fun r => (r = BS p0 10))) 0 0 (fun _ => False) := by
  refine Met.ofW (cc := cX10_bits) (maxL := 3) (ret := (some .int)) (by decide) rfl ?_
  intro p e s m args below meth c s₁ B hml hv
  obtain ⟨rfl, hsz, hP, hK, hD0, hN⟩ := hv
  have hx := B.exec
  have hb := B.bytes
  have hr := B.returns
  have hT : ∀ w9 ∈ TB, w9.before ([.int p0] : List Value).toArray s = true := fun w9 h => atoms_spec (ws := .code yX10_bits cX10_bits 3 (some .int) :: TB) B.pre w9 (List.mem_cons_of_mem _ h)
  have hown : s.vm.findClass RX10 = some m.cls := findClass_of_methodNamed B.named
  have S : CallFix p m c cX10_bits 3 s _ TB RX10 := ⟨hx, hb, hml, hown, hT⟩
  subst hsz
  have hl := lv_entry ([.int p0]) (n := 3) (Nat.le_of_ble_eq_true rfl)
  rw [lg_entry_eq]
  generalize (lg_sl ([.int p0]) ++ List.replicate (3 - (lg_sl ([.int p0])).length) Slot.unset).toArray = ls at hl ⊢
  have hl : lv_has ls 3 [(0, .int p0)] := hl
  refine nameQ (fun Q hQ => ?_)
  refine lv_iconst (v := 0) hx hb dX10_bits_0 (by decide) ?_
  refine lv_istore_n (lv' := [(1, .int 0), (0, .int p0)]) hx hb dX10_bits_1 rfl hl (by decide) rfl (fun ls hl => ?_)
  refine lv_iconst (v := 0) hx hb dX10_bits_2 (by decide) ?_
  refine lv_istore_n (lv' := [(2, .int 0), (1, .int 0), (0, .int p0)]) hx hb dX10_bits_3 rfl hl (by decide) rfl (fun ls hl => ?_)
  have lp4 : ∀ (n9_4 : Nat) (v2_4 : Int32) (v1_4 : Int32) (ls : Array Slot), Iv 0 10 v2_4 → (v1_4 = BS p0 v2_4.toNatClampNeg) → lv_has ls 3 [(2, .int v2_4), (1, .int v1_4), (0, .int p0)] → (10 : Int) - v2_4.toInt < (n9_4 : Int) → W p l e (rmk 1) s m ([.int p0] : List Value).toArray below meth c s.heap [] 0 0 Q (F0 m 4 ls []) := by
    clear hl
    intro n9_4
    induction n9_4 with
    | zero =>
      intro v2_4 v1_4 ls iv2_4 rel4_0 hl hm4
      exact (fu_0 iv2_4 hm4).elim
    | succ n9_4 ih4 =>
      intro v2_4 v1_4 ls iv2_4 rel4_0 hl hm4
      refine lv_iload_n hx hb dX10_bits_4 rfl (lv_at hl 0 rfl) ?_
      refine lv_bipush (v := 10) hx hb dX10_bits_5 (by decide) ?_
      refine lv_icmp_ge (tgt := 24) hx hb dX10_bits_7 (by decide) (fun c387 => ?_) (fun c387 => ?_)
      · skip
        have n388 : (10 : Int32).toInt ≤ v2_4.toInt := (i_le c387)
        have h389 : Iv 10 10 v2_4 := le_r (iv_c (by decide) : Iv 10 10 10) n388 iv2_4 (by decide)
        refine lv_iload_n hx hb dX10_bits_24 rfl (lv_at hl 1 rfl) ?_
        rw [hQ]
        exact W.iret (v := v1_4) hx hb hr (fun t ht hW => ⟨v1_4, rfl, (by rw [rel4_0, iv_eq 10 h389 rfl]; rfl), ht⟩) (fun _ h9 => by cases h9) dX10_bits_25
      · skip
        have n390 : v2_4.toInt < (10 : Int32).toInt := (i_nle c387)
        have h391 : Iv 0 9 v2_4 := lt_l iv2_4 n390 (iv_c (by decide) : Iv 10 10 10) (by decide)
        refine lv_iload_n hx hb dX10_bits_10 rfl (lv_at hl 1 rfl) ?_
        refine lv_iload_n hx hb dX10_bits_11 rfl (lv_at hl 2 rfl) ?_
        refine lv_iload_n hx hb dX10_bits_12 rfl (lv_at hl 0 rfl) ?_
        refine lv_ishr hx hb dX10_bits_13 ?_
        refine lv_topi (fun z392 ez392 => ?_)
        refine lv_iconst (v := 1) hx hb dX10_bits_14 (by decide) ?_
        refine lv_iand hx hb dX10_bits_15 ?_
        refine lv_topi (fun z393 ez393 => ?_)
        have h394 : Iv 0 1 z393 := iv_andr ez393 (iv_mono (c := 0) (d := 1) (iv_c (by decide) : Iv 1 1 1) (by decide) (by decide))
        refine lv_iadd hx hb dX10_bits_16 ?_
        refine lv_topi (fun z395 ez395 => ?_)
        refine lv_istore_n (lv' := [(1, .int z395), (2, .int v2_4), (0, .int p0)]) hx hb dX10_bits_17 rfl hl (by decide) rfl (fun ls hl => ?_)
        obtain ⟨z396, ez396⟩ : ∃ z9 : Int32, z9 = v2_4 + Int32.ofInt 1 := ⟨_, rfl⟩
        have h397 : Iv 1 10 z396 := iv_inc ez396 h391 (by decide) (by decide) (by decide) (by decide) (by decide) (by decide)
        refine lv_iinc (v := z396) (lv' := [(2, .int z396), (1, .int z395), (0, .int p0)]) hx hb dX10_bits_18 hl (k := 1) rfl ez396.symm (by decide) rfl (fun ls hl => ?_)
        refine lv_goto (tgt := 4) hx hb dX10_bits_21 (by decide) ?_
        exact ih4 z396 z395 _ (iv_mono (c := 0) (d := 10) h397 (by decide) (by decide)) (bs_step rel4_0 h391 (ti_inc ez396 h391 (by decide) (by decide) (by decide) (by decide)) ez392 ez393 ez395) (lv_sub hl [0, 1, 2] rfl) (fu_s (lo := 0) (ti_inc ez396 h391 (by decide) (by decide) (by decide) (by decide)) (by decide) hm4)
  exact lp4 11 0 0 _ (iv_mono (c := 0) (d := 10) (iv_c (by decide) : Iv 0 0 0) (by decide) (by decide)) rfl (lv_sub hl [0, 1, 2] rfl) (fu_i (iv_mono (c := 0) (d := 10) (iv_c (by decide) : Iv 0 0 0) (by decide) (by decide)) (by decide))
set_option maxHeartbeats 4000000 in
set_option maxRecDepth 100000 in
theorem m_X10_bit (l : Launch) (D : va_G) (k : Nat → ClassId) (a : Nat → Nat) (st : CT) (sl : CL) (p0 : Int32) (p1 : Int32) (sz : Nat) (hB : MB st)  : Met l yX10_bit (.code yX10_bit cX10_bit 2 (some .int) :: TB) (rmk 1) (va_Pc [.int p0, .int p1] (PW D k sz (MWS k a st sl))) (vp_Si (fun r => Iv 0 1 r ∧ (r = (p0 >>> (p1 &&& 31)) &&& 1))) 0 0 (fun _ => False) := by
  refine Met.ofW (cc := cX10_bit) (maxL := 2) (ret := (some .int)) (by decide) rfl ?_
  intro p e s m args below meth c s₁ B hml hv
  obtain ⟨rfl, hsz, hP, hK, hD0, hN⟩ := hv
  have hx := B.exec
  have hb := B.bytes
  have hr := B.returns
  have hT : ∀ w9 ∈ TB, w9.before ([.int p0, .int p1] : List Value).toArray s = true := fun w9 h => atoms_spec (ws := .code yX10_bit cX10_bit 2 (some .int) :: TB) B.pre w9 (List.mem_cons_of_mem _ h)
  have hown : s.vm.findClass RX10 = some m.cls := findClass_of_methodNamed B.named
  have S : CallFix p m c cX10_bit 2 s _ TB RX10 := ⟨hx, hb, hml, hown, hT⟩
  subst hsz
  have hl := lv_entry ([.int p0, .int p1]) (n := 2) (Nat.le_of_ble_eq_true rfl)
  rw [lg_entry_eq]
  generalize (lg_sl ([.int p0, .int p1]) ++ List.replicate (2 - (lg_sl ([.int p0, .int p1])).length) Slot.unset).toArray = ls at hl ⊢
  have hl : lv_has ls 2 [(0, .int p0), (1, .int p1)] := hl
  refine nameQ (fun Q hQ => ?_)
  refine lv_iload_n hx hb dX10_bit_0 rfl (lv_at hl 0 rfl) ?_
  refine lv_iload_n hx hb dX10_bit_1 rfl (lv_at hl 1 rfl) ?_
  refine lv_ishr hx hb dX10_bit_2 ?_
  refine lv_topi (fun z1 ez1 => ?_)
  refine lv_iconst (v := 1) hx hb dX10_bit_3 (by decide) ?_
  refine lv_iand hx hb dX10_bit_4 ?_
  refine lv_topi (fun z2 ez2 => ?_)
  have h3 : Iv 0 1 z2 := iv_andr ez2 (iv_mono (c := 0) (d := 1) (iv_c (by decide) : Iv 1 1 1) (by decide) (by decide))
  rw [hQ]
  exact W.iret (v := z2) hx hb hr (fun t ht hW => ⟨z2, rfl, ⟨h3, (by rw [ez2, ez1])⟩, ht⟩) (fun _ h9 => by cases h9) dX10_bit_5
set_option maxHeartbeats 4000000 in
set_option maxRecDepth 100000 in
theorem m_X10_isLand (l : Launch) (D : va_G) (k : Nat → ClassId) (a : Nat → Nat) (st : CT) (sl : CL) (sz : Nat) (hB : MB st)  (hw : WOK (st 1)) : Met l yX10_isLand (.code yX10_isLand cX10_isLand 1 (some .boolean) :: TB) (rmk 1) (va_Pc [.ref (a 0)] (PW D k sz (MWS k a st sl))) (vp_Si (fun r => (r = 1 ∧ (True)) ∨ (r = 0 ∧ (True)))) 0 0 (fun _ => False) := by
  refine Met.ofW (cc := cX10_isLand) (maxL := 1) (ret := (some .boolean)) (by decide) rfl ?_
  intro p e s m args below meth c s₁ B hml hv
  obtain ⟨rfl, hsz, hP, hK, hD0, hN⟩ := hv
  have hx := B.exec
  have hb := B.bytes
  have hr := B.returns
  have hT : ∀ w9 ∈ TB, w9.before ([.ref (a 0)] : List Value).toArray s = true := fun w9 h => atoms_spec (ws := .code yX10_isLand cX10_isLand 1 (some .boolean) :: TB) B.pre w9 (List.mem_cons_of_mem _ h)
  have hown : s.vm.findClass RX10 = some m.cls := findClass_of_methodNamed B.named
  have S : CallFix p m c cX10_isLand 1 s _ TB RX10 := ⟨hx, hb, hml, hown, hT⟩
  subst hsz
  have hl := lv_entry ([.ref (a 0)]) (n := 1) (Nat.le_of_ble_eq_true rfl)
  rw [lg_entry_eq]
  generalize (lg_sl ([.ref (a 0)]) ++ List.replicate (1 - (lg_sl ([.ref (a 0)])).length) Slot.unset).toArray = ls at hl ⊢
  have hl : lv_has ls 1 [(0, .ref (a 0))] := hl
  refine nameQ (fun Q hQ => ?_)
  refine lv_aload_n hx hb dX10_isLand_0 rfl (lv_at hl 0 rfl) ?_
  refine va_get (D := D) (ci := 10) (v := .ref (a 1)) (C := RX10) (T := TX10) (N := 38) hx hb hT in_X10 hown hK hP 0 mw_0 rfl 1 (by decide) (hT _ t1263) (fun _ h9 => h9) rfl dX10_isLand_1 ?_
  refine lv_bipush (v := 6) hx hb dX10_isLand_4 (by decide) ?_
  refine va_iald hx hb hK hP 1 0 mw_1 rfl (by unfold vp_in; decide) dX10_isLand_6 ?_
  refine k_top (y := (st 1 6)) rfl ?_
  refine lv_if_le (tgt := 14) hx hb dX10_isLand_7 (by decide) (fun c1 => ?_) (fun c1 => ?_)
  · skip
    have n2 : (st 1 6).toInt ≤ (0 : Int32).toInt := (i_le c1)
    have h3 : Iv (-2147483648) 0 (st 1 6) := le_l (iv_full (st 1 6)) n2 (iv_c (by decide) : Iv 0 0 0) (by decide)
    refine lv_iconst (v := 0) hx hb dX10_isLand_14 (by decide) ?_
    rw [hQ]
    exact W.zret (v := 0) (ty := .boolean) hx hb hr rfl (fun t ht hW => ⟨0, rfl, Or.inr ⟨rfl, trivial⟩, ht⟩) (fun _ h9 => by cases h9) dX10_isLand_15
  · skip
    have n4 : (0 : Int32).toInt < (st 1 6).toInt := (i_nle c1)
    have h5 : Iv 1 2147483647 (st 1 6) := lt_r (iv_c (by decide) : Iv 0 0 0) n4 (iv_full (st 1 6)) (by decide)
    refine lv_iconst (v := 1) hx hb dX10_isLand_10 (by decide) ?_
    refine lv_goto (tgt := 15) hx hb dX10_isLand_11 (by decide) ?_
    rw [hQ]
    exact W.zret (v := 1) (ty := .boolean) hx hb hr rfl (fun t ht hW => ⟨1, rfl, Or.inl ⟨rfl, trivial⟩, ht⟩) (fun _ h9 => by cases h9) dX10_isLand_15
set_option maxHeartbeats 4000000 in
set_option maxRecDepth 100000 in
theorem m_X10_isPlace (l : Launch) (D : va_G) (k : Nat → ClassId) (a : Nat → Nat) (st : CT) (sl : CL) (p0 : Int64) (sz : Nat) (hB : MB st)  (hw : WOK (st 1)) : Met l yX10_isPlace (.code yX10_isPlace cX10_isPlace 3 (some .boolean) :: TB) (rmk 2) (va_Pc [.ref (a 0), .long p0] (PW D k sz (MWS k a st sl))) (vp_Si (fun r => (r = 1 ∧ ((0 : Int) ≤ p0.toInt ∧ p0.toInt ≤ (5 : Int))) ∨ (r = 0 ∧ (True)))) 0 0 (fun _ => False) := by
  refine Met.ofW (cc := cX10_isPlace) (maxL := 3) (ret := (some .boolean)) (by decide) rfl ?_
  intro p e s m args below meth c s₁ B hml hv
  obtain ⟨rfl, hsz, hP, hK, hD0, hN⟩ := hv
  have hx := B.exec
  have hb := B.bytes
  have hr := B.returns
  have hT : ∀ w9 ∈ TB, w9.before ([.ref (a 0), .long p0] : List Value).toArray s = true := fun w9 h => atoms_spec (ws := .code yX10_isPlace cX10_isPlace 3 (some .boolean) :: TB) B.pre w9 (List.mem_cons_of_mem _ h)
  have hown : s.vm.findClass RX10 = some m.cls := findClass_of_methodNamed B.named
  have S : CallFix p m c cX10_isPlace 3 s _ TB RX10 := ⟨hx, hb, hml, hown, hT⟩
  subst hsz
  have hl := lv_entry ([.ref (a 0), .long p0]) (n := 3) (Nat.le_of_ble_eq_true rfl)
  rw [lg_entry_eq]
  generalize (lg_sl ([.ref (a 0), .long p0]) ++ List.replicate (3 - (lg_sl ([.ref (a 0), .long p0])).length) Slot.unset).toArray = ls at hl ⊢
  have hl : lv_has ls 3 [(0, .ref (a 0)), (1, .long p0)] := hl
  refine nameQ (fun Q hQ => ?_)
  refine lv_lload_n hx hb dX10_isPlace_0 rfl (lv_at hl 1 rfl) ?_
  refine lv_lconst (v := 0) hx hb dX10_isPlace_1 (by decide) ?_
  refine lv_aload_n hx hb dX10_isPlace_2 rfl (lv_at hl 0 rfl) ?_
  refine va_get (D := D) (ci := 10) (v := .ref (a 1)) (C := RX10) (T := TX10) (N := 38) hx hb hT in_X10 hown hK hP 0 mw_0 rfl 1 (by decide) (hT _ t1263) (fun _ h9 => h9) rfl dX10_isPlace_3 ?_
  refine lv_iconst (v := 0) hx hb dX10_isPlace_6 (by decide) ?_
  refine va_iald hx hb hK hP 1 0 mw_1 rfl (by unfold vp_in; decide) dX10_isPlace_7 ?_
  refine k_top (y := (st 1 0)) rfl ?_
  have h1 : Iv 0 6 (st 1 0) := (tok_at (hw).1 0 0 6 (by decide) (by decide) (by decide))
  refine lv_iconst (v := 1) hx hb dX10_isPlace_8 (by decide) ?_
  refine lv_isub hx hb dX10_isPlace_9 ?_
  refine lv_topi (fun z2 ez2 => ?_)
  have h3 : Iv (-1) 5 z2 := iv_sub ez2 h1 (iv_c (by decide) : Iv 1 1 1) (by decide) (by decide) (by decide) (by decide)
  refine lv_i2l hx hb dX10_isPlace_10 rfl ?_
  refine ro_S (As := [.long p0, .long 0, .long (z2.toInt64)]) (rest := []) S (m_X10_in l D k a st sl  p0 0 (z2.toInt64) _  hB  ) lkX10_85 ok_X10_in ⟨rfl, rfl, Nat.le_of_ble_eq_true rfl, Nat.le_of_ble_eq_true rfl⟩ (pw_S hK hN hP hD0) rfl hl.1 rfl (Nat.le_of_ble_eq_true rfl) ⟨Nat.zero_le _, Nat.zero_le _⟩ dX10_isPlace_11 (fun r4 er4 => ?_)
  rcases er4 with ⟨rfl, g9⟩ | ⟨rfl, g9⟩
  · skip
    have g5 := g9
    have k6 := g5
    have h7 : (0 : Int) ≤ p0.toInt ∧ p0.toInt ≤ (5 : Int) := ⟨((show (0 : Int) ≤ p0.toInt ∧ p0.toInt ≤ (5 : Int) from ⟨Int.le_trans ((⟨by decide, by decide⟩ : (0 : Int) ≤ (0 : Int64).toInt ∧ (0 : Int64).toInt ≤ (0 : Int))).1 k6.1, Int.le_trans k6.2 ((lv_iv h3)).2⟩)).1, ((show (0 : Int) ≤ p0.toInt ∧ p0.toInt ≤ (5 : Int) from ⟨Int.le_trans ((⟨by decide, by decide⟩ : (0 : Int) ≤ (0 : Int64).toInt ∧ (0 : Int64).toInt ≤ (0 : Int))).1 k6.1, Int.le_trans k6.2 ((lv_iv h3)).2⟩)).2⟩
    rw [hQ]
    exact W.zret (v := 1) (ty := .boolean) hx hb hr rfl (fun t ht hW => ⟨1, rfl, Or.inl ⟨rfl, (show (0 : Int) ≤ p0.toInt ∧ p0.toInt ≤ (5 : Int) by have y9 := h7; omega)⟩, ht⟩) (fun _ h9 => by cases h9) dX10_isPlace_14
  · skip
    have g8 := g9
    have k9 := g8
    rw [hQ]
    exact W.zret (v := 0) (ty := .boolean) hx hb hr rfl (fun t ht hW => ⟨0, rfl, Or.inr ⟨rfl, trivial⟩, ht⟩) (fun _ h9 => by cases h9) dX10_isPlace_14
set_option maxHeartbeats 4000000 in
set_option maxRecDepth 100000 in
theorem m_X10_isRoad (l : Launch) (D : va_G) (k : Nat → ClassId) (a : Nat → Nat) (st : CT) (sl : CL) (p0 : Int64) (sz : Nat) (hB : MB st)  (hw : WOK (st 1)) : Met l yX10_isRoad (.code yX10_isRoad cX10_isRoad 3 (some .boolean) :: TB) (rmk 2) (va_Pc [.ref (a 0), .long p0] (PW D k sz (MWS k a st sl))) (vp_Si (fun r => (r = 1 ∧ ((0 : Int) ≤ p0.toInt ∧ p0.toInt ≤ (7 : Int))) ∨ (r = 0 ∧ (True)))) 0 0 (fun _ => False) := by
  refine Met.ofW (cc := cX10_isRoad) (maxL := 3) (ret := (some .boolean)) (by decide) rfl ?_
  intro p e s m args below meth c s₁ B hml hv
  obtain ⟨rfl, hsz, hP, hK, hD0, hN⟩ := hv
  have hx := B.exec
  have hb := B.bytes
  have hr := B.returns
  have hT : ∀ w9 ∈ TB, w9.before ([.ref (a 0), .long p0] : List Value).toArray s = true := fun w9 h => atoms_spec (ws := .code yX10_isRoad cX10_isRoad 3 (some .boolean) :: TB) B.pre w9 (List.mem_cons_of_mem _ h)
  have hown : s.vm.findClass RX10 = some m.cls := findClass_of_methodNamed B.named
  have S : CallFix p m c cX10_isRoad 3 s _ TB RX10 := ⟨hx, hb, hml, hown, hT⟩
  subst hsz
  have hl := lv_entry ([.ref (a 0), .long p0]) (n := 3) (Nat.le_of_ble_eq_true rfl)
  rw [lg_entry_eq]
  generalize (lg_sl ([.ref (a 0), .long p0]) ++ List.replicate (3 - (lg_sl ([.ref (a 0), .long p0])).length) Slot.unset).toArray = ls at hl ⊢
  have hl : lv_has ls 3 [(0, .ref (a 0)), (1, .long p0)] := hl
  refine nameQ (fun Q hQ => ?_)
  refine lv_lload_n hx hb dX10_isRoad_0 rfl (lv_at hl 1 rfl) ?_
  refine lv_lconst (v := 0) hx hb dX10_isRoad_1 (by decide) ?_
  refine lv_aload_n hx hb dX10_isRoad_2 rfl (lv_at hl 0 rfl) ?_
  refine va_get (D := D) (ci := 10) (v := .ref (a 1)) (C := RX10) (T := TX10) (N := 38) hx hb hT in_X10 hown hK hP 0 mw_0 rfl 1 (by decide) (hT _ t1263) (fun _ h9 => h9) rfl dX10_isRoad_3 ?_
  refine lv_iconst (v := 2) hx hb dX10_isRoad_6 (by decide) ?_
  refine va_iald hx hb hK hP 1 0 mw_1 rfl (by unfold vp_in; decide) dX10_isRoad_7 ?_
  refine k_top (y := (st 1 2)) rfl ?_
  have h1 : Iv 0 8 (st 1 2) := (tok_at (hw).1 2 0 8 (by decide) (by decide) (by decide))
  refine lv_iconst (v := 1) hx hb dX10_isRoad_8 (by decide) ?_
  refine lv_isub hx hb dX10_isRoad_9 ?_
  refine lv_topi (fun z2 ez2 => ?_)
  have h3 : Iv (-1) 7 z2 := iv_sub ez2 h1 (iv_c (by decide) : Iv 1 1 1) (by decide) (by decide) (by decide) (by decide)
  refine lv_i2l hx hb dX10_isRoad_10 rfl ?_
  refine ro_S (As := [.long p0, .long 0, .long (z2.toInt64)]) (rest := []) S (m_X10_in l D k a st sl  p0 0 (z2.toInt64) _  hB  ) lkX10_85 ok_X10_in ⟨rfl, rfl, Nat.le_of_ble_eq_true rfl, Nat.le_of_ble_eq_true rfl⟩ (pw_S hK hN hP hD0) rfl hl.1 rfl (Nat.le_of_ble_eq_true rfl) ⟨Nat.zero_le _, Nat.zero_le _⟩ dX10_isRoad_11 (fun r4 er4 => ?_)
  rcases er4 with ⟨rfl, g9⟩ | ⟨rfl, g9⟩
  · skip
    have g5 := g9
    have k6 := g5
    have h7 : (0 : Int) ≤ p0.toInt ∧ p0.toInt ≤ (7 : Int) := ⟨((show (0 : Int) ≤ p0.toInt ∧ p0.toInt ≤ (7 : Int) from ⟨Int.le_trans ((⟨by decide, by decide⟩ : (0 : Int) ≤ (0 : Int64).toInt ∧ (0 : Int64).toInt ≤ (0 : Int))).1 k6.1, Int.le_trans k6.2 ((lv_iv h3)).2⟩)).1, ((show (0 : Int) ≤ p0.toInt ∧ p0.toInt ≤ (7 : Int) from ⟨Int.le_trans ((⟨by decide, by decide⟩ : (0 : Int) ≤ (0 : Int64).toInt ∧ (0 : Int64).toInt ≤ (0 : Int))).1 k6.1, Int.le_trans k6.2 ((lv_iv h3)).2⟩)).2⟩
    rw [hQ]
    exact W.zret (v := 1) (ty := .boolean) hx hb hr rfl (fun t ht hW => ⟨1, rfl, Or.inl ⟨rfl, (show (0 : Int) ≤ p0.toInt ∧ p0.toInt ≤ (7 : Int) by have y9 := h7; omega)⟩, ht⟩) (fun _ h9 => by cases h9) dX10_isRoad_14
  · skip
    have g8 := g9
    have k9 := g8
    rw [hQ]
    exact W.zret (v := 0) (ty := .boolean) hx hb hr rfl (fun t ht hW => ⟨0, rfl, Or.inr ⟨rfl, trivial⟩, ht⟩) (fun _ h9 => by cases h9) dX10_isRoad_14
set_option maxHeartbeats 4000000 in
set_option maxRecDepth 100000 in
theorem m_X10_isWheel (l : Launch) (D : va_G) (k : Nat → ClassId) (a : Nat → Nat) (st : CT) (sl : CL) (p0 : Int32) (sz : Nat) (hB : MB st)  (hw : WOK (st 1)) : Met l yX10_isWheel (.code yX10_isWheel cX10_isWheel 2 (some .boolean) :: TB) (rmk 2) (va_Pc [.ref (a 0), .int p0] (PW D k sz (MWS k a st sl))) (vp_Si (fun r => (r = 1 ∧ Iv 0 7 p0 ∧ (p0.toInt < (st 1 3).toInt)) ∨ (r = 0 ∧ (True)))) 0 0 (fun _ => False) := by
  refine Met.ofW (cc := cX10_isWheel) (maxL := 2) (ret := (some .boolean)) (by decide) rfl ?_
  intro p e s m args below meth c s₁ B hml hv
  obtain ⟨rfl, hsz, hP, hK, hD0, hN⟩ := hv
  have hx := B.exec
  have hb := B.bytes
  have hr := B.returns
  have hT : ∀ w9 ∈ TB, w9.before ([.ref (a 0), .int p0] : List Value).toArray s = true := fun w9 h => atoms_spec (ws := .code yX10_isWheel cX10_isWheel 2 (some .boolean) :: TB) B.pre w9 (List.mem_cons_of_mem _ h)
  have hown : s.vm.findClass RX10 = some m.cls := findClass_of_methodNamed B.named
  have S : CallFix p m c cX10_isWheel 2 s _ TB RX10 := ⟨hx, hb, hml, hown, hT⟩
  subst hsz
  have hl := lv_entry ([.ref (a 0), .int p0]) (n := 2) (Nat.le_of_ble_eq_true rfl)
  rw [lg_entry_eq]
  generalize (lg_sl ([.ref (a 0), .int p0]) ++ List.replicate (2 - (lg_sl ([.ref (a 0), .int p0])).length) Slot.unset).toArray = ls at hl ⊢
  have hl : lv_has ls 2 [(0, .ref (a 0)), (1, .int p0)] := hl
  refine nameQ (fun Q hQ => ?_)
  refine lv_iload_n hx hb dX10_isWheel_0 rfl (lv_at hl 1 rfl) ?_
  refine lv_i2l hx hb dX10_isWheel_1 rfl ?_
  refine lv_lconst (v := 0) hx hb dX10_isWheel_2 (by decide) ?_
  refine lv_aload_n hx hb dX10_isWheel_3 rfl (lv_at hl 0 rfl) ?_
  refine va_get (D := D) (ci := 10) (v := .ref (a 1)) (C := RX10) (T := TX10) (N := 38) hx hb hT in_X10 hown hK hP 0 mw_0 rfl 1 (by decide) (hT _ t1263) (fun _ h9 => h9) rfl dX10_isWheel_4 ?_
  refine lv_iconst (v := 3) hx hb dX10_isWheel_7 (by decide) ?_
  refine va_iald hx hb hK hP 1 0 mw_1 rfl (by unfold vp_in; decide) dX10_isWheel_8 ?_
  refine k_top (y := (st 1 3)) rfl ?_
  have h1 : Iv 0 8 (st 1 3) := (tok_at (hw).1 3 0 8 (by decide) (by decide) (by decide))
  refine lv_iconst (v := 1) hx hb dX10_isWheel_9 (by decide) ?_
  refine lv_isub hx hb dX10_isWheel_10 ?_
  refine lv_topi (fun z2 ez2 => ?_)
  have h3 : Iv (-1) 7 z2 := iv_sub ez2 h1 (iv_c (by decide) : Iv 1 1 1) (by decide) (by decide) (by decide) (by decide)
  refine lv_i2l hx hb dX10_isWheel_11 rfl ?_
  refine ro_S (As := [.long (p0.toInt64), .long 0, .long (z2.toInt64)]) (rest := []) S (m_X10_in l D k a st sl  (p0.toInt64) 0 (z2.toInt64) _  hB  ) lkX10_85 ok_X10_in ⟨rfl, rfl, Nat.le_of_ble_eq_true rfl, Nat.le_of_ble_eq_true rfl⟩ (pw_S hK hN hP hD0) rfl hl.1 rfl (Nat.le_of_ble_eq_true rfl) ⟨Nat.zero_le _, Nat.zero_le _⟩ dX10_isWheel_12 (fun r4 er4 => ?_)
  rcases er4 with ⟨rfl, g9⟩ | ⟨rfl, g9⟩
  · skip
    have g5 := g9
    have k6 := g5
    have h7 : (0 : Int) ≤ (p0.toInt64).toInt ∧ (p0.toInt64).toInt ≤ (7 : Int) := ⟨((show (0 : Int) ≤ (p0.toInt64).toInt ∧ (p0.toInt64).toInt ≤ (7 : Int) from ⟨Int.le_trans ((⟨by decide, by decide⟩ : (0 : Int) ≤ (0 : Int64).toInt ∧ (0 : Int64).toInt ≤ (0 : Int))).1 k6.1, Int.le_trans k6.2 ((lv_iv h3)).2⟩)).1, ((show (0 : Int) ≤ (p0.toInt64).toInt ∧ (p0.toInt64).toInt ≤ (7 : Int) from ⟨Int.le_trans ((⟨by decide, by decide⟩ : (0 : Int) ≤ (0 : Int64).toInt ∧ (0 : Int64).toInt ≤ (0 : Int))).1 k6.1, Int.le_trans k6.2 ((lv_iv h3)).2⟩)).2⟩
    have h8 : Iv 0 7 p0 := iv_lv h7
    rw [hQ]
    exact W.zret (v := 1) (ty := .boolean) hx hb hr rfl (fun t ht hW => ⟨1, rfl, Or.inl ⟨rfl, h8, (by have y9 := k6.2; rw [l_ti, l_ti] at y9; have _c2 : (1 : Int32).toInt = 1 := rfl; have _ez2 := ti_sub ez2 h1 (iv_c (by decide) : Iv 1 1 1) (by decide) (by decide); omega)⟩, ht⟩) (fun _ h9 => by cases h9) dX10_isWheel_15
  · skip
    have g9 := g9
    have k10 := g9
    rw [hQ]
    exact W.zret (v := 0) (ty := .boolean) hx hb hr rfl (fun t ht hW => ⟨0, rfl, Or.inr ⟨rfl, trivial⟩, ht⟩) (fun _ h9 => by cases h9) dX10_isWheel_15
set_option maxHeartbeats 4000000 in
set_option maxRecDepth 100000 in
theorem m_X10_isCart (l : Launch) (D : va_G) (k : Nat → ClassId) (a : Nat → Nat) (st : CT) (sl : CL) (p0 : Int32) (sz : Nat) (hB : MB st)  (hw : WOK (st 1)) : Met l yX10_isCart (.code yX10_isCart cX10_isCart 2 (some .boolean) :: TB) (rmk 2) (va_Pc [.ref (a 0), .int p0] (PW D k sz (MWS k a st sl))) (vp_Si (fun r => (r = 1 ∧ Iv 0 2 p0 ∧ (True)) ∨ (r = 0 ∧ (True)))) 0 0 (fun _ => False) := by
  refine Met.ofW (cc := cX10_isCart) (maxL := 2) (ret := (some .boolean)) (by decide) rfl ?_
  intro p e s m args below meth c s₁ B hml hv
  obtain ⟨rfl, hsz, hP, hK, hD0, hN⟩ := hv
  have hx := B.exec
  have hb := B.bytes
  have hr := B.returns
  have hT : ∀ w9 ∈ TB, w9.before ([.ref (a 0), .int p0] : List Value).toArray s = true := fun w9 h => atoms_spec (ws := .code yX10_isCart cX10_isCart 2 (some .boolean) :: TB) B.pre w9 (List.mem_cons_of_mem _ h)
  have hown : s.vm.findClass RX10 = some m.cls := findClass_of_methodNamed B.named
  have S : CallFix p m c cX10_isCart 2 s _ TB RX10 := ⟨hx, hb, hml, hown, hT⟩
  subst hsz
  have hl := lv_entry ([.ref (a 0), .int p0]) (n := 2) (Nat.le_of_ble_eq_true rfl)
  rw [lg_entry_eq]
  generalize (lg_sl ([.ref (a 0), .int p0]) ++ List.replicate (2 - (lg_sl ([.ref (a 0), .int p0])).length) Slot.unset).toArray = ls at hl ⊢
  have hl : lv_has ls 2 [(0, .ref (a 0)), (1, .int p0)] := hl
  refine nameQ (fun Q hQ => ?_)
  refine lv_iload_n hx hb dX10_isCart_0 rfl (lv_at hl 1 rfl) ?_
  refine lv_i2l hx hb dX10_isCart_1 rfl ?_
  refine lv_lconst (v := 0) hx hb dX10_isCart_2 (by decide) ?_
  refine lv_aload_n hx hb dX10_isCart_3 rfl (lv_at hl 0 rfl) ?_
  refine va_get (D := D) (ci := 10) (v := .ref (a 1)) (C := RX10) (T := TX10) (N := 38) hx hb hT in_X10 hown hK hP 0 mw_0 rfl 1 (by decide) (hT _ t1263) (fun _ h9 => h9) rfl dX10_isCart_4 ?_
  refine lv_iconst (v := 4) hx hb dX10_isCart_7 (by decide) ?_
  refine va_iald hx hb hK hP 1 0 mw_1 rfl (by unfold vp_in; decide) dX10_isCart_8 ?_
  refine k_top (y := (st 1 4)) rfl ?_
  have h1 : Iv 0 3 (st 1 4) := (tok_at (hw).1 4 0 3 (by decide) (by decide) (by decide))
  refine lv_iconst (v := 1) hx hb dX10_isCart_9 (by decide) ?_
  refine lv_isub hx hb dX10_isCart_10 ?_
  refine lv_topi (fun z2 ez2 => ?_)
  have h3 : Iv (-1) 2 z2 := iv_sub ez2 h1 (iv_c (by decide) : Iv 1 1 1) (by decide) (by decide) (by decide) (by decide)
  refine lv_i2l hx hb dX10_isCart_11 rfl ?_
  refine ro_S (As := [.long (p0.toInt64), .long 0, .long (z2.toInt64)]) (rest := []) S (m_X10_in l D k a st sl  (p0.toInt64) 0 (z2.toInt64) _  hB  ) lkX10_85 ok_X10_in ⟨rfl, rfl, Nat.le_of_ble_eq_true rfl, Nat.le_of_ble_eq_true rfl⟩ (pw_S hK hN hP hD0) rfl hl.1 rfl (Nat.le_of_ble_eq_true rfl) ⟨Nat.zero_le _, Nat.zero_le _⟩ dX10_isCart_12 (fun r4 er4 => ?_)
  rcases er4 with ⟨rfl, g9⟩ | ⟨rfl, g9⟩
  · skip
    have g5 := g9
    have k6 := g5
    have h7 : (0 : Int) ≤ (p0.toInt64).toInt ∧ (p0.toInt64).toInt ≤ (2 : Int) := ⟨((show (0 : Int) ≤ (p0.toInt64).toInt ∧ (p0.toInt64).toInt ≤ (2 : Int) from ⟨Int.le_trans ((⟨by decide, by decide⟩ : (0 : Int) ≤ (0 : Int64).toInt ∧ (0 : Int64).toInt ≤ (0 : Int))).1 k6.1, Int.le_trans k6.2 ((lv_iv h3)).2⟩)).1, ((show (0 : Int) ≤ (p0.toInt64).toInt ∧ (p0.toInt64).toInt ≤ (2 : Int) from ⟨Int.le_trans ((⟨by decide, by decide⟩ : (0 : Int) ≤ (0 : Int64).toInt ∧ (0 : Int64).toInt ≤ (0 : Int))).1 k6.1, Int.le_trans k6.2 ((lv_iv h3)).2⟩)).2⟩
    have h8 : Iv 0 2 p0 := iv_lv h7
    rw [hQ]
    exact W.zret (v := 1) (ty := .boolean) hx hb hr rfl (fun t ht hW => ⟨1, rfl, Or.inl ⟨rfl, h8, trivial⟩, ht⟩) (fun _ h9 => by cases h9) dX10_isCart_15
  · skip
    have g9 := g9
    have k10 := g9
    rw [hQ]
    exact W.zret (v := 0) (ty := .boolean) hx hb hr rfl (fun t ht hW => ⟨0, rfl, Or.inr ⟨rfl, trivial⟩, ht⟩) (fun _ h9 => by cases h9) dX10_isCart_15
set_option maxHeartbeats 4000000 in
set_option maxRecDepth 100000 in
theorem m_X10_end (l : Launch) (D : va_G) (k : Nat → ClassId) (a : Nat → Nat) (st : CT) (sl : CL) (p0 : Int32) (p1 : Int32) (sz : Nat) (hB : MB st) (hp0 : Iv 0 7 p0) (hp1 : Iv 0 2 p1) (hw : WOK (st 1)) : Met l yX10_end (.code yX10_end cX10_end 3 (some .int) :: TB) (rmk 1) (va_Pc [.ref (a 0), .int p0, .int p1] (PW D k sz (MWS k a st sl))) (vp_Si (fun r => ((Iv 0 1 p1 → Iv 0 5 r) ∧ r = EN (st 1) p0 p1))) 0 0 (fun _ => False) := by
  refine Met.ofW (cc := cX10_end) (maxL := 3) (ret := (some .int)) (by decide) rfl ?_
  intro p e s m args below meth c s₁ B hml hv
  obtain ⟨rfl, hsz, hP, hK, hD0, hN⟩ := hv
  have hx := B.exec
  have hb := B.bytes
  have hr := B.returns
  have hT : ∀ w9 ∈ TB, w9.before ([.ref (a 0), .int p0, .int p1] : List Value).toArray s = true := fun w9 h => atoms_spec (ws := .code yX10_end cX10_end 3 (some .int) :: TB) B.pre w9 (List.mem_cons_of_mem _ h)
  have hown : s.vm.findClass RX10 = some m.cls := findClass_of_methodNamed B.named
  have S : CallFix p m c cX10_end 3 s _ TB RX10 := ⟨hx, hb, hml, hown, hT⟩
  subst hsz
  have hl := lv_entry ([.ref (a 0), .int p0, .int p1]) (n := 3) (Nat.le_of_ble_eq_true rfl)
  rw [lg_entry_eq]
  generalize (lg_sl ([.ref (a 0), .int p0, .int p1]) ++ List.replicate (3 - (lg_sl ([.ref (a 0), .int p0, .int p1])).length) Slot.unset).toArray = ls at hl ⊢
  have hl : lv_has ls 3 [(0, .ref (a 0)), (1, .int p0), (2, .int p1)] := hl
  refine nameQ (fun Q hQ => ?_)
  refine lv_aload_n hx hb dX10_end_0 rfl (lv_at hl 0 rfl) ?_
  refine va_get (D := D) (ci := 10) (v := .ref (a 1)) (C := RX10) (T := TX10) (N := 38) hx hb hT in_X10 hown hK hP 0 mw_0 rfl 1 (by decide) (hT _ t1263) (fun _ h9 => h9) rfl dX10_end_1 ?_
  refine lv_bipush (v := 8) hx hb dX10_end_4 (by decide) ?_
  refine lv_iconst (v := 3) hx hb dX10_end_6 (by decide) ?_
  refine lv_iload_n hx hb dX10_end_7 rfl (lv_at hl 1 rfl) ?_
  refine lv_imul hx hb dX10_end_8 ?_
  refine lv_topi (fun z1 ez1 => ?_)
  have h2 : Iv 0 21 z1 := iv_mull ez1 hp0 (k := 3) (by decide) (by decide) (by decide) (by decide) (by decide) (by decide)
  refine lv_iadd hx hb dX10_end_9 ?_
  refine lv_topi (fun z3 ez3 => ?_)
  have h4 : Iv 8 29 z3 := iv_add ez3 (iv_c (by decide) : Iv 8 8 8) h2 (by decide) (by decide) (by decide) (by decide)
  refine lv_iload_n hx hb dX10_end_10 rfl (lv_at hl 2 rfl) ?_
  refine lv_iadd hx hb dX10_end_11 ?_
  refine lv_topi (fun z5 ez5 => ?_)
  have h6 : Iv 8 31 z5 := iv_add ez5 h4 hp1 (by decide) (by decide) (by decide) (by decide)
  refine va_iald hx hb hK hP 1 0 mw_1 rfl (iv_in h6 (by decide) (by decide)) dX10_end_12 ?_
  refine lv_topi (fun z7 ez7 => ?_)
  rw [hQ]
  exact W.iret (v := z7) hx hb hr (fun t ht hW => ⟨z7, rfl, ⟨fun h9 => by rw [ez7]; exact tok_bd hw.1 (bd_e hp0 h9 (by have _c16 : (8 : Int32).toInt = 8 := rfl; have _c6 : (3 : Int32).toInt = 3 := rfl; have _ez1 := ti_mull ez1 hp0 (k := 3) (by decide) (by decide) (by decide) (by decide); have _ez3 := ti_add ez3 (iv_c (by decide) : Iv 8 8 8) h2 (by decide) (by decide); have _ez5 := ti_add ez5 h4 hp1 (by decide) (by decide); omega)), by rw [ez7]; unfold EN; rw [ez5, ez3, ez1]⟩, ht⟩) (fun _ h9 => by cases h9) dX10_end_13
set_option maxHeartbeats 4000000 in
set_option maxRecDepth 100000 in
theorem m_X10_milesOf (l : Launch) (D : va_G) (k : Nat → ClassId) (a : Nat → Nat) (st : CT) (sl : CL) (p0 : Int32) (sz : Nat) (hB : MB st) (hp0 : Iv 0 7 p0) (hw : WOK (st 1)) : Met l yX10_milesOf (.code yX10_milesOf cX10_milesOf 2 (some .int) :: TB) (rmk 1) (va_Pc [.ref (a 0), .int p0] (PW D k sz (MWS k a st sl))) (vp_Si (fun r => Iv 0 20 r ∧ (True))) 0 0 (fun _ => False) := by
  refine Met.ofW (cc := cX10_milesOf) (maxL := 2) (ret := (some .int)) (by decide) rfl ?_
  intro p e s m args below meth c s₁ B hml hv
  obtain ⟨rfl, hsz, hP, hK, hD0, hN⟩ := hv
  have hx := B.exec
  have hb := B.bytes
  have hr := B.returns
  have hT : ∀ w9 ∈ TB, w9.before ([.ref (a 0), .int p0] : List Value).toArray s = true := fun w9 h => atoms_spec (ws := .code yX10_milesOf cX10_milesOf 2 (some .int) :: TB) B.pre w9 (List.mem_cons_of_mem _ h)
  have hown : s.vm.findClass RX10 = some m.cls := findClass_of_methodNamed B.named
  have S : CallFix p m c cX10_milesOf 2 s _ TB RX10 := ⟨hx, hb, hml, hown, hT⟩
  subst hsz
  have hl := lv_entry ([.ref (a 0), .int p0]) (n := 2) (Nat.le_of_ble_eq_true rfl)
  rw [lg_entry_eq]
  generalize (lg_sl ([.ref (a 0), .int p0]) ++ List.replicate (2 - (lg_sl ([.ref (a 0), .int p0])).length) Slot.unset).toArray = ls at hl ⊢
  have hl : lv_has ls 2 [(0, .ref (a 0)), (1, .int p0)] := hl
  refine nameQ (fun Q hQ => ?_)
  refine lv_aload_n hx hb dX10_milesOf_0 rfl (lv_at hl 0 rfl) ?_
  refine va_get (D := D) (ci := 10) (v := .ref (a 1)) (C := RX10) (T := TX10) (N := 38) hx hb hT in_X10 hown hK hP 0 mw_0 rfl 1 (by decide) (hT _ t1263) (fun _ h9 => h9) rfl dX10_milesOf_1 ?_
  refine lv_bipush (v := 8) hx hb dX10_milesOf_4 (by decide) ?_
  refine lv_iconst (v := 3) hx hb dX10_milesOf_6 (by decide) ?_
  refine lv_iload_n hx hb dX10_milesOf_7 rfl (lv_at hl 1 rfl) ?_
  refine lv_imul hx hb dX10_milesOf_8 ?_
  refine lv_topi (fun z1 ez1 => ?_)
  have h2 : Iv 0 21 z1 := iv_mull ez1 hp0 (k := 3) (by decide) (by decide) (by decide) (by decide) (by decide) (by decide)
  refine lv_iadd hx hb dX10_milesOf_9 ?_
  refine lv_topi (fun z3 ez3 => ?_)
  have h4 : Iv 8 29 z3 := iv_add ez3 (iv_c (by decide) : Iv 8 8 8) h2 (by decide) (by decide) (by decide) (by decide)
  refine lv_iconst (v := 2) hx hb dX10_milesOf_10 (by decide) ?_
  refine lv_iadd hx hb dX10_milesOf_11 ?_
  refine lv_topi (fun z5 ez5 => ?_)
  have h6 : Iv 10 31 z5 := iv_add ez5 h4 (iv_c (by decide) : Iv 2 2 2) (by decide) (by decide) (by decide) (by decide)
  refine va_iald hx hb hK hP 1 0 mw_1 rfl (iv_in h6 (by decide) (by decide)) dX10_milesOf_12 ?_
  refine lv_topi (fun z7 ez7 => ?_)
  have h8 : Iv 0 20 z7 := (by rw [ez7]; exact tok_bd hw.1 (bd_m hp0 (by have _c16 : (8 : Int32).toInt = 8 := rfl; have _c6 : (3 : Int32).toInt = 3 := rfl; have _ez1 := ti_mull ez1 hp0 (k := 3) (by decide) (by decide) (by decide) (by decide); have _ez3 := ti_add ez3 (iv_c (by decide) : Iv 8 8 8) h2 (by decide) (by decide); have _c4 : (2 : Int32).toInt = 2 := rfl; have _ez5 := ti_add ez5 h4 (iv_c (by decide) : Iv 2 2 2) (by decide) (by decide); omega)))
  rw [hQ]
  exact W.iret (v := z7) hx hb hr (fun t ht hW => ⟨z7, rfl, ⟨h8, trivial⟩, ht⟩) (fun _ h9 => by cases h9) dX10_milesOf_13
set_option maxHeartbeats 4000000 in
set_option maxRecDepth 100000 in
theorem m_X10_isOf (l : Launch) (D : va_G) (k : Nat → ClassId) (a : Nat → Nat) (st : CT) (sl : CL) (p0 : Int32) (p1 : Int32) (sz : Nat) (hB : MB st) (hp0 : Iv 0 7 p0) (hw : WOK (st 1)) : Met l yX10_isOf (.code yX10_isOf cX10_isOf 3 (some .boolean) :: TB) (rmk 2) (va_Pc [.ref (a 0), .int p0, .int p1] (PW D k sz (MWS k a st sl))) (vp_Si (fun r => (r = 1 ∧ Iv 0 5 p1 ∧ (EN (st 1) p0 0 = p1 ∨ EN (st 1) p0 1 = p1)) ∨ (r = 0 ∧ (¬ (EN (st 1) p0 0 = p1 ∨ EN (st 1) p0 1 = p1))))) 0 0 (fun _ => False) := by
  refine Met.ofW (cc := cX10_isOf) (maxL := 3) (ret := (some .boolean)) (by decide) rfl ?_
  intro p e s m args below meth c s₁ B hml hv
  obtain ⟨rfl, hsz, hP, hK, hD0, hN⟩ := hv
  have hx := B.exec
  have hb := B.bytes
  have hr := B.returns
  have hT : ∀ w9 ∈ TB, w9.before ([.ref (a 0), .int p0, .int p1] : List Value).toArray s = true := fun w9 h => atoms_spec (ws := .code yX10_isOf cX10_isOf 3 (some .boolean) :: TB) B.pre w9 (List.mem_cons_of_mem _ h)
  have hown : s.vm.findClass RX10 = some m.cls := findClass_of_methodNamed B.named
  have S : CallFix p m c cX10_isOf 3 s _ TB RX10 := ⟨hx, hb, hml, hown, hT⟩
  subst hsz
  have hl := lv_entry ([.ref (a 0), .int p0, .int p1]) (n := 3) (Nat.le_of_ble_eq_true rfl)
  rw [lg_entry_eq]
  generalize (lg_sl ([.ref (a 0), .int p0, .int p1]) ++ List.replicate (3 - (lg_sl ([.ref (a 0), .int p0, .int p1])).length) Slot.unset).toArray = ls at hl ⊢
  have hl : lv_has ls 3 [(0, .ref (a 0)), (1, .int p0), (2, .int p1)] := hl
  refine nameQ (fun Q hQ => ?_)
  refine lv_aload_n hx hb dX10_isOf_0 rfl (lv_at hl 0 rfl) ?_
  refine lv_iload_n hx hb dX10_isOf_1 rfl (lv_at hl 1 rfl) ?_
  refine lv_iconst (v := 0) hx hb dX10_isOf_2 (by decide) ?_
  refine ro_V (As := [.int p0, .int 0]) (rest := []) S (m_X10_end l D k a st sl  p0 0 _  hB hp0 (iv_mono (c := 0) (d := 2) (iv_c (by decide) : Iv 0 0 0) (by decide) (by decide)) hw) lkX10_89 ok_X10_end ⟨rfl, rfl, Nat.le_of_ble_eq_true rfl, Nat.le_of_ble_eq_true rfl⟩ (pw_V (ci := 10) (q0 := 0) hK hN rfl mw_0 hP hD0) rfl hl.1 rfl (Nat.le_of_ble_eq_true rfl) ⟨Nat.zero_le _, Nat.zero_le _⟩ dX10_isOf_3 (fun r1 er1 => ?_)
  have k2 := er1
  have h3 : Iv 0 5 r1 := k2.1 (iv_mono (c := 0) (d := 1) (iv_c (by decide) : Iv 0 0 0) (by decide) (by decide))
  refine lv_iload_n hx hb dX10_isOf_6 rfl (lv_at hl 2 rfl) ?_
  refine lv_icmp_eq (tgt := 20) hx hb dX10_isOf_7 (by decide) (fun c4 => ?_) (fun c4 => ?_)
  · skip
    have h5 : Iv 0 5 p1 := eq_l c4.symm h3
    refine lv_iconst (v := 1) hx hb dX10_isOf_20 (by decide) ?_
    refine lv_goto (tgt := 25) hx hb dX10_isOf_21 (by decide) ?_
    rw [hQ]
    exact W.zret (v := 1) (ty := .boolean) hx hb hr rfl (fun t ht hW => ⟨1, rfl, Or.inl ⟨rfl, h5, (Or.inl ((k2.2).symm.trans c4))⟩, ht⟩) (fun _ h9 => by cases h9) dX10_isOf_25
  · skip
    refine lv_aload_n hx hb dX10_isOf_10 rfl (lv_at hl 0 rfl) ?_
    refine lv_iload_n hx hb dX10_isOf_11 rfl (lv_at hl 1 rfl) ?_
    refine lv_iconst (v := 1) hx hb dX10_isOf_12 (by decide) ?_
    refine ro_V (As := [.int p0, .int 1]) (rest := []) S (m_X10_end l D k a st sl  p0 1 _  hB hp0 (iv_mono (c := 0) (d := 2) (iv_c (by decide) : Iv 1 1 1) (by decide) (by decide)) hw) lkX10_89 ok_X10_end ⟨rfl, rfl, Nat.le_of_ble_eq_true rfl, Nat.le_of_ble_eq_true rfl⟩ (pw_V (ci := 10) (q0 := 0) hK hN rfl mw_0 hP hD0) rfl hl.1 rfl (Nat.le_of_ble_eq_true rfl) ⟨Nat.zero_le _, Nat.zero_le _⟩ dX10_isOf_13 (fun r6 er6 => ?_)
    have k7 := er6
    have h8 : Iv 0 5 r6 := k7.1 (iv_mono (c := 0) (d := 1) (iv_c (by decide) : Iv 1 1 1) (by decide) (by decide))
    refine lv_iload_n hx hb dX10_isOf_16 rfl (lv_at hl 2 rfl) ?_
    refine lv_icmp_ne (tgt := 24) hx hb dX10_isOf_17 (by decide) (fun c9 => ?_) (fun c9 => ?_)
    · skip
      refine lv_iconst (v := 0) hx hb dX10_isOf_24 (by decide) ?_
      rw [hQ]
      exact W.zret (v := 0) (ty := .boolean) hx hb hr rfl (fun t ht hW => ⟨0, rfl, Or.inr ⟨rfl, (fun z9 => z9.elim (fun q9 => c4 ((k2.2).trans q9)) (fun q9 => c9 ((k7.2).trans q9)))⟩, ht⟩) (fun _ h9 => by cases h9) dX10_isOf_25
    · skip
      have h10 : Iv 0 5 p1 := eq_l c9.symm h8
      refine lv_iconst (v := 1) hx hb dX10_isOf_20 (by decide) ?_
      refine lv_goto (tgt := 25) hx hb dX10_isOf_21 (by decide) ?_
      rw [hQ]
      exact W.zret (v := 1) (ty := .boolean) hx hb hr rfl (fun t ht hW => ⟨1, rfl, Or.inl ⟨rfl, h10, (Or.inr ((k7.2).symm.trans c9))⟩, ht⟩) (fun _ h9 => by cases h9) dX10_isOf_25
set_option maxHeartbeats 4000000 in
set_option maxRecDepth 100000 in
theorem m_X10_over (l : Launch) (D : va_G) (k : Nat → ClassId) (a : Nat → Nat) (st : CT) (sl : CL) (p0 : Int32) (p1 : Int32) (sz : Nat) (hB : MB st) (hp0 : Iv 0 7 p0) (hw : WOK (st 1)) : Met l yX10_over (.code yX10_over cX10_over 3 (some .int) :: TB) (rmk 2) (va_Pc [.ref (a 0), .int p0, .int p1] (PW D k sz (MWS k a st sl))) (vp_Si (fun r => Iv 0 5 r ∧ (True))) 0 0 (fun _ => False) := by
  refine Met.ofW (cc := cX10_over) (maxL := 3) (ret := (some .int)) (by decide) rfl ?_
  intro p e s m args below meth c s₁ B hml hv
  obtain ⟨rfl, hsz, hP, hK, hD0, hN⟩ := hv
  have hx := B.exec
  have hb := B.bytes
  have hr := B.returns
  have hT : ∀ w9 ∈ TB, w9.before ([.ref (a 0), .int p0, .int p1] : List Value).toArray s = true := fun w9 h => atoms_spec (ws := .code yX10_over cX10_over 3 (some .int) :: TB) B.pre w9 (List.mem_cons_of_mem _ h)
  have hown : s.vm.findClass RX10 = some m.cls := findClass_of_methodNamed B.named
  have S : CallFix p m c cX10_over 3 s _ TB RX10 := ⟨hx, hb, hml, hown, hT⟩
  subst hsz
  have hl := lv_entry ([.ref (a 0), .int p0, .int p1]) (n := 3) (Nat.le_of_ble_eq_true rfl)
  rw [lg_entry_eq]
  generalize (lg_sl ([.ref (a 0), .int p0, .int p1]) ++ List.replicate (3 - (lg_sl ([.ref (a 0), .int p0, .int p1])).length) Slot.unset).toArray = ls at hl ⊢
  have hl : lv_has ls 3 [(0, .ref (a 0)), (1, .int p0), (2, .int p1)] := hl
  refine nameQ (fun Q hQ => ?_)
  refine lv_aload_n hx hb dX10_over_0 rfl (lv_at hl 0 rfl) ?_
  refine lv_iload_n hx hb dX10_over_1 rfl (lv_at hl 1 rfl) ?_
  refine lv_iconst (v := 0) hx hb dX10_over_2 (by decide) ?_
  refine ro_V (As := [.int p0, .int 0]) (rest := []) S (m_X10_end l D k a st sl  p0 0 _  hB hp0 (iv_mono (c := 0) (d := 2) (iv_c (by decide) : Iv 0 0 0) (by decide) (by decide)) hw) lkX10_89 ok_X10_end ⟨rfl, rfl, Nat.le_of_ble_eq_true rfl, Nat.le_of_ble_eq_true rfl⟩ (pw_V (ci := 10) (q0 := 0) hK hN rfl mw_0 hP hD0) rfl hl.1 rfl (Nat.le_of_ble_eq_true rfl) ⟨Nat.zero_le _, Nat.zero_le _⟩ dX10_over_3 (fun r1 er1 => ?_)
  have k2 := er1
  have h3 : Iv 0 5 r1 := k2.1 (iv_mono (c := 0) (d := 1) (iv_c (by decide) : Iv 0 0 0) (by decide) (by decide))
  refine lv_iload_n hx hb dX10_over_6 rfl (lv_at hl 2 rfl) ?_
  refine lv_icmp_ne (tgt := 19) hx hb dX10_over_7 (by decide) (fun c4 => ?_) (fun c4 => ?_)
  · skip
    refine lv_aload_n hx hb dX10_over_19 rfl (lv_at hl 0 rfl) ?_
    refine lv_iload_n hx hb dX10_over_20 rfl (lv_at hl 1 rfl) ?_
    refine lv_iconst (v := 0) hx hb dX10_over_21 (by decide) ?_
    refine ro_V (As := [.int p0, .int 0]) (rest := []) S (m_X10_end l D k a st sl  p0 0 _  hB hp0 (iv_mono (c := 0) (d := 2) (iv_c (by decide) : Iv 0 0 0) (by decide) (by decide)) hw) lkX10_89 ok_X10_end ⟨rfl, rfl, Nat.le_of_ble_eq_true rfl, Nat.le_of_ble_eq_true rfl⟩ (pw_V (ci := 10) (q0 := 0) hK hN rfl mw_0 hP hD0) rfl hl.1 rfl (Nat.le_of_ble_eq_true rfl) ⟨Nat.zero_le _, Nat.zero_le _⟩ dX10_over_22 (fun r5 er5 => ?_)
    have k6 := er5
    have h7 : Iv 0 5 r5 := k6.1 (iv_mono (c := 0) (d := 1) (iv_c (by decide) : Iv 0 0 0) (by decide) (by decide))
    rw [hQ]
    exact W.iret (v := r5) hx hb hr (fun t ht hW => ⟨r5, rfl, ⟨h7, trivial⟩, ht⟩) (fun _ h9 => by cases h9) dX10_over_25
  · skip
    have h8 : Iv 0 5 p1 := eq_l c4.symm h3
    refine lv_aload_n hx hb dX10_over_10 rfl (lv_at hl 0 rfl) ?_
    refine lv_iload_n hx hb dX10_over_11 rfl (lv_at hl 1 rfl) ?_
    refine lv_iconst (v := 1) hx hb dX10_over_12 (by decide) ?_
    refine ro_V (As := [.int p0, .int 1]) (rest := []) S (m_X10_end l D k a st sl  p0 1 _  hB hp0 (iv_mono (c := 0) (d := 2) (iv_c (by decide) : Iv 1 1 1) (by decide) (by decide)) hw) lkX10_89 ok_X10_end ⟨rfl, rfl, Nat.le_of_ble_eq_true rfl, Nat.le_of_ble_eq_true rfl⟩ (pw_V (ci := 10) (q0 := 0) hK hN rfl mw_0 hP hD0) rfl hl.1 rfl (Nat.le_of_ble_eq_true rfl) ⟨Nat.zero_le _, Nat.zero_le _⟩ dX10_over_13 (fun r9 er9 => ?_)
    have k10 := er9
    have h11 : Iv 0 5 r9 := k10.1 (iv_mono (c := 0) (d := 1) (iv_c (by decide) : Iv 1 1 1) (by decide) (by decide))
    refine lv_goto (tgt := 25) hx hb dX10_over_16 (by decide) ?_
    rw [hQ]
    exact W.iret (v := r9) hx hb hr (fun t ht hW => ⟨r9, rfl, ⟨h11, trivial⟩, ht⟩) (fun _ h9 => by cases h9) dX10_over_25
set_option maxHeartbeats 4000000 in
set_option maxRecDepth 100000 in
theorem m_X10_roadsOf (l : Launch) (D : va_G) (k : Nat → ClassId) (a : Nat → Nat) (st : CT) (sl : CL) (p0 : Int32) (sz : Nat) (hB : MB st)  (hw : WOK (st 1)) : Met l yX10_roadsOf (.code yX10_roadsOf cX10_roadsOf 4 (some .int) :: TB) (rmk 3) (va_Pc [.ref (a 0), .int p0] (PW D k sz (MWS k a st sl))) (vp_Si (fun r => Iv 0 255 r ∧ (r = RO (st 1) p0 (st 1 2).toNatClampNeg))) 0 0 (fun _ => False) := by
  refine Met.ofW (cc := cX10_roadsOf) (maxL := 4) (ret := (some .int)) (by decide) rfl ?_
  intro p e s m args below meth c s₁ B hml hv
  obtain ⟨rfl, hsz, hP, hK, hD0, hN⟩ := hv
  have hx := B.exec
  have hb := B.bytes
  have hr := B.returns
  have hT : ∀ w9 ∈ TB, w9.before ([.ref (a 0), .int p0] : List Value).toArray s = true := fun w9 h => atoms_spec (ws := .code yX10_roadsOf cX10_roadsOf 4 (some .int) :: TB) B.pre w9 (List.mem_cons_of_mem _ h)
  have hown : s.vm.findClass RX10 = some m.cls := findClass_of_methodNamed B.named
  have S : CallFix p m c cX10_roadsOf 4 s _ TB RX10 := ⟨hx, hb, hml, hown, hT⟩
  subst hsz
  have hl := lv_entry ([.ref (a 0), .int p0]) (n := 4) (Nat.le_of_ble_eq_true rfl)
  rw [lg_entry_eq]
  generalize (lg_sl ([.ref (a 0), .int p0]) ++ List.replicate (4 - (lg_sl ([.ref (a 0), .int p0])).length) Slot.unset).toArray = ls at hl ⊢
  have hl : lv_has ls 4 [(0, .ref (a 0)), (1, .int p0)] := hl
  refine nameQ (fun Q hQ => ?_)
  refine lv_iconst (v := 0) hx hb dX10_roadsOf_0 (by decide) ?_
  refine lv_istore_n (lv' := [(2, .int 0), (0, .ref (a 0)), (1, .int p0)]) hx hb dX10_roadsOf_1 rfl hl (by decide) rfl (fun ls hl => ?_)
  refine lv_iconst (v := 0) hx hb dX10_roadsOf_2 (by decide) ?_
  refine lv_istore_n (lv' := [(3, .int 0), (2, .int 0), (0, .ref (a 0)), (1, .int p0)]) hx hb dX10_roadsOf_3 rfl hl (by decide) rfl (fun ls hl => ?_)
  have lp4 : ∀ (n9_4 : Nat) (v3_4 : Int32) (v2_4 : Int32) (ls : Array Slot), Iv 0 8 v3_4 → Iv 0 255 v2_4 → (v2_4 = RO (st 1) p0 v3_4.toNatClampNeg) → (v3_4.toInt ≤ (st 1 2).toInt) → lv_has ls 4 [(3, .int v3_4), (2, .int v2_4), (0, .ref (a 0)), (1, .int p0)] → (8 : Int) - v3_4.toInt < (n9_4 : Int) → W p l e (rmk 3) s m ([.ref (a 0), .int p0] : List Value).toArray below meth c s.heap [] 0 0 Q (F0 m 4 ls []) := by
    clear hl
    intro n9_4
    induction n9_4 with
    | zero =>
      intro v3_4 v2_4 ls iv3_4 iv2_4 rel4_0 rel4_1 hl hm4
      exact (fu_0 iv3_4 hm4).elim
    | succ n9_4 ih4 =>
      intro v3_4 v2_4 ls iv3_4 iv2_4 rel4_0 rel4_1 hl hm4
      refine lv_iload_n hx hb dX10_roadsOf_4 rfl (lv_at hl 0 rfl) ?_
      refine lv_aload_n hx hb dX10_roadsOf_5 rfl (lv_at hl 2 rfl) ?_
      refine va_get (D := D) (ci := 10) (v := .ref (a 1)) (C := RX10) (T := TX10) (N := 38) hx hb hT in_X10 hown hK hP 0 mw_0 rfl 1 (by decide) (hT _ t1263) (fun _ h9 => h9) rfl dX10_roadsOf_6 ?_
      refine lv_iconst (v := 2) hx hb dX10_roadsOf_9 (by decide) ?_
      refine va_iald hx hb hK hP 1 0 mw_1 rfl (by unfold vp_in; decide) dX10_roadsOf_10 ?_
      refine k_top (y := (st 1 2)) rfl ?_
      have h217 : Iv 0 8 (st 1 2) := (tok_at (hw).1 2 0 8 (by decide) (by decide) (by decide))
      refine lv_icmp_ge (tgt := 39) hx hb dX10_roadsOf_11 (by decide) (fun c218 => ?_) (fun c218 => ?_)
      · skip
        have n219 : (st 1 2).toInt ≤ v3_4.toInt := (i_le c218)
        refine lv_iload_n hx hb dX10_roadsOf_39 rfl (lv_at hl 1 rfl) ?_
        rw [hQ]
        exact W.iret (v := v2_4) hx hb hr (fun t ht hW => ⟨v2_4, rfl, ⟨iv2_4, (by rw [rel4_0, show v3_4 = st 1 2 from Int32.toInt_inj.mp (by have y1 := n219; have y2 := rel4_1; omega)])⟩, ht⟩) (fun _ h9 => by cases h9) dX10_roadsOf_40
      · skip
        have n220 : v3_4.toInt < (st 1 2).toInt := (i_nle c218)
        have h221 : Iv 0 7 v3_4 := lt_l iv3_4 n220 h217 (by decide)
        have h222 : Iv 1 8 (st 1 2) := lt_r iv3_4 n220 h217 (by decide)
        refine lv_iload_n hx hb dX10_roadsOf_14 rfl (lv_at hl 1 rfl) ?_
        refine lv_aload_n hx hb dX10_roadsOf_15 rfl (lv_at hl 2 rfl) ?_
        refine lv_iload_n hx hb dX10_roadsOf_16 rfl (lv_at hl 0 rfl) ?_
        refine lv_iload_n hx hb dX10_roadsOf_17 rfl (lv_at hl 3 rfl) ?_
        refine ro_V (As := [.int v3_4, .int p0]) (rest := [.int v2_4]) S (m_X10_isOf l D k a st sl  v3_4 p0 _  hB h221 hw) lkX10_93 ok_X10_isOf ⟨rfl, rfl, Nat.le_of_ble_eq_true rfl, Nat.le_of_ble_eq_true rfl⟩ (pw_V (ci := 10) (q0 := 0) hK hN rfl mw_0 hP hD0) rfl hl.1 rfl (Nat.le_of_ble_eq_true rfl) ⟨Nat.zero_le _, Nat.zero_le _⟩ dX10_roadsOf_18 (fun r223 er223 => ?_)
        rcases er223 with ⟨rfl, g9⟩ | ⟨rfl, g9⟩
        · skip
          have g224 := g9
          have h225 : Iv 0 5 p0 := g224.1
          have k226 := g224.2
          refine lv_if_eq (tgt := 30) hx hb dX10_roadsOf_21 (by decide) (fun c227 => ?_) (fun c227 => ?_)
          · first | exact absurd c227 (by decide) | exact absurd (by decide) c227
          refine lv_iconst (v := 1) hx hb dX10_roadsOf_24 (by decide) ?_
          refine lv_iload_n hx hb dX10_roadsOf_25 rfl (lv_at hl 0 rfl) ?_
          refine lv_ishl hx hb dX10_roadsOf_26 ?_
          refine lv_topi (fun z228 ez228 => ?_)
          have h229 : Iv 1 128 z228 := iv_shl 7 ez228 h221 (by decide) (by decide) (by decide)
          refine lv_goto (tgt := 31) hx hb dX10_roadsOf_27 (by decide) ?_
          refine lv_ior hx hb dX10_roadsOf_31 ?_
          refine lv_topi (fun z230 ez230 => ?_)
          have h231 : Iv 0 255 z230 := iv_or 8 ez230 iv2_4 (iv_mono (c := 0) (d := 128) h229 (by decide) (by decide)) (by decide) (by decide) (by decide) (by decide)
          refine lv_istore_n (lv' := [(2, .int z230), (3, .int v3_4), (0, .ref (a 0)), (1, .int p0)]) hx hb dX10_roadsOf_32 rfl hl (by decide) rfl (fun ls hl => ?_)
          obtain ⟨z232, ez232⟩ : ∃ z9 : Int32, z9 = v3_4 + Int32.ofInt 1 := ⟨_, rfl⟩
          have h233 : Iv 1 8 z232 := iv_inc ez232 h221 (by decide) (by decide) (by decide) (by decide) (by decide) (by decide)
          refine lv_iinc (v := z232) (lv' := [(3, .int z232), (2, .int z230), (0, .ref (a 0)), (1, .int p0)]) hx hb dX10_roadsOf_33 hl (k := 1) rfl ez232.symm (by decide) rfl (fun ls hl => ?_)
          refine lv_goto (tgt := 4) hx hb dX10_roadsOf_36 (by decide) ?_
          exact ih4 z232 z230 _ (iv_mono (c := 0) (d := 8) h233 (by decide) (by decide)) h231 (ro_y rel4_0 h221 (ti_inc ez232 h221 (by decide) (by decide) (by decide) (by decide)) k226 ez228 ez230) (by have y1 := ti_inc ez232 h221 (by decide) (by decide) (by decide) (by decide); have y2 := n220; omega) (lv_sub hl [0, 1, 2, 3] rfl) (fu_s (lo := 0) (ti_inc ez232 h221 (by decide) (by decide) (by decide) (by decide)) (by decide) hm4)
        · skip
          have g234 := g9
          have k235 := g234
          refine lv_if_eq (tgt := 30) hx hb dX10_roadsOf_21 (by decide) (fun c236 => ?_) (fun c236 => ?_)
          rotate_left
          · first | exact absurd c236 (by decide) | exact absurd (by decide) c236
          refine lv_iconst (v := 0) hx hb dX10_roadsOf_30 (by decide) ?_
          refine lv_ior hx hb dX10_roadsOf_31 ?_
          refine lv_topi (fun z237 ez237 => ?_)
          have h238 : Iv 0 255 z237 := iv_or 8 ez237 iv2_4 (iv_c (by decide) : Iv 0 0 0) (by decide) (by decide) (by decide) (by decide)
          refine lv_istore_n (lv' := [(2, .int z237), (3, .int v3_4), (0, .ref (a 0)), (1, .int p0)]) hx hb dX10_roadsOf_32 rfl hl (by decide) rfl (fun ls hl => ?_)
          obtain ⟨z239, ez239⟩ : ∃ z9 : Int32, z9 = v3_4 + Int32.ofInt 1 := ⟨_, rfl⟩
          have h240 : Iv 1 8 z239 := iv_inc ez239 h221 (by decide) (by decide) (by decide) (by decide) (by decide) (by decide)
          refine lv_iinc (v := z239) (lv' := [(3, .int z239), (2, .int z237), (0, .ref (a 0)), (1, .int p0)]) hx hb dX10_roadsOf_33 hl (k := 1) rfl ez239.symm (by decide) rfl (fun ls hl => ?_)
          refine lv_goto (tgt := 4) hx hb dX10_roadsOf_36 (by decide) ?_
          exact ih4 z239 z237 _ (iv_mono (c := 0) (d := 8) h240 (by decide) (by decide)) h238 (ro_n rel4_0 h221 (ti_inc ez239 h221 (by decide) (by decide) (by decide) (by decide)) k235 ez237) (by have y1 := ti_inc ez239 h221 (by decide) (by decide) (by decide) (by decide); have y2 := n220; omega) (lv_sub hl [0, 1, 2, 3] rfl) (fu_s (lo := 0) (ti_inc ez239 h221 (by decide) (by decide) (by decide) (by decide)) (by decide) hm4)
  exact lp4 9 0 0 _ (iv_mono (c := 0) (d := 8) (iv_c (by decide) : Iv 0 0 0) (by decide) (by decide)) (iv_mono (c := 0) (d := 255) (iv_c (by decide) : Iv 0 0 0) (by decide) (by decide)) rfl (tok_at hw.1 2 0 8 (by decide) (by decide) (by decide)).1 (lv_sub hl [0, 1, 2, 3] rfl) (fu_i (iv_mono (c := 0) (d := 8) (iv_c (by decide) : Iv 0 0 0) (by decide) (by decide)) (by decide))
