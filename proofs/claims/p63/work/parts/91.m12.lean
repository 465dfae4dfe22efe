def bt (x : Int32) (i : Nat) : Bool := x.toBitVec.getLsbD i
theorem b_ext {x y : Int32} (h : ∀ i, i < 32 → bt x i = bt y i) : x = y := Int32.toBitVec_inj.mp (BitVec.eq_of_getLsbD_eq (fun i hi => h i hi))
theorem b_or (x y : Int32) (i : Nat) : bt (x ||| y) i = (bt x i || bt y i) := by unfold bt; rw [Int32.toBitVec_or, BitVec.getLsbD_or]
theorem b_and (x y : Int32) (i : Nat) : bt (x &&& y) i = (bt x i && bt y i) := by unfold bt; rw [Int32.toBitVec_and, BitVec.getLsbD_and]
theorem b_xor (x y : Int32) (i : Nat) : bt (x ^^^ y) i = (bt x i ^^ bt y i) := by unfold bt; rw [Int32.toBitVec_xor, BitVec.getLsbD_xor]
theorem b_big {x : Int32} {i : Nat} (h : 32 ≤ i) : bt x i = false := BitVec.getLsbD_of_ge _ _ h
theorem b_255 (i : Nat) : bt 255 i = decide (i < 8) := by
  rcases Nat.lt_or_ge i 32 with h | h
  · exact (by decide +kernel : ∀ i, i < 32 → bt 255 i = decide (i < 8)) i h
  · rw [b_big h, decide_eq_false (by omega)]
theorem b_65535 (i : Nat) : bt 65535 i = decide (i < 16) := by
  rcases Nat.lt_or_ge i 32 with h | h
  · exact (by decide +kernel : ∀ i, i < 32 → bt 65535 i = decide (i < 16)) i h
  · rw [b_big h, decide_eq_false (by omega)]
theorem b_m1 : ∀ i, i < 32 → bt (-1) i = true := by decide +kernel
theorem b_0 (i : Nat) : bt 0 i = false := BitVec.getLsbD_zero
theorem s_l : ∀ n, n < 32 → ((nI n &&& 31).toBitVec.smod 32).toNat = n := by decide +kernel
theorem s_u : ∀ n, n < 32 → (((nI n).toUInt32 &&& Int32.toUInt32 31).toBitVec % 32).toNat = n := by decide +kernel
theorem b_shl (n : Nat) (hn : n < 32) (x : Int32) {i : Nat} (hi : i < 32) : bt (x <<< (nI n &&& 31)) i = (decide (n ≤ i) && bt x (i - n)) := by
  unfold bt
  rw [Int32.toBitVec_shiftLeft]
  show (x.toBitVec <<< ((nI n &&& 31).toBitVec.smod 32).toNat).getLsbD i = _
  rw [s_l n hn, BitVec.getLsbD_shiftLeft]
  rcases Nat.lt_or_ge i n with h | h
  · simp [h, Nat.not_le.mpr h]
  · simp [hi, h, Nat.not_lt.mpr h]
theorem b_ushr (n : Nat) (hn : n < 32) (x : Int32) (i : Nat) : bt ((x.toUInt32 >>> ((nI n).toUInt32 &&& Int32.toUInt32 31)).toInt32) i = bt x (n + i) := by
  show (x.toUInt32 >>> ((nI n).toUInt32 &&& Int32.toUInt32 31)).toBitVec.getLsbD i = x.toUInt32.toBitVec.getLsbD (n + i)
  rw [UInt32.toBitVec_shiftRight]
  show (x.toUInt32.toBitVec >>> (((nI n).toUInt32 &&& Int32.toUInt32 31).toBitVec % 32).toNat).getLsbD i = _
  rw [s_u n hn, BitVec.getLsbD_ushiftRight]
theorem b_sshr (n : Nat) (hn : n < 32) (x : Int32) {i : Nat} (hi : i < 32) : bt (x >>> (nI n &&& 31)) i = if n + i < 32 then bt x (n + i) else bt x 31 := by
  unfold bt
  rw [Int32.toBitVec_shiftRight]
  show (x.toBitVec.sshiftRight ((nI n &&& 31).toBitVec.smod 32).toNat).getLsbD i = _
  rw [s_l n hn, BitVec.getLsbD_sshiftRight, BitVec.msb_eq_getLsbD_last]
  simp [hi]
def fb_ct (p : Nat → Bool) : Nat → Nat
  | 0 => 0
  | n + 1 => fb_ct p n + (if p n then 1 else 0)
theorem fb_ct_succ (p : Nat → Bool) (n : Nat) : fb_ct p (n + 1) = fb_ct p n + (if p n then 1 else 0) := rfl
theorem fb_ct_le (p : Nat → Bool) : ∀ n, fb_ct p n ≤ n
  | 0 => Nat.le_refl _
  | n + 1 => by
    have h := fb_ct_le p n
    rw [fb_ct_succ]
    split <;> omega
theorem fb_ct_step (p : Nat → Bool) (m : Nat) : ∀ n, fb_ct p m ≤ fb_ct p (m + n)
  | 0 => Nat.le_refl _
  | n + 1 => by
    have h := fb_ct_step p m n
    show fb_ct p m ≤ fb_ct p (m + n + 1)
    rw [fb_ct_succ]
    omega
theorem fb_ct_mono (p : Nat → Bool) {m n : Nat} (h : m ≤ n) : fb_ct p m ≤ fb_ct p n := by
  have := fb_ct_step p m (n - m)
  rwa [Nat.add_sub_cancel' h] at this
theorem fb_ct_cong {p q : Nat → Bool} : ∀ {n : Nat}, (∀ k, k < n → p k = q k) → fb_ct p n = fb_ct q n
  | 0, _ => rfl
  | n + 1, h => by
    rw [fb_ct_succ, fb_ct_succ, fb_ct_cong (fun k hk => h k (by omega)), h n (by omega)]
/-- one place changed -/
theorem fb_ct_out (p : Nat → Bool) (b : Bool) {i n : Nat} (h : n ≤ i) : fb_ct (fun k => if k = i then b else p k) n = fb_ct p n :=
  fb_ct_cong fun k hk => if_neg (by omega)
theorem fb_ct_upd (p : Nat → Bool) (b : Bool) {i : Nat} : ∀ {n : Nat}, i < n → fb_ct (fun k => if k = i then b else p k) n + (if p i then 1 else 0) = fb_ct p n + (if b then 1 else 0)
  | 0, h => absurd h (Nat.not_lt_zero i)
  | n + 1, h => by
    rw [fb_ct_succ, fb_ct_succ]
    rcases Nat.lt_or_ge i n with q | q
    · have := fb_ct_upd p b q
      have e : (if n = i then b else p n) = p n := if_neg (by omega)
      rw [e]
      omega
    · have e : i = n := by omega
      subst e
      rw [fb_ct_out p b (Nat.le_refl _)]
      simp only [if_true]
      omega
theorem fb_ct_zero {p : Nat → Bool} : ∀ {n : Nat}, fb_ct p n = 0 ↔ ∀ k, k < n → p k = false
  | 0 => ⟨fun _ k hk => absurd hk (Nat.not_lt_zero k), fun _ => rfl⟩
  | n + 1 => by
    have h := fb_ct_zero (p := p) (n := n)
    rw [fb_ct_succ]
    constructor
    · intro e k hk
      have e1 : fb_ct p n = 0 := by omega
      rcases Nat.lt_or_ge k n with q | q
      · exact h.mp e1 k q
      · have ek : k = n := by omega
        subst ek
        cases hp : p k
        · rfl
        · simp [hp] at e
    · intro a
      rw [h.mpr (fun k hk => a k (by omega)), a n (by omega)]
      rfl
theorem fb_ct_pos {p : Nat → Bool} {n : Nat} : 0 < fb_ct p n ↔ ∃ k, k < n ∧ p k = true := by
  constructor
  · intro h
    refine Classical.byContradiction fun hx => ?_
    have := fb_ct_zero.mpr (fun k hk => by
      cases hp : p k
      · rfl
      · exact absurd ⟨k, hk, hp⟩ hx : ∀ k, k < n → p k = false)
    omega
  · rintro ⟨k, hk, hp⟩
    rcases Nat.eq_zero_or_pos (fb_ct p n) with e | e
    · have := fb_ct_zero.mp e k hk
      rw [this] at hp
      cases hp
    · exact e
def CN (x : Int32) : Nat := fb_ct (fun i => bt x i) 32
theorem cn_le (x : Int32) : CN x ≤ 32 := fb_ct_le _ 32
theorem s31 : ∀ n, n < 32 → nI n &&& 31 = nI n := by decide +kernel
theorem b_one : ∀ i, i < 32 → bt 1 i = decide (i = 0) := by decide +kernel
theorem sh_nat (k : Int32) : ∃ m : Nat, m < 32 ∧ k &&& 31 = nI m &&& 31 := by
  have h : Iv 0 31 (k &&& 31) := iv_andr rfl ⟨by decide, by decide⟩
  obtain ⟨n, e, h1, h2, h3⟩ := iv_of h
  exact ⟨n, by omega, by rw [e]; exact (s31 n (by omega)).symm⟩
theorem b_pow {m i : Nat} (hm : m < 32) (hi : i < 32) : bt ((1 : Int32) <<< (nI m &&& 31)) i = decide (i = m) := by
  rw [b_shl m hm 1 hi]
  by_cases q : m ≤ i
  · rw [b_one (i - m) (by omega)]
    by_cases e : i = m
    · subst e; simp
    · simp [q, e]; omega
  · have e : ¬ i = m := by omega
    simp [q, e]
theorem cn_one (k : Int32) : 1 ≤ CN ((1 : Int32) <<< (k &&& 31)) := by
  obtain ⟨m, hm, e⟩ := sh_nat k
  rw [e]
  exact fb_ct_pos.mpr ⟨m, hm, by rw [b_pow hm hm]; simp⟩
theorem cn_step {x k z1 z2 r : Int32} (hr : r = (x >>> (k &&& 31)) &&& 1) (h0 : r = 0) (e1 : z1 = (1 : Int32) <<< (k &&& 31)) (e2 : z2 = x ||| z1) : CN z2 = CN x + 1 := by
  obtain ⟨m, hm, e⟩ := sh_nat k
  rw [e] at hr e1
  have hb : bt x m = false := by
    have q : bt ((x >>> (nI m &&& 31)) &&& 1) 0 = false := by rw [← hr, h0]; exact b_0 0
    rw [b_and, b_sshr m hm x (by decide), if_pos (by omega), b_one 0 (by decide)] at q
    simpa using q
  have hc : CN z2 = fb_ct (fun i => if i = m then true else bt x i) 32 := by
    unfold CN
    refine fb_ct_cong (fun i hi => ?_)
    rw [e2, e1, b_or, b_pow hm hi]
    by_cases q : i = m
    · simp [q]
    · simp [q]
  have hu := fb_ct_upd (fun i => bt x i) true (i := m) (n := 32) hm
  rw [hc]
  unfold CN
  simp only [hb] at hu
  simpa using hu
set_option maxHeartbeats 4000000 in
set_option maxRecDepth 100000 in
theorem m_X10_goRoam (l : Launch) (D : va_G) (k : Nat → ClassId) (a : Nat → Nat) (st : CT) (sl : CL) (p0 : Int32) (sz : Nat) (hB : MB st) (hp0 : Iv 0 2 p0) (hw : WOK (st 1)) : Met l yX10_goRoam (.code yX10_goRoam cX10_goRoam 3 none :: TB) (rmw 8 0 0) (va_Pc [.ref (a 0), .int p0] (PW D k sz (MWS k a st sl))) (QV D (S := CT) (fun u => MB u ∧ FR [7, 9, 8, 10, 11, 16] st u ∧ (True)) (fun u => MWS k a u sl) (fun _ => []) (MWS k a st sl) sz) 0 0 (va_A (MWS k a st sl) sz) := by
  refine Met.ofW (cc := cX10_goRoam) (maxL := 3) (ret := none) (by decide) rfl ?_
  intro p e s m args below meth c s₁ B hml hv
  obtain ⟨rfl, hsz, hP, hK, hD0, hN⟩ := hv
  have hx := B.exec
  have hb := B.bytes
  have hr := B.returns
  have hT : ∀ w9 ∈ TB, w9.before ([.ref (a 0), .int p0] : List Value).toArray s = true := fun w9 h => atoms_spec (ws := .code yX10_goRoam cX10_goRoam 3 none :: TB) B.pre w9 (List.mem_cons_of_mem _ h)
  have hown : s.vm.findClass RX10 = some m.cls := findClass_of_methodNamed B.named
  have S : CallFix p m c cX10_goRoam 3 s _ TB RX10 := ⟨hx, hb, hml, hown, hT⟩
  subst hsz
  have hD := hD0.self (sz := s.heap.size)
  generalize hAe : va_A (MWS k a st sl) s.heap.size = A at hD ⊢
  have hA : ∀ q : Nat, s.heap.size ≤ q → A q := fun q h => by rw [← hAe]; exact Or.inr h
  have hS : va_S A s.heap s.heap [] := va_S.rf
  have hl := lv_entry ([.ref (a 0), .int p0]) (n := 3) (Nat.le_of_ble_eq_true rfl)
  rw [lg_entry_eq]
  generalize (lg_sl ([.ref (a 0), .int p0]) ++ List.replicate (3 - (lg_sl ([.ref (a 0), .int p0])).length) Slot.unset).toArray = ls at hl ⊢
  have hl : lv_has ls 3 [(0, .ref (a 0)), (1, .int p0)] := hl
  refine nameQ (fun Q hQ => ?_)
  refine lv_aload_n hx hb dX10_goRoam_0 rfl (lv_at hl 0 rfl) ?_
  refine ca_v hP hD hS hA (fun hDc => run_V (mc := 0) (ms := 0) (As := []) (rest := []) S (m_X10_asItIs l D k a st sl   _  hB  hw) lkX10_273 ok_X10_asItIs ⟨rfl, rfl, Nat.le_of_ble_eq_true rfl, Nat.le_of_ble_eq_true rfl⟩ (pw_V (ci := 10) (q0 := 0) hK hN rfl mw_0 hP hDc) rfl hl.1 rfl (Nat.le_of_ble_eq_true rfl) ⟨Nat.zero_le _, Nat.zero_le _⟩ dX10_goRoam_1) (fun s1 H9 locs9 hs1 hP9 hD9 hS9 => ?_)
  clear hP hD hS
  have hS := hS9
  have hP := hP9
  have hD := hD9
  clear hP9 hD9 hS9
  obtain ⟨hBs1, gs1, fs1⟩ := hs1
  have hFs1 : FR [7, 9, 8, 10, 11, 16] st s1 := fr_ca fr_rf gs1 (sub_1 (List.mem_of_getElem? (i := 0) rfl) (sub_1 (List.mem_of_getElem? (i := 1) rfl) (sub_1 (List.mem_of_getElem? (i := 2) rfl) (sub_1 (List.mem_of_getElem? (i := 3) rfl) (sub_1 (List.mem_of_getElem? (i := 4) rfl) sub_0)))))
  refine lv_aload_n hx hb dX10_goRoam_4 rfl (lv_at hl 0 rfl) ?_
  refine va_get (D := D) (ci := 10) (v := .ref (a 16)) (C := RX10) (T := TX10) (N := 38) hx hb hT in_X10 hown hK hP 0 mw_0 rfl 30 (by decide) (hT _ t1292) (fun _ h9 => h9) rfl dX10_goRoam_5 ?_
  refine lv_iconst (v := 0) hx hb dX10_goRoam_8 (by decide) ?_
  refine lv_aload_n hx hb dX10_goRoam_9 rfl (lv_at hl 0 rfl) ?_
  refine va_get (D := D) (ci := 10) (v := .ref (a 10)) (C := RX10) (T := TX10) (N := 38) hx hb hT in_X10 hown hK hP 0 mw_0 rfl 18 (by decide) (hT _ t1280) (fun _ h9 => h9) rfl dX10_goRoam_10 ?_
  refine lv_iload_n hx hb dX10_goRoam_13 rfl (lv_at hl 1 rfl) ?_
  refine va_iald hx hb hK hP 10 0 mw_10 rfl (iv_in hp0 (by decide) (by decide)) dX10_goRoam_14 ?_
  refine lv_topi (fun z3 ez3 => ?_)
  refine c_ist hx hb hK hP hD hS mw_16 ms_16 (by unfold vp_in; decide) dX10_goRoam_15 (fun s4 H9 locs9 es4 hP9 hD9 hS9 => ?_)
  clear hP hD hS
  have hS := hS9
  have hP := hP9
  have hD := hD9
  clear hP9 hD9 hS9
  have hBs4 : MB s4 := by rw [es4]; exact mb_sw hBs1 trivial
  have hFs4 : FR [7, 9, 8, 10, 11, 16] st s4 := fr_sw hFs1 (List.mem_of_getElem? (i := 5) rfl) es4
  refine lv_iconst (v := 1) hx hb dX10_goRoam_16 (by decide) ?_
  refine lv_istore_n (lv' := [(2, .int 1), (0, .ref (a 0)), (1, .int p0)]) hx hb dX10_goRoam_17 rfl hl (by decide) rfl (fun ls hl => ?_)
  have lp18 : ∀ (n9_18 : Nat) (v2_18 : Int32) (t18 : CT) (H9 : Heap) (locs9 : List Loc) (ls : Array Slot), Iv 1 41 v2_18 → MB t18 → FR [8, 7, 10, 11, 16] s4 t18 → va_P D vwCl (MWS k a t18 sl) H9 → va_D A (MWS k a t18 sl) → va_S A s.heap H9 locs9 → lv_has ls 3 [(2, .int v2_18), (0, .ref (a 0)), (1, .int p0)] → (41 : Int) - v2_18.toInt < (n9_18 : Int) → W p l e (rmw 8 0 0) s m ([.ref (a 0), .int p0] : List Value).toArray below meth c H9 locs9 0 0 Q (F0 m 18 ls []) := by
    clear hl hP hD hS
    intro n9_18
    induction n9_18 with
    | zero =>
      intro v2_18 t18 H9 locs9 ls iv2_18 hBt18 gt18 hP hD hS hl hm18
      exact (fu_0 iv2_18 hm18).elim
    | succ n9_18 ih18 =>
      intro v2_18 t18 H9 locs9 ls iv2_18 hBt18 gt18 hP hD hS hl hm18
      have hFt18 : FR [7, 9, 8, 10, 11, 16] st t18 := fr_ca hFs4 gt18 (sub_1 (List.mem_of_getElem? (i := 2) rfl) (sub_1 (List.mem_of_getElem? (i := 0) rfl) (sub_1 (List.mem_of_getElem? (i := 3) rfl) (sub_1 (List.mem_of_getElem? (i := 4) rfl) (sub_1 (List.mem_of_getElem? (i := 5) rfl) sub_0)))))
      refine lv_iload_n hx hb dX10_goRoam_18 rfl (lv_at hl 0 rfl) ?_
      refine lv_bipush (v := 40) hx hb dX10_goRoam_19 (by decide) ?_
      refine lv_icmp_gt (tgt := 49) hx hb dX10_goRoam_21 (by decide) (fun c177 => ?_) (fun c177 => ?_)
      · skip
        have n178 : (40 : Int32).toInt < v2_18.toInt := (i_lt c177)
        have h179 : Iv 41 41 v2_18 := lt_r (iv_c (by decide) : Iv 40 40 40) n178 iv2_18 (by decide)
        rw [hQ]
        exact W.vret hx hb hr (fun t ht hW => ⟨⟨t18, rfl, ⟨hBt18, hFt18, trivial⟩, by rw [ht]; exact hP, va_K.moved hW.alike (hK.sub (tys' := []) [] rfl), by rw [hAe]; exact hD⟩, by rw [hAe]; exact hS.F ht⟩) hS.2.2 dX10_goRoam_49
      · skip
        have n180 : v2_18.toInt ≤ (40 : Int32).toInt := (i_nlt c177)
        have h181 : Iv 1 40 v2_18 := le_l iv2_18 n180 (iv_c (by decide) : Iv 40 40 40) (by decide)
        refine lv_aload_n hx hb dX10_goRoam_24 rfl (lv_at hl 1 rfl) ?_
        refine lv_iload_n hx hb dX10_goRoam_25 rfl (lv_at hl 2 rfl) ?_
        refine lv_iconst (v := (-1)) hx hb dX10_goRoam_26 (by decide) ?_
        refine ca_i hP hD hS hA (fun hDc => run_V (mc := 0) (ms := 0) (As := [.int p0, .int (-1)]) (rest := []) S (m_X10_driveBy l D k a t18 sl  p0 (-1) _  hBt18 hp0 (wok_of (hFt18 1 (nm_1 (by decide) (nm_1 (by decide) (nm_1 (by decide) (nm_1 (by decide) (nm_1 (by decide) (nm_1 (by decide) nm_0))))))) hw)) lkX10_233 ok_X10_driveBy ⟨rfl, rfl, Nat.le_of_ble_eq_true rfl, Nat.le_of_ble_eq_true rfl⟩ (pw_V (ci := 10) (q0 := 0) hK hN rfl mw_0 hP hDc) rfl hl.1 rfl (Nat.le_of_ble_eq_true rfl) ⟨Nat.zero_le _, Nat.zero_le _⟩ dX10_goRoam_27) (fun r183 s182 H9 locs9 hs182 hP9 hD9 hS9 => ?_)
        clear hP hD hS
        have hS := hS9
        have hP := hP9
        have hD := hD9
        clear hP9 hD9 hS9
        obtain ⟨hBs182, gs182, fs182⟩ := hs182
        have hFs182 : FR [7, 9, 8, 10, 11, 16] st s182 := fr_ca hFt18 gs182 (sub_1 (List.mem_of_getElem? (i := 2) rfl) (sub_1 (List.mem_of_getElem? (i := 0) rfl) (sub_1 (List.mem_of_getElem? (i := 3) rfl) (sub_1 (List.mem_of_getElem? (i := 4) rfl) sub_0))))
        have h184 : Iv (-1) 7 r183 := fs182.1
        refine lv_pop hx hb dX10_goRoam_30 rfl ?_
        refine lv_aload_n hx hb dX10_goRoam_31 rfl (lv_at hl 1 rfl) ?_
        refine va_get (D := D) (ci := 10) (v := .ref (a 16)) (C := RX10) (T := TX10) (N := 38) hx hb hT in_X10 hown hK hP 0 mw_0 rfl 30 (by decide) (hT _ t1292) (fun _ h9 => h9) rfl dX10_goRoam_32 ?_
        refine lv_iload_n hx hb dX10_goRoam_35 rfl (lv_at hl 0 rfl) ?_
        refine lv_aload_n hx hb dX10_goRoam_36 rfl (lv_at hl 1 rfl) ?_
        refine va_get (D := D) (ci := 10) (v := .ref (a 10)) (C := RX10) (T := TX10) (N := 38) hx hb hT in_X10 hown hK hP 0 mw_0 rfl 18 (by decide) (hT _ t1280) (fun _ h9 => h9) rfl dX10_goRoam_37 ?_
        refine lv_iload_n hx hb dX10_goRoam_40 rfl (lv_at hl 2 rfl) ?_
        refine va_iald hx hb hK hP 10 0 mw_10 rfl (iv_in hp0 (by decide) (by decide)) dX10_goRoam_41 ?_
        refine lv_topi (fun z185 ez185 => ?_)
        refine c_ist hx hb hK hP hD hS mw_16 ms_16 (iv_in h181 (by decide) (by decide)) dX10_goRoam_42 (fun s186 H9 locs9 es186 hP9 hD9 hS9 => ?_)
        clear hP hD hS
        have hS := hS9
        have hP := hP9
        have hD := hD9
        clear hP9 hD9 hS9
        have hBs186 : MB s186 := by rw [es186]; exact mb_sw hBs182 trivial
        have hFs186 : FR [7, 9, 8, 10, 11, 16] st s186 := fr_sw hFs182 (List.mem_of_getElem? (i := 5) rfl) es186
        obtain ⟨z187, ez187⟩ : ∃ z9 : Int32, z9 = v2_18 + Int32.ofInt 1 := ⟨_, rfl⟩
        have h188 : Iv 2 41 z187 := iv_inc ez187 h181 (by decide) (by decide) (by decide) (by decide) (by decide) (by decide)
        refine lv_iinc (v := z187) (lv' := [(2, .int z187), (0, .ref (a 0)), (1, .int p0)]) hx hb dX10_goRoam_43 hl (k := 0) rfl ez187.symm (by decide) rfl (fun ls hl => ?_)
        refine lv_goto (tgt := 18) hx hb dX10_goRoam_46 (by decide) ?_
        exact ih18 z187 s186 _ _ _ (iv_mono (c := 1) (d := 41) h188 (by decide) (by decide)) hBs186 (fr_sw (fr_ca gt18 gs182 (sub_1 (List.mem_of_getElem? (i := 0) rfl) (sub_1 (List.mem_of_getElem? (i := 1) rfl) (sub_1 (List.mem_of_getElem? (i := 2) rfl) (sub_1 (List.mem_of_getElem? (i := 3) rfl) sub_0))))) (List.mem_of_getElem? (i := 4) rfl) es186) hP hD hS (lv_sub hl [0, 1, 2] rfl) (fu_s (lo := 0) (ti_inc ez187 h181 (by decide) (by decide) (by decide) (by decide)) (by decide) hm18)
  exact lp18 41 1 s4 _ _ _ (iv_mono (c := 1) (d := 41) (iv_c (by decide) : Iv 1 1 1) (by decide) (by decide)) hBs4 fr_rf hP hD hS (lv_sub hl [0, 1, 2] rfl) (fu_i (iv_mono (c := 1) (d := 41) (iv_c (by decide) : Iv 1 1 1) (by decide) (by decide)) (by decide))
set_option maxHeartbeats 4000000 in
set_option maxRecDepth 100000 in
theorem m_X10_roams (l : Launch) (D : va_G) (k : Nat → ClassId) (a : Nat → Nat) (st : CT) (sl : CL) (p0 : Int32) (p1 : Int32) (sz : Nat) (hB : MB st)  (hw : WOK (st 1)) : Met l yX10_roams (.code yX10_roams cX10_roams 3 (some .int) :: TB) (rmw 9 0 0) (va_Pc [.ref (a 0), .int p0, .int p1] (PW D k sz (MWS k a st sl))) (QI D (S := CT) (fun r u => MB u ∧ FR [7, 9, 8, 10, 11, 16] st u ∧ ((True))) (fun u => MWS k a u sl) (fun _ => []) (MWS k a st sl) sz) 0 0 (va_A (MWS k a st sl) sz) := by
  refine Met.ofW (cc := cX10_roams) (maxL := 3) (ret := (some .int)) (by decide) rfl ?_
  intro p e s m args below meth c s₁ B hml hv
  obtain ⟨rfl, hsz, hP, hK, hD0, hN⟩ := hv
  have hx := B.exec
  have hb := B.bytes
  have hr := B.returns
  have hT : ∀ w9 ∈ TB, w9.before ([.ref (a 0), .int p0, .int p1] : List Value).toArray s = true := fun w9 h => atoms_spec (ws := .code yX10_roams cX10_roams 3 (some .int) :: TB) B.pre w9 (List.mem_cons_of_mem _ h)
  have hown : s.vm.findClass RX10 = some m.cls := findClass_of_methodNamed B.named
  have S : CallFix p m c cX10_roams 3 s _ TB RX10 := ⟨hx, hb, hml, hown, hT⟩
  subst hsz
  have hD := hD0.self (sz := s.heap.size)
  generalize hAe : va_A (MWS k a st sl) s.heap.size = A at hD ⊢
  have hA : ∀ q : Nat, s.heap.size ≤ q → A q := fun q h => by rw [← hAe]; exact Or.inr h
  have hS : va_S A s.heap s.heap [] := va_S.rf
  have hl := lv_entry ([.ref (a 0), .int p0, .int p1]) (n := 3) (Nat.le_of_ble_eq_true rfl)
  rw [lg_entry_eq]
  generalize (lg_sl ([.ref (a 0), .int p0, .int p1]) ++ List.replicate (3 - (lg_sl ([.ref (a 0), .int p0, .int p1])).length) Slot.unset).toArray = ls at hl ⊢
  have hl : lv_has ls 3 [(0, .ref (a 0)), (1, .int p0), (2, .int p1)] := hl
  refine nameQ (fun Q hQ => ?_)
  refine lv_aload_n hx hb dX10_roams_0 rfl (lv_at hl 0 rfl) ?_
  refine lv_iload_n hx hb dX10_roams_1 rfl (lv_at hl 1 rfl) ?_
  refine ro_V (As := [.int p0]) (rest := []) S (m_X10_isCart l D k a st sl  p0 _  hB  hw) lkX10_279 ok_X10_isCart ⟨rfl, rfl, Nat.le_of_ble_eq_true rfl, Nat.le_of_ble_eq_true rfl⟩ (pw_V (ci := 10) (q0 := 0) hK hN rfl mw_0 hP (hD.weaken (fun _ _ _ _ => trivial))) rfl hl.1 rfl (Nat.le_of_ble_eq_true rfl) ⟨Nat.zero_le _, Nat.zero_le _⟩ dX10_roams_2 (fun r1 er1 => ?_)
  rcases er1 with ⟨rfl, g9⟩ | ⟨rfl, g9⟩
  · skip
    have g2 := g9
    have h3 : Iv 0 2 p0 := g2.1
    refine lv_if_eq (tgt := 20) hx hb dX10_roams_5 (by decide) (fun c4 => ?_) (fun c4 => ?_)
    · first | exact absurd c4 (by decide) | exact absurd (by decide) c4
    refine lv_iload_n hx hb dX10_roams_8 rfl (lv_at hl 2 rfl) ?_
    refine lv_i2l hx hb dX10_roams_9 rfl ?_
    refine lv_lconst (v := 0) hx hb dX10_roams_10 (by decide) ?_
    refine lv_ldc2 (v := 40) hx hb hown (hT _ t1743) dX10_roams_11 ?_
    refine ro_S (As := [.long (p1.toInt64), .long 0, .long 40]) (rest := []) S (m_X10_in l D k a st sl  (p1.toInt64) 0 40 _  hB  ) lkX10_85 ok_X10_in ⟨rfl, rfl, Nat.le_of_ble_eq_true rfl, Nat.le_of_ble_eq_true rfl⟩ (pw_S hK hN hP (hD.weaken (fun _ _ _ _ => trivial))) rfl hl.1 rfl (Nat.le_of_ble_eq_true rfl) ⟨Nat.zero_le _, Nat.zero_le _⟩ dX10_roams_14 (fun r5 er5 => ?_)
    rcases er5 with ⟨rfl, g9⟩ | ⟨rfl, g9⟩
    · skip
      have g6 := g9
      have k7 := g6
      have h8 : (0 : Int) ≤ (p1.toInt64).toInt ∧ (p1.toInt64).toInt ≤ (40 : Int) := ⟨((show (0 : Int) ≤ (p1.toInt64).toInt ∧ (p1.toInt64).toInt ≤ (40 : Int) from ⟨Int.le_trans ((⟨by decide, by decide⟩ : (0 : Int) ≤ (0 : Int64).toInt ∧ (0 : Int64).toInt ≤ (0 : Int))).1 k7.1, Int.le_trans k7.2 ((⟨by decide, by decide⟩ : (40 : Int) ≤ (40 : Int64).toInt ∧ (40 : Int64).toInt ≤ (40 : Int))).2⟩)).1, ((show (0 : Int) ≤ (p1.toInt64).toInt ∧ (p1.toInt64).toInt ≤ (40 : Int) from ⟨Int.le_trans ((⟨by decide, by decide⟩ : (0 : Int) ≤ (0 : Int64).toInt ∧ (0 : Int64).toInt ≤ (0 : Int))).1 k7.1, Int.le_trans k7.2 ((⟨by decide, by decide⟩ : (40 : Int) ≤ (40 : Int64).toInt ∧ (40 : Int64).toInt ≤ (40 : Int))).2⟩)).2⟩
      have h9 : Iv 0 40 p1 := iv_lv h8
      refine lv_if_ne (tgt := 23) hx hb dX10_roams_17 (by decide) (fun c10 => ?_) (fun c10 => ?_)
      rotate_left
      · first | exact absurd c10 (by decide) | exact absurd (by decide) c10
      refine lv_aload_n hx hb dX10_roams_23 rfl (lv_at hl 0 rfl) ?_
      refine lv_iload_n hx hb dX10_roams_24 rfl (lv_at hl 1 rfl) ?_
      refine ca_v hP hD hS hA (fun hDc => run_V (mc := 0) (ms := 0) (As := [.int p0]) (rest := []) S (m_X10_goRoam l D k a st sl  p0 _  hB h3 hw) lkX10_349 ok_X10_goRoam ⟨rfl, rfl, Nat.le_of_ble_eq_true rfl, Nat.le_of_ble_eq_true rfl⟩ (pw_V (ci := 10) (q0 := 0) hK hN rfl mw_0 hP hDc) rfl hl.1 rfl (Nat.le_of_ble_eq_true rfl) ⟨Nat.zero_le _, Nat.zero_le _⟩ dX10_roams_25) (fun s11 H9 locs9 hs11 hP9 hD9 hS9 => ?_)
      clear hP hD hS
      have hS := hS9
      have hP := hP9
      have hD := hD9
      clear hP9 hD9 hS9
      obtain ⟨hBs11, gs11, fs11⟩ := hs11
      have hFs11 : FR [7, 9, 8, 10, 11, 16] st s11 := fr_ca fr_rf gs11 (sub_1 (List.mem_of_getElem? (i := 0) rfl) (sub_1 (List.mem_of_getElem? (i := 1) rfl) (sub_1 (List.mem_of_getElem? (i := 2) rfl) (sub_1 (List.mem_of_getElem? (i := 3) rfl) (sub_1 (List.mem_of_getElem? (i := 4) rfl) (sub_1 (List.mem_of_getElem? (i := 5) rfl) sub_0))))))
      refine lv_aload_n hx hb dX10_roams_28 rfl (lv_at hl 0 rfl) ?_
      refine va_get (D := D) (ci := 10) (v := .ref (a 16)) (C := RX10) (T := TX10) (N := 38) hx hb hT in_X10 hown hK hP 0 mw_0 rfl 30 (by decide) (hT _ t1292) (fun _ h9 => h9) rfl dX10_roams_29 ?_
      refine lv_iload_n hx hb dX10_roams_32 rfl (lv_at hl 2 rfl) ?_
      refine va_iald hx hb hK hP 16 0 mw_16 rfl (iv_in h9 (by decide) (by decide)) dX10_roams_33 ?_
      refine lv_topi (fun z13 ez13 => ?_)
      rw [hQ]
      exact W.iret (v := z13) hx hb hr (fun t ht hW => ⟨⟨z13, s11, rfl, ⟨hBs11, hFs11, trivial⟩, by rw [ht]; exact hP, va_K.moved hW.alike (hK.sub (tys' := []) [] rfl), by rw [hAe]; exact hD⟩, by rw [hAe]; exact hS.F ht⟩) hS.2.2 dX10_roams_34
    · skip
      have g14 := g9
      have k15 := g14
      refine lv_if_ne (tgt := 23) hx hb dX10_roams_17 (by decide) (fun c16 => ?_) (fun c16 => ?_)
      · first | exact absurd c16 (by decide) | exact absurd (by decide) c16
      refine lv_bipush (v := (-2)) hx hb dX10_roams_20 (by decide) ?_
      rw [hQ]
      exact W.iret (v := (-2)) hx hb hr (fun t ht hW => ⟨⟨(-2), st, rfl, ⟨hB, fr_rf, trivial⟩, by rw [ht]; exact hP, va_K.moved hW.alike (hK.sub (tys' := []) [] rfl), by rw [hAe]; exact hD⟩, by rw [hAe]; exact hS.F ht⟩) hS.2.2 dX10_roams_22
  · skip
    have g17 := g9
    refine lv_if_eq (tgt := 20) hx hb dX10_roams_5 (by decide) (fun c18 => ?_) (fun c18 => ?_)
    rotate_left
    · first | exact absurd c18 (by decide) | exact absurd (by decide) c18
    refine lv_bipush (v := (-2)) hx hb dX10_roams_20 (by decide) ?_
    rw [hQ]
    exact W.iret (v := (-2)) hx hb hr (fun t ht hW => ⟨⟨(-2), st, rfl, ⟨hB, fr_rf, trivial⟩, by rw [ht]; exact hP, va_K.moved hW.alike (hK.sub (tys' := []) [] rfl), by rw [hAe]; exact hD⟩, by rw [hAe]; exact hS.F ht⟩) hS.2.2 dX10_roams_22
set_option maxHeartbeats 4000000 in
set_option maxRecDepth 100000 in
theorem m_X10_circle (l : Launch) (D : va_G) (k : Nat → ClassId) (a : Nat → Nat) (st : CT) (sl : CL) (p0 : Int32) (sz : Nat) (hB : MB st)  (hw : WOK (st 1)) : Met l yX10_circle (.code yX10_circle cX10_circle 4 (some .int) :: TB) (rmw 9 0 0) (va_Pc [.ref (a 0), .int p0] (PW D k sz (MWS k a st sl))) (QI D (S := CT) (fun r u => MB u ∧ FR [7, 9, 8, 10, 11, 16] st u ∧ (Iv (-2) 32 r ∧ (True))) (fun u => MWS k a u sl) (fun _ => []) (MWS k a st sl) sz) 0 0 (va_A (MWS k a st sl) sz) := by
  refine Met.ofW (cc := cX10_circle) (maxL := 4) (ret := (some .int)) (by decide) rfl ?_
  intro p e s m args below meth c s₁ B hml hv
  obtain ⟨rfl, hsz, hP, hK, hD0, hN⟩ := hv
  have hx := B.exec
  have hb := B.bytes
  have hr := B.returns
  have hT : ∀ w9 ∈ TB, w9.before ([.ref (a 0), .int p0] : List Value).toArray s = true := fun w9 h => atoms_spec (ws := .code yX10_circle cX10_circle 4 (some .int) :: TB) B.pre w9 (List.mem_cons_of_mem _ h)
  have hown : s.vm.findClass RX10 = some m.cls := findClass_of_methodNamed B.named
  have S : CallFix p m c cX10_circle 4 s _ TB RX10 := ⟨hx, hb, hml, hown, hT⟩
  subst hsz
  have hD := hD0.self (sz := s.heap.size)
  generalize hAe : va_A (MWS k a st sl) s.heap.size = A at hD ⊢
  have hA : ∀ q : Nat, s.heap.size ≤ q → A q := fun q h => by rw [← hAe]; exact Or.inr h
  have hS : va_S A s.heap s.heap [] := va_S.rf
  have hl := lv_entry ([.ref (a 0), .int p0]) (n := 4) (Nat.le_of_ble_eq_true rfl)
  rw [lg_entry_eq]
  generalize (lg_sl ([.ref (a 0), .int p0]) ++ List.replicate (4 - (lg_sl ([.ref (a 0), .int p0])).length) Slot.unset).toArray = ls at hl ⊢
  have hl : lv_has ls 4 [(0, .ref (a 0)), (1, .int p0)] := hl
  refine nameQ (fun Q hQ => ?_)
  refine lv_aload_n hx hb dX10_circle_0 rfl (lv_at hl 0 rfl) ?_
  refine lv_iload_n hx hb dX10_circle_1 rfl (lv_at hl 1 rfl) ?_
  refine ro_V (As := [.int p0]) (rest := []) S (m_X10_isCart l D k a st sl  p0 _  hB  hw) lkX10_279 ok_X10_isCart ⟨rfl, rfl, Nat.le_of_ble_eq_true rfl, Nat.le_of_ble_eq_true rfl⟩ (pw_V (ci := 10) (q0 := 0) hK hN rfl mw_0 hP (hD.weaken (fun _ _ _ _ => trivial))) rfl hl.1 rfl (Nat.le_of_ble_eq_true rfl) ⟨Nat.zero_le _, Nat.zero_le _⟩ dX10_circle_2 (fun r1 er1 => ?_)
  rcases er1 with ⟨rfl, g9⟩ | ⟨rfl, g9⟩
  · skip
    have g2 := g9
    have h3 : Iv 0 2 p0 := g2.1
    refine lv_if_ne (tgt := 11) hx hb dX10_circle_5 (by decide) (fun c4 => ?_) (fun c4 => ?_)
    rotate_left
    · first | exact absurd c4 (by decide) | exact absurd (by decide) c4
    refine lv_aload_n hx hb dX10_circle_11 rfl (lv_at hl 0 rfl) ?_
    refine lv_iload_n hx hb dX10_circle_12 rfl (lv_at hl 1 rfl) ?_
    refine ca_v hP hD hS hA (fun hDc => run_V (mc := 0) (ms := 0) (As := [.int p0]) (rest := []) S (m_X10_goRoam l D k a st sl  p0 _  hB h3 hw) lkX10_349 ok_X10_goRoam ⟨rfl, rfl, Nat.le_of_ble_eq_true rfl, Nat.le_of_ble_eq_true rfl⟩ (pw_V (ci := 10) (q0 := 0) hK hN rfl mw_0 hP hDc) rfl hl.1 rfl (Nat.le_of_ble_eq_true rfl) ⟨Nat.zero_le _, Nat.zero_le _⟩ dX10_circle_13) (fun s5 H9 locs9 hs5 hP9 hD9 hS9 => ?_)
    clear hP hD hS
    have hS := hS9
    have hP := hP9
    have hD := hD9
    clear hP9 hD9 hS9
    obtain ⟨hBs5, gs5, fs5⟩ := hs5
    have hFs5 : FR [7, 9, 8, 10, 11, 16] st s5 := fr_ca fr_rf gs5 (sub_1 (List.mem_of_getElem? (i := 0) rfl) (sub_1 (List.mem_of_getElem? (i := 1) rfl) (sub_1 (List.mem_of_getElem? (i := 2) rfl) (sub_1 (List.mem_of_getElem? (i := 3) rfl) (sub_1 (List.mem_of_getElem? (i := 4) rfl) (sub_1 (List.mem_of_getElem? (i := 5) rfl) sub_0))))))
    refine lv_aload_n hx hb dX10_circle_16 rfl (lv_at hl 0 rfl) ?_
    refine lv_aload_n hx hb dX10_circle_17 rfl (lv_at hl 0 rfl) ?_
    refine va_get (D := D) (ci := 10) (v := .ref (a 16)) (C := RX10) (T := TX10) (N := 38) hx hb hT in_X10 hown hK hP 0 mw_0 rfl 30 (by decide) (hT _ t1292) (fun _ h9 => h9) rfl dX10_circle_18 ?_
    refine lv_iconst (v := 0) hx hb dX10_circle_21 (by decide) ?_
    refine va_iald hx hb hK hP 16 0 mw_16 rfl (by unfold vp_in; decide) dX10_circle_22 ?_
    refine k_top (y := (s5 16 0)) rfl ?_
    refine ro_V (As := [.int (s5 16 0)]) (rest := []) S (m_X10_roadsOf l D k a s5 sl  (s5 16 0) _  hBs5  (wok_of (hFs5 1 (nm_1 (by decide) (nm_1 (by decide) (nm_1 (by decide) (nm_1 (by decide) (nm_1 (by decide) (nm_1 (by decide) nm_0))))))) hw)) lkX10_285 ok_X10_roadsOf ⟨rfl, rfl, Nat.le_of_ble_eq_true rfl, Nat.le_of_ble_eq_true rfl⟩ (pw_V (ci := 10) (q0 := 0) hK hN rfl mw_0 hP (hD.weaken (fun _ _ _ _ => trivial))) rfl hl.1 rfl (Nat.le_of_ble_eq_true rfl) ⟨Nat.zero_le _, Nat.zero_le _⟩ dX10_circle_23 (fun r7 er7 => ?_)
    have h8 : Iv 0 255 r7 := er7.1
    have k9 := er7.2
    rw [(hFs5 1 (nm_1 (by decide) (nm_1 (by decide) (nm_1 (by decide) (nm_1 (by decide) (nm_1 (by decide) (nm_1 (by decide) nm_0)))))))] at k9
    refine lv_if_ne (tgt := 31) hx hb dX10_circle_26 (by decide) (fun c10 => ?_) (fun c10 => ?_)
    · skip
      have h11 : Iv 1 255 r7 := ne_lo h8 (show ¬ r7 = 0 from c10) (by decide) (by decide)
      refine lv_iconst (v := 1) hx hb dX10_circle_31 (by decide) ?_
      refine lv_aload_n hx hb dX10_circle_32 rfl (lv_at hl 0 rfl) ?_
      refine va_get (D := D) (ci := 10) (v := .ref (a 16)) (C := RX10) (T := TX10) (N := 38) hx hb hT in_X10 hown hK hP 0 mw_0 rfl 30 (by decide) (hT _ t1292) (fun _ h9 => h9) rfl dX10_circle_33 ?_
      refine lv_iconst (v := 0) hx hb dX10_circle_36 (by decide) ?_
      refine va_iald hx hb hK hP 16 0 mw_16 rfl (by unfold vp_in; decide) dX10_circle_37 ?_
      refine k_top (y := (s5 16 0)) rfl ?_
      refine lv_ishl hx hb dX10_circle_38 ?_
      refine lv_topi (fun z12 ez12 => ?_)
      refine lv_istore_n (lv' := [(2, .int z12), (0, .ref (a 0)), (1, .int p0)]) hx hb dX10_circle_39 rfl hl (by decide) rfl (fun ls hl => ?_)
      refine lv_iconst (v := 1) hx hb dX10_circle_40 (by decide) ?_
      refine lv_istore_n (lv' := [(3, .int 1), (2, .int z12), (0, .ref (a 0)), (1, .int p0)]) hx hb dX10_circle_41 rfl hl (by decide) rfl (fun ls hl => ?_)
      have lp42 : ∀ (n9_42 : Nat) (v3_42 : Int32) (v2_42 : Int32) (ls : Array Slot), Iv 1 32 v3_42 → (v3_42.toInt ≤ CN v2_42) → lv_has ls 4 [(3, .int v3_42), (2, .int v2_42), (0, .ref (a 0)), (1, .int p0)] → (32 : Int) - v3_42.toInt < (n9_42 : Int) → W p l e (rmw 9 0 0) s m ([.ref (a 0), .int p0] : List Value).toArray below meth c H9 locs9 0 0 Q (F0 m 42 ls []) := by
        clear hl
        intro n9_42
        induction n9_42 with
        | zero =>
          intro v3_42 v2_42 ls iv3_42 rel42_0 hl hm42
          exact (fu_0 iv3_42 hm42).elim
        | succ n9_42 ih42 =>
          intro v3_42 v2_42 ls iv3_42 rel42_0 hl hm42
          refine lv_iload_n hx hb dX10_circle_42 rfl (lv_at hl 1 rfl) ?_
          refine lv_aload_n hx hb dX10_circle_43 rfl (lv_at hl 2 rfl) ?_
          refine va_get (D := D) (ci := 10) (v := .ref (a 16)) (C := RX10) (T := TX10) (N := 38) hx hb hT in_X10 hown hK hP 0 mw_0 rfl 30 (by decide) (hT _ t1292) (fun _ h9 => h9) rfl dX10_circle_44 ?_
          refine lv_iload_n hx hb dX10_circle_47 rfl (lv_at hl 0 rfl) ?_
          refine va_iald hx hb hK hP 16 0 mw_16 rfl (iv_in iv3_42 (by decide) (by decide)) dX10_circle_48 ?_
          refine k_top (y := (s5 16 v3_42.toNatClampNeg)) rfl ?_
          refine ro_S (As := [.int v2_42, .int (s5 16 v3_42.toNatClampNeg)]) (rest := []) S (m_X10_bit l D k a s5 sl  v2_42 (s5 16 v3_42.toNatClampNeg) _  hBs5  ) lkX10_193 ok_X10_bit ⟨rfl, rfl, Nat.le_of_ble_eq_true rfl, Nat.le_of_ble_eq_true rfl⟩ (pw_S hK hN hP (hD.weaken (fun _ _ _ _ => trivial))) rfl hl.1 rfl (Nat.le_of_ble_eq_true rfl) ⟨Nat.zero_le _, Nat.zero_le _⟩ dX10_circle_49 (fun r23 er23 => ?_)
          have h24 : Iv 0 1 r23 := er23.1
          have k25 := er23.2
          refine lv_if_ne (tgt := 72) hx hb dX10_circle_52 (by decide) (fun c26 => ?_) (fun c26 => ?_)
          · skip
            have h27 : Iv 1 1 r23 := ne_lo h24 (show ¬ r23 = 0 from c26) (by decide) (by decide)
            refine lv_iload_n hx hb dX10_circle_72 rfl (lv_at hl 0 rfl) ?_
            rw [hQ]
            exact W.iret (v := v3_42) hx hb hr (fun t ht hW => ⟨⟨v3_42, s5, rfl, ⟨hBs5, hFs5, ⟨(iv_mono (c := (-2)) (d := 32) iv3_42 (by decide) (by decide)), trivial⟩⟩, by rw [ht]; exact hP, va_K.moved hW.alike (hK.sub (tys' := []) [] rfl), by rw [hAe]; exact hD⟩, by rw [hAe]; exact hS.F ht⟩) hS.2.2 dX10_circle_73
          · skip
            have h28 : Iv 0 0 r23 := eq_l c26 (iv_c (by decide) : Iv 0 0 0)
            refine lv_iload_n hx hb dX10_circle_55 rfl (lv_at hl 1 rfl) ?_
            refine lv_iconst (v := 1) hx hb dX10_circle_56 (by decide) ?_
            refine lv_aload_n hx hb dX10_circle_57 rfl (lv_at hl 2 rfl) ?_
            refine va_get (D := D) (ci := 10) (v := .ref (a 16)) (C := RX10) (T := TX10) (N := 38) hx hb hT in_X10 hown hK hP 0 mw_0 rfl 30 (by decide) (hT _ t1292) (fun _ h9 => h9) rfl dX10_circle_58 ?_
            refine lv_iload_n hx hb dX10_circle_61 rfl (lv_at hl 0 rfl) ?_
            refine va_iald hx hb hK hP 16 0 mw_16 rfl (iv_in iv3_42 (by decide) (by decide)) dX10_circle_62 ?_
            refine k_top (y := (s5 16 v3_42.toNatClampNeg)) rfl ?_
            refine lv_ishl hx hb dX10_circle_63 ?_
            refine lv_topi (fun z29 ez29 => ?_)
            refine lv_ior hx hb dX10_circle_64 ?_
            refine lv_topi (fun z30 ez30 => ?_)
            refine lv_istore_n (lv' := [(2, .int z30), (3, .int v3_42), (0, .ref (a 0)), (1, .int p0)]) hx hb dX10_circle_65 rfl hl (by decide) rfl (fun ls hl => ?_)
            obtain ⟨z31, ez31⟩ : ∃ z9 : Int32, z9 = v3_42 + Int32.ofInt 1 := ⟨_, rfl⟩
            have h32 : Iv 2 33 z31 := iv_inc ez31 iv3_42 (by decide) (by decide) (by decide) (by decide) (by decide) (by decide)
            refine lv_iinc (v := z31) (lv' := [(3, .int z31), (2, .int z30), (0, .ref (a 0)), (1, .int p0)]) hx hb dX10_circle_66 hl (k := 1) rfl ez31.symm (by decide) rfl (fun ls hl => ?_)
            refine lv_goto (tgt := 42) hx hb dX10_circle_69 (by decide) ?_
            exact ih42 z31 z30 _ (by have y1 := cn_step k25 c26 ez29 ez30; have y2 := ti_inc ez31 iv3_42 (by decide) (by decide) (by decide) (by decide); have y3 := rel42_0; have y4 := cn_le z30; obtain ⟨y5, y6⟩ := id iv3_42; exact ⟨by omega, by omega⟩) (by have y1 := cn_step k25 c26 ez29 ez30; have y2 := ti_inc ez31 iv3_42 (by decide) (by decide) (by decide) (by decide); have y3 := rel42_0; omega) (lv_sub hl [0, 1, 2, 3] rfl) (fu_s (lo := 0) (ti_inc ez31 iv3_42 (by decide) (by decide) (by decide) (by decide)) (by decide) hm42)
      exact lp42 32 1 z12 _ (iv_mono (c := 1) (d := 32) (iv_c (by decide) : Iv 1 1 1) (by decide) (by decide)) (by rw [ez12]; have y9 := cn_one (s5 16 0); have z9 : (1 : Int32).toInt = 1 := rfl; omega) (lv_sub hl [0, 1, 2, 3] rfl) (fu_i (iv_mono (c := 1) (d := 32) (iv_c (by decide) : Iv 1 1 1) (by decide) (by decide)) (by decide))
    · skip
      have h33 : Iv 0 0 r7 := eq_l c10 (iv_c (by decide) : Iv 0 0 0)
      refine lv_iconst (v := (-1)) hx hb dX10_circle_29 (by decide) ?_
      rw [hQ]
      exact W.iret (v := (-1)) hx hb hr (fun t ht hW => ⟨⟨(-1), s5, rfl, ⟨hBs5, hFs5, ⟨(iv_mono (c := (-2)) (d := 32) (iv_c (by decide) : Iv (-1) (-1) (-1)) (by decide) (by decide)), trivial⟩⟩, by rw [ht]; exact hP, va_K.moved hW.alike (hK.sub (tys' := []) [] rfl), by rw [hAe]; exact hD⟩, by rw [hAe]; exact hS.F ht⟩) hS.2.2 dX10_circle_30
  · skip
    have g34 := g9
    refine lv_if_ne (tgt := 11) hx hb dX10_circle_5 (by decide) (fun c35 => ?_) (fun c35 => ?_)
    · first | exact absurd c35 (by decide) | exact absurd (by decide) c35
    refine lv_bipush (v := (-2)) hx hb dX10_circle_8 (by decide) ?_
    rw [hQ]
    exact W.iret (v := (-2)) hx hb hr (fun t ht hW => ⟨⟨(-2), st, rfl, ⟨hB, fr_rf, ⟨(iv_mono (c := (-2)) (d := 32) (iv_c (by decide) : Iv (-2) (-2) (-2)) (by decide) (by decide)), trivial⟩⟩, by rw [ht]; exact hP, va_K.moved hW.alike (hK.sub (tys' := []) [] rfl), by rw [hAe]; exact hD⟩, by rw [hAe]; exact hS.F ht⟩) hS.2.2 dX10_circle_10
set_option maxHeartbeats 4000000 in
set_option maxRecDepth 100000 in
theorem m_X10_haunts (l : Launch) (D : va_G) (k : Nat → ClassId) (a : Nat → Nat) (st : CT) (sl : CL) (p0 : Int32) (sz : Nat) (hB : MB st)  (hw : WOK (st 1)) : Met l yX10_haunts (.code yX10_haunts cX10_haunts 7 (some .int) :: TB) (rmw 9 0 0) (va_Pc [.ref (a 0), .int p0] (PW D k sz (MWS k a st sl))) (QI D (S := CT) (fun r u => MB u ∧ FR [7, 9, 8, 10, 11, 16] st u ∧ (Iv (-2) 5 r ∧ (True))) (fun u => MWS k a u sl) (fun _ => []) (MWS k a st sl) sz) 0 0 (va_A (MWS k a st sl) sz) := by
  refine Met.ofW (cc := cX10_haunts) (maxL := 7) (ret := (some .int)) (by decide) rfl ?_
  intro p e s m args below meth c s₁ B hml hv
  obtain ⟨rfl, hsz, hP, hK, hD0, hN⟩ := hv
  have hx := B.exec
  have hb := B.bytes
  have hr := B.returns
  have hT : ∀ w9 ∈ TB, w9.before ([.ref (a 0), .int p0] : List Value).toArray s = true := fun w9 h => atoms_spec (ws := .code yX10_haunts cX10_haunts 7 (some .int) :: TB) B.pre w9 (List.mem_cons_of_mem _ h)
  have hown : s.vm.findClass RX10 = some m.cls := findClass_of_methodNamed B.named
  have S : CallFix p m c cX10_haunts 7 s _ TB RX10 := ⟨hx, hb, hml, hown, hT⟩
  subst hsz
  have hD := hD0.self (sz := s.heap.size)
  generalize hAe : va_A (MWS k a st sl) s.heap.size = A at hD ⊢
  have hA : ∀ q : Nat, s.heap.size ≤ q → A q := fun q h => by rw [← hAe]; exact Or.inr h
  have hS : va_S A s.heap s.heap [] := va_S.rf
  have hl := lv_entry ([.ref (a 0), .int p0]) (n := 7) (Nat.le_of_ble_eq_true rfl)
  rw [lg_entry_eq]
  generalize (lg_sl ([.ref (a 0), .int p0]) ++ List.replicate (7 - (lg_sl ([.ref (a 0), .int p0])).length) Slot.unset).toArray = ls at hl ⊢
  have hl : lv_has ls 7 [(0, .ref (a 0)), (1, .int p0)] := hl
  refine nameQ (fun Q hQ => ?_)
  refine lv_aload_n hx hb dX10_haunts_0 rfl (lv_at hl 0 rfl) ?_
  refine lv_iload_n hx hb dX10_haunts_1 rfl (lv_at hl 1 rfl) ?_
  refine ro_V (As := [.int p0]) (rest := []) S (m_X10_isCart l D k a st sl  p0 _  hB  hw) lkX10_279 ok_X10_isCart ⟨rfl, rfl, Nat.le_of_ble_eq_true rfl, Nat.le_of_ble_eq_true rfl⟩ (pw_V (ci := 10) (q0 := 0) hK hN rfl mw_0 hP (hD.weaken (fun _ _ _ _ => trivial))) rfl hl.1 rfl (Nat.le_of_ble_eq_true rfl) ⟨Nat.zero_le _, Nat.zero_le _⟩ dX10_haunts_2 (fun r1 er1 => ?_)
  rcases er1 with ⟨rfl, g9⟩ | ⟨rfl, g9⟩
  · skip
    have g2 := g9
    have h3 : Iv 0 2 p0 := g2.1
    refine lv_if_ne (tgt := 11) hx hb dX10_haunts_5 (by decide) (fun c4 => ?_) (fun c4 => ?_)
    rotate_left
    · first | exact absurd c4 (by decide) | exact absurd (by decide) c4
    refine lv_aload_n hx hb dX10_haunts_11 rfl (lv_at hl 0 rfl) ?_
    refine lv_iload_n hx hb dX10_haunts_12 rfl (lv_at hl 1 rfl) ?_
    refine ca_v hP hD hS hA (fun hDc => run_V (mc := 0) (ms := 0) (As := [.int p0]) (rest := []) S (m_X10_goRoam l D k a st sl  p0 _  hB h3 hw) lkX10_349 ok_X10_goRoam ⟨rfl, rfl, Nat.le_of_ble_eq_true rfl, Nat.le_of_ble_eq_true rfl⟩ (pw_V (ci := 10) (q0 := 0) hK hN rfl mw_0 hP hDc) rfl hl.1 rfl (Nat.le_of_ble_eq_true rfl) ⟨Nat.zero_le _, Nat.zero_le _⟩ dX10_haunts_13) (fun s5 H9 locs9 hs5 hP9 hD9 hS9 => ?_)
    clear hP hD hS
    have hS := hS9
    have hP := hP9
    have hD := hD9
    clear hP9 hD9 hS9
    obtain ⟨hBs5, gs5, fs5⟩ := hs5
    have hFs5 : FR [7, 9, 8, 10, 11, 16] st s5 := fr_ca fr_rf gs5 (sub_1 (List.mem_of_getElem? (i := 0) rfl) (sub_1 (List.mem_of_getElem? (i := 1) rfl) (sub_1 (List.mem_of_getElem? (i := 2) rfl) (sub_1 (List.mem_of_getElem? (i := 3) rfl) (sub_1 (List.mem_of_getElem? (i := 4) rfl) (sub_1 (List.mem_of_getElem? (i := 5) rfl) sub_0))))))
    refine lv_iconst (v := (-1)) hx hb dX10_haunts_16 (by decide) ?_
    refine lv_istore_n (lv' := [(2, .int (-1)), (0, .ref (a 0)), (1, .int p0)]) hx hb dX10_haunts_17 rfl hl (by decide) rfl (fun ls hl => ?_)
    refine lv_iconst (v := 0) hx hb dX10_haunts_18 (by decide) ?_
    refine lv_istore_n (lv' := [(3, .int 0), (2, .int (-1)), (0, .ref (a 0)), (1, .int p0)]) hx hb dX10_haunts_19 rfl hl (by decide) rfl (fun ls hl => ?_)
    refine lv_iconst (v := 0) hx hb dX10_haunts_20 (by decide) ?_
    refine lv_istore (lv' := [(4, .int 0), (3, .int 0), (2, .int (-1)), (0, .ref (a 0)), (1, .int p0)]) hx hb dX10_haunts_21 hl (by decide) rfl (fun ls hl => ?_)
    have lp23 : ∀ (n9_23 : Nat) (v4_23 : Int32) (v3_23 : Int32) (v2_23 : Int32) (ls : Array Slot), Iv 0 6 v4_23 → Iv 0 2147483647 v3_23 → Iv (-1) 5 v2_23 → lv_has ls 7 [(4, .int v4_23), (3, .int v3_23), (2, .int v2_23), (0, .ref (a 0)), (1, .int p0)] → (6 : Int) - v4_23.toInt < (n9_23 : Int) → W p l e (rmw 9 0 0) s m ([.ref (a 0), .int p0] : List Value).toArray below meth c H9 locs9 0 0 Q (F0 m 23 ls []) := by
      clear hl
      intro n9_23
      induction n9_23 with
      | zero =>
        intro v4_23 v3_23 v2_23 ls iv4_23 iv3_23 iv2_23 hl hm23
        exact (fu_0 iv4_23 hm23).elim
      | succ n9_23 ih23 =>
        intro v4_23 v3_23 v2_23 ls iv4_23 iv3_23 iv2_23 hl hm23
        refine lv_iload hx hb dX10_haunts_23 (lv_at hl 0 rfl) ?_
        refine lv_aload_n hx hb dX10_haunts_25 rfl (lv_at hl 3 rfl) ?_
        refine va_get (D := D) (ci := 10) (v := .ref (a 1)) (C := RX10) (T := TX10) (N := 38) hx hb hT in_X10 hown hK hP 0 mw_0 rfl 1 (by decide) (hT _ t1263) (fun _ h9 => h9) rfl dX10_haunts_26 ?_
        refine lv_iconst (v := 0) hx hb dX10_haunts_29 (by decide) ?_
        refine va_iald hx hb hK hP 1 0 mw_1 rfl (by unfold vp_in; decide) dX10_haunts_30 ?_
        refine k_top (y := (s5 1 0)) rfl ?_
        refine k_top (y := (st 1 0)) (congrFun (hFs5 1 (nm_1 (by decide) (nm_1 (by decide) (nm_1 (by decide) (nm_1 (by decide) (nm_1 (by decide) (nm_1 (by decide) nm_0))))))) 0) ?_
        have h3759 : Iv 0 6 (st 1 0) := (tok_at (hw).1 0 0 6 (by decide) (by decide) (by decide))
        refine lv_icmp_ge (tgt := 96) hx hb dX10_haunts_31 (by decide) (fun c3760 => ?_) (fun c3760 => ?_)
        · skip
          have n3761 : (st 1 0).toInt ≤ v4_23.toInt := (i_le c3760)
          refine lv_iload_n hx hb dX10_haunts_96 rfl (lv_at hl 2 rfl) ?_
          rw [hQ]
          exact W.iret (v := v2_23) hx hb hr (fun t ht hW => ⟨⟨v2_23, s5, rfl, ⟨hBs5, hFs5, ⟨(iv_mono (c := (-2)) (d := 5) iv2_23 (by decide) (by decide)), trivial⟩⟩, by rw [ht]; exact hP, va_K.moved hW.alike (hK.sub (tys' := []) [] rfl), by rw [hAe]; exact hD⟩, by rw [hAe]; exact hS.F ht⟩) hS.2.2 dX10_haunts_97
        · skip
          have n3762 : v4_23.toInt < (st 1 0).toInt := (i_nle c3760)
          have h3763 : Iv 0 5 v4_23 := lt_l iv4_23 n3762 h3759 (by decide)
          have h3764 : Iv 1 6 (st 1 0) := lt_r iv4_23 n3762 h3759 (by decide)
          refine lv_iconst (v := 0) hx hb dX10_haunts_34 (by decide) ?_
          refine lv_istore (lv' := [(5, .int 0), (4, .int v4_23), (3, .int v3_23), (2, .int v2_23), (0, .ref (a 0)), (1, .int p0)]) hx hb dX10_haunts_35 hl (by decide) rfl (fun ls hl => ?_)
          refine lv_iconst (v := 0) hx hb dX10_haunts_37 (by decide) ?_
          refine lv_istore (lv' := [(6, .int 0), (5, .int 0), (4, .int v4_23), (3, .int v3_23), (2, .int v2_23), (0, .ref (a 0)), (1, .int p0)]) hx hb dX10_haunts_38 hl (by decide) rfl (fun ls hl => ?_)
          have lp40 : ∀ (n9_40 : Nat) (v6_40 : Int32) (v5_40 : Int32) (ls : Array Slot), Iv 0 41 v6_40 → lv_has ls 7 [(6, .int v6_40), (5, .int v5_40), (4, .int v4_23), (3, .int v3_23), (2, .int v2_23), (0, .ref (a 0)), (1, .int p0)] → (41 : Int) - v6_40.toInt < (n9_40 : Int) → W p l e (rmw 9 0 0) s m ([.ref (a 0), .int p0] : List Value).toArray below meth c H9 locs9 0 0 Q (F0 m 40 ls []) := by
            clear hl
            intro n9_40
            induction n9_40 with
            | zero =>
              intro v6_40 v5_40 ls iv6_40 hl hm40
              exact (fu_0 iv6_40 hm40).elim
            | succ n9_40 ih40 =>
              intro v6_40 v5_40 ls iv6_40 hl hm40
              refine lv_iload hx hb dX10_haunts_40 (lv_at hl 0 rfl) ?_
              refine lv_bipush (v := 40) hx hb dX10_haunts_42 (by decide) ?_
              refine lv_icmp_gt (tgt := 75) hx hb dX10_haunts_44 (by decide) (fun c4272 => ?_) (fun c4272 => ?_)
              · skip
                have n4273 : (40 : Int32).toInt < v6_40.toInt := (i_lt c4272)
                have h4274 : Iv 41 41 v6_40 := lt_r (iv_c (by decide) : Iv 40 40 40) n4273 iv6_40 (by decide)
                refine lv_iload hx hb dX10_haunts_75 (lv_at hl 1 rfl) ?_
                refine lv_iload_n hx hb dX10_haunts_77 rfl (lv_at hl 3 rfl) ?_
                refine lv_icmp_gt (tgt := 84) hx hb dX10_haunts_78 (by decide) (fun c4275 => ?_) (fun c4275 => ?_)
                · skip
                  have n4276 : v3_23.toInt < v5_40.toInt := (i_lt c4275)
                  have h4277 : Iv 0 2147483646 v3_23 := lt_l iv3_23 n4276 (iv_full v5_40) (by decide)
                  have h4278 : Iv 1 2147483647 v5_40 := lt_r iv3_23 n4276 (iv_full v5_40) (by decide)
                  refine lv_iload hx hb dX10_haunts_84 (lv_at hl 1 rfl) ?_
                  refine lv_istore_n (lv' := [(3, .int v5_40), (6, .int v6_40), (5, .int v5_40), (4, .int v4_23), (2, .int v2_23), (0, .ref (a 0)), (1, .int p0)]) hx hb dX10_haunts_86 rfl hl (by decide) rfl (fun ls hl => ?_)
                  refine lv_iload hx hb dX10_haunts_87 (lv_at hl 3 rfl) ?_
                  refine lv_istore_n (lv' := [(2, .int v4_23), (3, .int v5_40), (6, .int v6_40), (5, .int v5_40), (4, .int v4_23), (0, .ref (a 0)), (1, .int p0)]) hx hb dX10_haunts_89 rfl hl (by decide) rfl (fun ls hl => ?_)
                  obtain ⟨z4279, ez4279⟩ : ∃ z9 : Int32, z9 = v4_23 + Int32.ofInt 1 := ⟨_, rfl⟩
                  have h4280 : Iv 1 6 z4279 := iv_inc ez4279 h3763 (by decide) (by decide) (by decide) (by decide) (by decide) (by decide)
                  refine lv_iinc (v := z4279) (lv' := [(4, .int z4279), (2, .int v4_23), (3, .int v5_40), (6, .int v6_40), (5, .int v5_40), (0, .ref (a 0)), (1, .int p0)]) hx hb dX10_haunts_90 hl (k := 4) rfl ez4279.symm (by decide) rfl (fun ls hl => ?_)
                  refine lv_goto (tgt := 23) hx hb dX10_haunts_93 (by decide) ?_
                  exact ih23 z4279 v5_40 v4_23 _ (iv_mono (c := 0) (d := 6) h4280 (by decide) (by decide)) (iv_mono (c := 0) (d := 2147483647) h4278 (by decide) (by decide)) (iv_mono (c := (-1)) (d := 5) h3763 (by decide) (by decide)) (lv_sub hl [0, 2, 1, 5, 6] rfl) (fu_s (lo := 0) (ti_inc ez4279 h3763 (by decide) (by decide) (by decide) (by decide)) (by decide) hm23)
                · skip
                  have n4281 : v5_40.toInt ≤ v3_23.toInt := (i_nlt c4275)
                  refine lv_goto (tgt := 90) hx hb dX10_haunts_81 (by decide) ?_
                  obtain ⟨z4282, ez4282⟩ : ∃ z9 : Int32, z9 = v4_23 + Int32.ofInt 1 := ⟨_, rfl⟩
                  have h4283 : Iv 1 6 z4282 := iv_inc ez4282 h3763 (by decide) (by decide) (by decide) (by decide) (by decide) (by decide)
                  refine lv_iinc (v := z4282) (lv' := [(4, .int z4282), (6, .int v6_40), (5, .int v5_40), (3, .int v3_23), (2, .int v2_23), (0, .ref (a 0)), (1, .int p0)]) hx hb dX10_haunts_90 hl (k := 2) rfl ez4282.symm (by decide) rfl (fun ls hl => ?_)
                  refine lv_goto (tgt := 23) hx hb dX10_haunts_93 (by decide) ?_
                  exact ih23 z4282 v3_23 v2_23 _ (iv_mono (c := 0) (d := 6) h4283 (by decide) (by decide)) iv3_23 iv2_23 (lv_sub hl [0, 3, 4, 5, 6] rfl) (fu_s (lo := 0) (ti_inc ez4282 h3763 (by decide) (by decide) (by decide) (by decide)) (by decide) hm23)
              · skip
                have n4284 : v6_40.toInt ≤ (40 : Int32).toInt := (i_nlt c4272)
                have h4285 : Iv 0 40 v6_40 := le_l iv6_40 n4284 (iv_c (by decide) : Iv 40 40 40) (by decide)
                refine lv_iload hx hb dX10_haunts_47 (lv_at hl 1 rfl) ?_
                refine lv_aload_n hx hb dX10_haunts_49 rfl (lv_at hl 5 rfl) ?_
                refine va_get (D := D) (ci := 10) (v := .ref (a 16)) (C := RX10) (T := TX10) (N := 38) hx hb hT in_X10 hown hK hP 0 mw_0 rfl 30 (by decide) (hT _ t1292) (fun _ h9 => h9) rfl dX10_haunts_50 ?_
                refine lv_iload hx hb dX10_haunts_53 (lv_at hl 0 rfl) ?_
                refine va_iald hx hb hK hP 16 0 mw_16 rfl (iv_in h4285 (by decide) (by decide)) dX10_haunts_55 ?_
                refine lv_topi (fun z4286 ez4286 => ?_)
                refine lv_iload hx hb dX10_haunts_56 (lv_at hl 2 rfl) ?_
                refine lv_icmp_ne (tgt := 65) hx hb dX10_haunts_58 (by decide) (fun c4287 => ?_) (fun c4287 => ?_)
                · skip
                  refine lv_iconst (v := 0) hx hb dX10_haunts_65 (by decide) ?_
                  refine lv_iadd hx hb dX10_haunts_66 ?_
                  refine lv_topi (fun z4288 ez4288 => ?_)
                  refine lv_istore (lv' := [(5, .int z4288), (6, .int v6_40), (4, .int v4_23), (3, .int v3_23), (2, .int v2_23), (0, .ref (a 0)), (1, .int p0)]) hx hb dX10_haunts_67 hl (by decide) rfl (fun ls hl => ?_)
                  obtain ⟨z4289, ez4289⟩ : ∃ z9 : Int32, z9 = v6_40 + Int32.ofInt 1 := ⟨_, rfl⟩
                  have h4290 : Iv 1 41 z4289 := iv_inc ez4289 h4285 (by decide) (by decide) (by decide) (by decide) (by decide) (by decide)
                  refine lv_iinc (v := z4289) (lv' := [(6, .int z4289), (5, .int z4288), (4, .int v4_23), (3, .int v3_23), (2, .int v2_23), (0, .ref (a 0)), (1, .int p0)]) hx hb dX10_haunts_69 hl (k := 1) rfl ez4289.symm (by decide) rfl (fun ls hl => ?_)
                  refine lv_goto (tgt := 40) hx hb dX10_haunts_72 (by decide) ?_
                  exact ih40 z4289 z4288 _ (iv_mono (c := 0) (d := 41) h4290 (by decide) (by decide)) (lv_sub hl [0, 1, 2, 3, 4, 5, 6] rfl) (fu_s (lo := 0) (ti_inc ez4289 h4285 (by decide) (by decide) (by decide) (by decide)) (by decide) hm40)
                · skip
                  have h4291 : Iv 0 5 z4286 := eq_l c4287 h3763
                  refine lv_iconst (v := 1) hx hb dX10_haunts_61 (by decide) ?_
                  refine lv_goto (tgt := 66) hx hb dX10_haunts_62 (by decide) ?_
                  refine lv_iadd hx hb dX10_haunts_66 ?_
                  refine lv_topi (fun z4292 ez4292 => ?_)
                  refine lv_istore (lv' := [(5, .int z4292), (6, .int v6_40), (4, .int v4_23), (3, .int v3_23), (2, .int v2_23), (0, .ref (a 0)), (1, .int p0)]) hx hb dX10_haunts_67 hl (by decide) rfl (fun ls hl => ?_)
                  obtain ⟨z4293, ez4293⟩ : ∃ z9 : Int32, z9 = v6_40 + Int32.ofInt 1 := ⟨_, rfl⟩
                  have h4294 : Iv 1 41 z4293 := iv_inc ez4293 h4285 (by decide) (by decide) (by decide) (by decide) (by decide) (by decide)
                  refine lv_iinc (v := z4293) (lv' := [(6, .int z4293), (5, .int z4292), (4, .int v4_23), (3, .int v3_23), (2, .int v2_23), (0, .ref (a 0)), (1, .int p0)]) hx hb dX10_haunts_69 hl (k := 1) rfl ez4293.symm (by decide) rfl (fun ls hl => ?_)
                  refine lv_goto (tgt := 40) hx hb dX10_haunts_72 (by decide) ?_
                  exact ih40 z4293 z4292 _ (iv_mono (c := 0) (d := 41) h4294 (by decide) (by decide)) (lv_sub hl [0, 1, 2, 3, 4, 5, 6] rfl) (fu_s (lo := 0) (ti_inc ez4293 h4285 (by decide) (by decide) (by decide) (by decide)) (by decide) hm40)
          exact lp40 42 0 0 _ (iv_mono (c := 0) (d := 41) (iv_c (by decide) : Iv 0 0 0) (by decide) (by decide)) (lv_sub hl [0, 1, 2, 3, 4, 5, 6] rfl) (fu_i (iv_mono (c := 0) (d := 41) (iv_c (by decide) : Iv 0 0 0) (by decide) (by decide)) (by decide))
    exact lp23 7 0 0 (-1) _ (iv_mono (c := 0) (d := 6) (iv_c (by decide) : Iv 0 0 0) (by decide) (by decide)) (iv_mono (c := 0) (d := 2147483647) (iv_c (by decide) : Iv 0 0 0) (by decide) (by decide)) (iv_mono (c := (-1)) (d := 5) (iv_c (by decide) : Iv (-1) (-1) (-1)) (by decide) (by decide)) (lv_sub hl [0, 1, 2, 3, 4] rfl) (fu_i (iv_mono (c := 0) (d := 6) (iv_c (by decide) : Iv 0 0 0) (by decide) (by decide)) (by decide))
  · skip
    have g4295 := g9
    refine lv_if_ne (tgt := 11) hx hb dX10_haunts_5 (by decide) (fun c4296 => ?_) (fun c4296 => ?_)
    · first | exact absurd c4296 (by decide) | exact absurd (by decide) c4296
    refine lv_bipush (v := (-2)) hx hb dX10_haunts_8 (by decide) ?_
    rw [hQ]
    exact W.iret (v := (-2)) hx hb hr (fun t ht hW => ⟨⟨(-2), st, rfl, ⟨hB, fr_rf, ⟨(iv_mono (c := (-2)) (d := 5) (iv_c (by decide) : Iv (-2) (-2) (-2)) (by decide) (by decide)), trivial⟩⟩, by rw [ht]; exact hP, va_K.moved hW.alike (hK.sub (tys' := []) [] rfl), by rw [hAe]; exact hD⟩, by rw [hAe]; exact hS.F ht⟩) hS.2.2 dX10_haunts_10
set_option maxHeartbeats 4000000 in
set_option maxRecDepth 100000 in
theorem m_X10_wider (l : Launch) (D : va_G) (k : Nat → ClassId) (a : Nat → Nat) (st : CT) (sl : CL) (p0 : Int32) (sz : Nat) (hB : MB st)  (hw : WOK (st 1)) : Met l yX10_wider (.code yX10_wider cX10_wider 5 (some .int) :: TB) (rmk 2) (va_Pc [.ref (a 0), .int p0] (PW D k sz (MWS k a st sl))) (vp_Si (fun r => (True))) 0 0 (fun _ => False) := by
  refine Met.ofW (cc := cX10_wider) (maxL := 5) (ret := (some .int)) (by decide) rfl ?_
  intro p e s m args below meth c s₁ B hml hv
  obtain ⟨rfl, hsz, hP, hK, hD0, hN⟩ := hv
  have hx := B.exec
  have hb := B.bytes
  have hr := B.returns
  have hT : ∀ w9 ∈ TB, w9.before ([.ref (a 0), .int p0] : List Value).toArray s = true := fun w9 h => atoms_spec (ws := .code yX10_wider cX10_wider 5 (some .int) :: TB) B.pre w9 (List.mem_cons_of_mem _ h)
  have hown : s.vm.findClass RX10 = some m.cls := findClass_of_methodNamed B.named
  have S : CallFix p m c cX10_wider 5 s _ TB RX10 := ⟨hx, hb, hml, hown, hT⟩
  subst hsz
  have hl := lv_entry ([.ref (a 0), .int p0]) (n := 5) (Nat.le_of_ble_eq_true rfl)
  rw [lg_entry_eq]
  generalize (lg_sl ([.ref (a 0), .int p0]) ++ List.replicate (5 - (lg_sl ([.ref (a 0), .int p0])).length) Slot.unset).toArray = ls at hl ⊢
  have hl : lv_has ls 5 [(0, .ref (a 0)), (1, .int p0)] := hl
  refine nameQ (fun Q hQ => ?_)
  refine lv_iload_n hx hb dX10_wider_0 rfl (lv_at hl 1 rfl) ?_
  refine lv_istore_n (lv' := [(2, .int p0), (0, .ref (a 0)), (1, .int p0)]) hx hb dX10_wider_1 rfl hl (by decide) rfl (fun ls hl => ?_)
  refine lv_iconst (v := 0) hx hb dX10_wider_2 (by decide) ?_
  refine lv_istore_n (lv' := [(3, .int 0), (2, .int p0), (0, .ref (a 0)), (1, .int p0)]) hx hb dX10_wider_3 rfl hl (by decide) rfl (fun ls hl => ?_)
  have lp4 : ∀ (n9_4 : Nat) (v3_4 : Int32) (v2_4 : Int32) (ls : Array Slot), Iv 0 8 v3_4 → lv_has ls 5 [(3, .int v3_4), (2, .int v2_4), (0, .ref (a 0)), (1, .int p0)] → (8 : Int) - v3_4.toInt < (n9_4 : Int) → W p l e (rmk 2) s m ([.ref (a 0), .int p0] : List Value).toArray below meth c s.heap [] 0 0 Q (F0 m 4 ls []) := by
    clear hl
    intro n9_4
    induction n9_4 with
    | zero =>
      intro v3_4 v2_4 ls iv3_4 hl hm4
      exact (fu_0 iv3_4 hm4).elim
    | succ n9_4 ih4 =>
      intro v3_4 v2_4 ls iv3_4 hl hm4
      refine lv_iload_n hx hb dX10_wider_4 rfl (lv_at hl 0 rfl) ?_
      refine lv_aload_n hx hb dX10_wider_5 rfl (lv_at hl 2 rfl) ?_
      refine va_get (D := D) (ci := 10) (v := .ref (a 1)) (C := RX10) (T := TX10) (N := 38) hx hb hT in_X10 hown hK hP 0 mw_0 rfl 1 (by decide) (hT _ t1263) (fun _ h9 => h9) rfl dX10_wider_6 ?_
      refine lv_iconst (v := 2) hx hb dX10_wider_9 (by decide) ?_
      refine va_iald hx hb hK hP 1 0 mw_1 rfl (by unfold vp_in; decide) dX10_wider_10 ?_
      refine k_top (y := (st 1 2)) rfl ?_
      have h1009 : Iv 0 8 (st 1 2) := (tok_at (hw).1 2 0 8 (by decide) (by decide) (by decide))
      refine lv_icmp_ge (tgt := 68) hx hb dX10_wider_11 (by decide) (fun c1010 => ?_) (fun c1010 => ?_)
      · skip
        have n1011 : (st 1 2).toInt ≤ v3_4.toInt := (i_le c1010)
        refine lv_iload_n hx hb dX10_wider_68 rfl (lv_at hl 1 rfl) ?_
        rw [hQ]
        exact W.iret (v := v2_4) hx hb hr (fun t ht hW => ⟨v2_4, rfl, trivial, ht⟩) (fun _ h9 => by cases h9) dX10_wider_69
      · skip
        have n1012 : v3_4.toInt < (st 1 2).toInt := (i_nle c1010)
        have h1013 : Iv 0 7 v3_4 := lt_l iv3_4 n1012 h1009 (by decide)
        have h1014 : Iv 1 8 (st 1 2) := lt_r iv3_4 n1012 h1009 (by decide)
        refine lv_iconst (v := 0) hx hb dX10_wider_14 (by decide) ?_
        refine lv_istore (lv' := [(4, .int 0), (3, .int v3_4), (2, .int v2_4), (0, .ref (a 0)), (1, .int p0)]) hx hb dX10_wider_15 hl (by decide) rfl (fun ls hl => ?_)
        have lp17 : ∀ (n9_17 : Nat) (v4_17 : Int32) (v2_17 : Int32) (ls : Array Slot), Iv 0 2 v4_17 → lv_has ls 5 [(4, .int v4_17), (3, .int v3_4), (2, .int v2_17), (0, .ref (a 0)), (1, .int p0)] → (2 : Int) - v4_17.toInt < (n9_17 : Int) → W p l e (rmk 2) s m ([.ref (a 0), .int p0] : List Value).toArray below meth c s.heap [] 0 0 Q (F0 m 17 ls []) := by
          clear hl
          intro n9_17
          induction n9_17 with
          | zero =>
            intro v4_17 v2_17 ls iv4_17 hl hm17
            exact (fu_0 iv4_17 hm17).elim
          | succ n9_17 ih17 =>
            intro v4_17 v2_17 ls iv4_17 hl hm17
            refine lv_iload hx hb dX10_wider_17 (lv_at hl 0 rfl) ?_
            refine lv_iconst (v := 2) hx hb dX10_wider_19 (by decide) ?_
            refine lv_icmp_ge (tgt := 62) hx hb dX10_wider_20 (by decide) (fun c1092 => ?_) (fun c1092 => ?_)
            · skip
              have n1093 : (2 : Int32).toInt ≤ v4_17.toInt := (i_le c1092)
              have h1094 : Iv 2 2 v4_17 := le_r (iv_c (by decide) : Iv 2 2 2) n1093 iv4_17 (by decide)
              obtain ⟨z1095, ez1095⟩ : ∃ z9 : Int32, z9 = v3_4 + Int32.ofInt 1 := ⟨_, rfl⟩
              have h1096 : Iv 1 8 z1095 := iv_inc ez1095 h1013 (by decide) (by decide) (by decide) (by decide) (by decide) (by decide)
              refine lv_iinc (v := z1095) (lv' := [(3, .int z1095), (4, .int v4_17), (2, .int v2_17), (0, .ref (a 0)), (1, .int p0)]) hx hb dX10_wider_62 hl (k := 1) rfl ez1095.symm (by decide) rfl (fun ls hl => ?_)
              refine lv_goto (tgt := 4) hx hb dX10_wider_65 (by decide) ?_
              exact ih4 z1095 v2_17 _ (iv_mono (c := 0) (d := 8) h1096 (by decide) (by decide)) (lv_sub hl [0, 2, 3, 4] rfl) (fu_s (lo := 0) (ti_inc ez1095 h1013 (by decide) (by decide) (by decide) (by decide)) (by decide) hm4)
            · skip
              have n1097 : v4_17.toInt < (2 : Int32).toInt := (i_nle c1092)
              have h1098 : Iv 0 1 v4_17 := lt_l iv4_17 n1097 (iv_c (by decide) : Iv 2 2 2) (by decide)
              refine lv_iload_n hx hb dX10_wider_23 rfl (lv_at hl 2 rfl) ?_
              refine lv_iload_n hx hb dX10_wider_24 rfl (lv_at hl 4 rfl) ?_
              refine lv_aload_n hx hb dX10_wider_25 rfl (lv_at hl 3 rfl) ?_
              refine lv_iload_n hx hb dX10_wider_26 rfl (lv_at hl 1 rfl) ?_
              refine lv_iload hx hb dX10_wider_27 (lv_at hl 0 rfl) ?_
              refine ro_V (As := [.int v3_4, .int v4_17]) (rest := [.int p0, .int v2_17]) S (m_X10_end l D k a st sl  v3_4 v4_17 _  hB h1013 (iv_mono (c := 0) (d := 2) h1098 (by decide) (by decide)) hw) lkX10_89 ok_X10_end ⟨rfl, rfl, Nat.le_of_ble_eq_true rfl, Nat.le_of_ble_eq_true rfl⟩ (pw_V (ci := 10) (q0 := 0) hK hN rfl mw_0 hP hD0) rfl hl.1 rfl (Nat.le_of_ble_eq_true rfl) ⟨Nat.zero_le _, Nat.zero_le _⟩ dX10_wider_29 (fun r1099 er1099 => ?_)
              have k1100 := er1099
              have h1101 : Iv 0 5 r1099 := k1100.1 h1098
              refine ro_S (As := [.int p0, .int r1099]) (rest := [.int v2_17]) S (m_X10_bit l D k a st sl  p0 r1099 _  hB  ) lkX10_193 ok_X10_bit ⟨rfl, rfl, Nat.le_of_ble_eq_true rfl, Nat.le_of_ble_eq_true rfl⟩ (pw_S hK hN hP hD0) rfl hl.1 rfl (Nat.le_of_ble_eq_true rfl) ⟨Nat.zero_le _, Nat.zero_le _⟩ dX10_wider_32 (fun r1102 er1102 => ?_)
              have h1103 : Iv 0 1 r1102 := er1102.1
              have k1104 := er1102.2
              refine lv_iconst (v := 1) hx hb dX10_wider_35 (by decide) ?_
              refine lv_icmp_ne (tgt := 53) hx hb dX10_wider_36 (by decide) (fun c1105 => ?_) (fun c1105 => ?_)
              · skip
                have h1106 : Iv 0 0 r1102 := ne_hi h1103 (show ¬ r1102 = 1 from c1105) (by decide) (by decide)
                refine lv_iconst (v := 0) hx hb dX10_wider_53 (by decide) ?_
                refine lv_ior hx hb dX10_wider_54 ?_
                refine lv_topi (fun z1107 ez1107 => ?_)
                refine lv_istore_n (lv' := [(2, .int z1107), (4, .int v4_17), (3, .int v3_4), (0, .ref (a 0)), (1, .int p0)]) hx hb dX10_wider_55 rfl hl (by decide) rfl (fun ls hl => ?_)
                obtain ⟨z1108, ez1108⟩ : ∃ z9 : Int32, z9 = v4_17 + Int32.ofInt 1 := ⟨_, rfl⟩
                have h1109 : Iv 1 2 z1108 := iv_inc ez1108 h1098 (by decide) (by decide) (by decide) (by decide) (by decide) (by decide)
                refine lv_iinc (v := z1108) (lv' := [(4, .int z1108), (2, .int z1107), (3, .int v3_4), (0, .ref (a 0)), (1, .int p0)]) hx hb dX10_wider_56 hl (k := 1) rfl ez1108.symm (by decide) rfl (fun ls hl => ?_)
                refine lv_goto (tgt := 17) hx hb dX10_wider_59 (by decide) ?_
                exact ih17 z1108 z1107 _ (iv_mono (c := 0) (d := 2) h1109 (by decide) (by decide)) (lv_sub hl [0, 2, 1, 3, 4] rfl) (fu_s (lo := 0) (ti_inc ez1108 h1098 (by decide) (by decide) (by decide) (by decide)) (by decide) hm17)
              · skip
                have h1110 : Iv 1 1 r1102 := eq_l c1105 (iv_c (by decide) : Iv 1 1 1)
                refine lv_iconst (v := 1) hx hb dX10_wider_39 (by decide) ?_
                refine lv_aload_n hx hb dX10_wider_40 rfl (lv_at hl 3 rfl) ?_
                refine lv_iload_n hx hb dX10_wider_41 rfl (lv_at hl 1 rfl) ?_
                refine lv_iconst (v := 1) hx hb dX10_wider_42 (by decide) ?_
                refine lv_iload hx hb dX10_wider_43 (lv_at hl 0 rfl) ?_
                refine lv_isub hx hb dX10_wider_45 ?_
                refine lv_topi (fun z1111 ez1111 => ?_)
                have h1112 : Iv 0 1 z1111 := iv_sub ez1111 (iv_c (by decide) : Iv 1 1 1) h1098 (by decide) (by decide) (by decide) (by decide)
                refine ro_V (As := [.int v3_4, .int z1111]) (rest := [.int 1, .int v2_17]) S (m_X10_end l D k a st sl  v3_4 z1111 _  hB h1013 (iv_mono (c := 0) (d := 2) h1112 (by decide) (by decide)) hw) lkX10_89 ok_X10_end ⟨rfl, rfl, Nat.le_of_ble_eq_true rfl, Nat.le_of_ble_eq_true rfl⟩ (pw_V (ci := 10) (q0 := 0) hK hN rfl mw_0 hP hD0) rfl hl.1 rfl (Nat.le_of_ble_eq_true rfl) ⟨Nat.zero_le _, Nat.zero_le _⟩ dX10_wider_46 (fun r1113 er1113 => ?_)
                have k1114 := er1113
                have h1115 : Iv 0 5 r1113 := k1114.1 h1112
                refine lv_ishl hx hb dX10_wider_49 ?_
                refine lv_topi (fun z1116 ez1116 => ?_)
                have h1117 : Iv 1 32 z1116 := iv_shl 5 ez1116 h1115 (by decide) (by decide) (by decide)
                refine lv_goto (tgt := 54) hx hb dX10_wider_50 (by decide) ?_
                refine lv_ior hx hb dX10_wider_54 ?_
                refine lv_topi (fun z1118 ez1118 => ?_)
                refine lv_istore_n (lv' := [(2, .int z1118), (4, .int v4_17), (3, .int v3_4), (0, .ref (a 0)), (1, .int p0)]) hx hb dX10_wider_55 rfl hl (by decide) rfl (fun ls hl => ?_)
                obtain ⟨z1119, ez1119⟩ : ∃ z9 : Int32, z9 = v4_17 + Int32.ofInt 1 := ⟨_, rfl⟩
                have h1120 : Iv 1 2 z1119 := iv_inc ez1119 h1098 (by decide) (by decide) (by decide) (by decide) (by decide) (by decide)
                refine lv_iinc (v := z1119) (lv' := [(4, .int z1119), (2, .int z1118), (3, .int v3_4), (0, .ref (a 0)), (1, .int p0)]) hx hb dX10_wider_56 hl (k := 1) rfl ez1119.symm (by decide) rfl (fun ls hl => ?_)
                refine lv_goto (tgt := 17) hx hb dX10_wider_59 (by decide) ?_
                exact ih17 z1119 z1118 _ (iv_mono (c := 0) (d := 2) h1120 (by decide) (by decide)) (lv_sub hl [0, 2, 1, 3, 4] rfl) (fu_s (lo := 0) (ti_inc ez1119 h1098 (by decide) (by decide) (by decide) (by decide)) (by decide) hm17)
        exact lp17 3 0 v2_4 _ (iv_mono (c := 0) (d := 2) (iv_c (by decide) : Iv 0 0 0) (by decide) (by decide)) (lv_sub hl [0, 1, 2, 3, 4] rfl) (fu_i (iv_mono (c := 0) (d := 2) (iv_c (by decide) : Iv 0 0 0) (by decide) (by decide)) (by decide))
  exact lp4 9 0 p0 _ (iv_mono (c := 0) (d := 8) (iv_c (by decide) : Iv 0 0 0) (by decide) (by decide)) (lv_sub hl [0, 1, 2, 3] rfl) (fu_i (iv_mono (c := 0) (d := 8) (iv_c (by decide) : Iv 0 0 0) (by decide) (by decide)) (by decide))
set_option maxHeartbeats 4000000 in
set_option maxRecDepth 100000 in
theorem m_X10_meetOf (l : Launch) (D : va_G) (k : Nat → ClassId) (a : Nat → Nat) (st : CT) (sl : CL) (p0 : Int32) (p1 : Int32) (sz : Nat) (hB : MB st) (hp0 : Iv 0 2 p0) (hw : WOK (st 1)) : Met l yX10_meetOf (.code yX10_meetOf cX10_meetOf 5 (some .int) :: TB) (rmw 9 0 0) (va_Pc [.ref (a 0), .int p0, .int p1] (PW D k sz (MWS k a st sl))) (QI D (S := CT) (fun r u => MB u ∧ FR [7, 9, 8, 10, 11, 16] st u ∧ (Iv (-1) 40 r ∧ (True))) (fun u => MWS k a u sl) (fun _ => []) (MWS k a st sl) sz) 0 0 (va_A (MWS k a st sl) sz) := by
  refine Met.ofW (cc := cX10_meetOf) (maxL := 5) (ret := (some .int)) (by decide) rfl ?_
  intro p e s m args below meth c s₁ B hml hv
  obtain ⟨rfl, hsz, hP, hK, hD0, hN⟩ := hv
  have hx := B.exec
  have hb := B.bytes
  have hr := B.returns
  have hT : ∀ w9 ∈ TB, w9.before ([.ref (a 0), .int p0, .int p1] : List Value).toArray s = true := fun w9 h => atoms_spec (ws := .code yX10_meetOf cX10_meetOf 5 (some .int) :: TB) B.pre w9 (List.mem_cons_of_mem _ h)
  have hown : s.vm.findClass RX10 = some m.cls := findClass_of_methodNamed B.named
  have S : CallFix p m c cX10_meetOf 5 s _ TB RX10 := ⟨hx, hb, hml, hown, hT⟩
  subst hsz
  have hD := hD0.self (sz := s.heap.size)
  generalize hAe : va_A (MWS k a st sl) s.heap.size = A at hD ⊢
  have hA : ∀ q : Nat, s.heap.size ≤ q → A q := fun q h => by rw [← hAe]; exact Or.inr h
  have hS : va_S A s.heap s.heap [] := va_S.rf
  have hl := lv_entry ([.ref (a 0), .int p0, .int p1]) (n := 5) (Nat.le_of_ble_eq_true rfl)
  rw [lg_entry_eq]
  generalize (lg_sl ([.ref (a 0), .int p0, .int p1]) ++ List.replicate (5 - (lg_sl ([.ref (a 0), .int p0, .int p1])).length) Slot.unset).toArray = ls at hl ⊢
  have hl : lv_has ls 5 [(0, .ref (a 0)), (1, .int p0), (2, .int p1)] := hl
  refine nameQ (fun Q hQ => ?_)
  refine lv_aload_n hx hb dX10_meetOf_0 rfl (lv_at hl 0 rfl) ?_
  refine lv_iload_n hx hb dX10_meetOf_1 rfl (lv_at hl 1 rfl) ?_
  refine ca_v hP hD hS hA (fun hDc => run_V (mc := 0) (ms := 0) (As := [.int p0]) (rest := []) S (m_X10_goRoam l D k a st sl  p0 _  hB hp0 hw) lkX10_349 ok_X10_goRoam ⟨rfl, rfl, Nat.le_of_ble_eq_true rfl, Nat.le_of_ble_eq_true rfl⟩ (pw_V (ci := 10) (q0 := 0) hK hN rfl mw_0 hP hDc) rfl hl.1 rfl (Nat.le_of_ble_eq_true rfl) ⟨Nat.zero_le _, Nat.zero_le _⟩ dX10_meetOf_2) (fun s1 H9 locs9 hs1 hP9 hD9 hS9 => ?_)
  clear hP hD hS
  have hS := hS9
  have hP := hP9
  have hD := hD9
  clear hP9 hD9 hS9
  obtain ⟨hBs1, gs1, fs1⟩ := hs1
  have hFs1 : FR [7, 9, 8, 10, 11, 16] st s1 := fr_ca fr_rf gs1 (sub_1 (List.mem_of_getElem? (i := 0) rfl) (sub_1 (List.mem_of_getElem? (i := 1) rfl) (sub_1 (List.mem_of_getElem? (i := 2) rfl) (sub_1 (List.mem_of_getElem? (i := 3) rfl) (sub_1 (List.mem_of_getElem? (i := 4) rfl) (sub_1 (List.mem_of_getElem? (i := 5) rfl) sub_0))))))
  refine lv_iconst (v := 1) hx hb dX10_meetOf_5 (by decide) ?_
  refine lv_iload_n hx hb dX10_meetOf_6 rfl (lv_at hl 2 rfl) ?_
  refine lv_ishl hx hb dX10_meetOf_7 ?_
  refine lv_topi (fun z3 ez3 => ?_)
  refine lv_istore_n (lv' := [(3, .int z3), (0, .ref (a 0)), (1, .int p0), (2, .int p1)]) hx hb dX10_meetOf_8 rfl hl (by decide) rfl (fun ls hl => ?_)
  refine lv_iconst (v := 0) hx hb dX10_meetOf_9 (by decide) ?_
  refine lv_istore (lv' := [(4, .int 0), (3, .int z3), (0, .ref (a 0)), (1, .int p0), (2, .int p1)]) hx hb dX10_meetOf_10 hl (by decide) rfl (fun ls hl => ?_)
  have lp12 : ∀ (n9_12 : Nat) (v4_12 : Int32) (v3_12 : Int32) (ls : Array Slot), Iv 0 41 v4_12 → lv_has ls 5 [(4, .int v4_12), (3, .int v3_12), (0, .ref (a 0)), (1, .int p0), (2, .int p1)] → (41 : Int) - v4_12.toInt < (n9_12 : Int) → W p l e (rmw 9 0 0) s m ([.ref (a 0), .int p0, .int p1] : List Value).toArray below meth c H9 locs9 0 0 Q (F0 m 12 ls []) := by
    clear hl
    intro n9_12
    induction n9_12 with
    | zero =>
      intro v4_12 v3_12 ls iv4_12 hl hm12
      exact (fu_0 iv4_12 hm12).elim
    | succ n9_12 ih12 =>
      intro v4_12 v3_12 ls iv4_12 hl hm12
      refine lv_iload hx hb dX10_meetOf_12 (lv_at hl 0 rfl) ?_
      refine lv_bipush (v := 40) hx hb dX10_meetOf_14 (by decide) ?_
      refine lv_icmp_gt (tgt := 49) hx hb dX10_meetOf_16 (by decide) (fun c240 => ?_) (fun c240 => ?_)
      · skip
        have n241 : (40 : Int32).toInt < v4_12.toInt := (i_lt c240)
        have h242 : Iv 41 41 v4_12 := lt_r (iv_c (by decide) : Iv 40 40 40) n241 iv4_12 (by decide)
        refine lv_iconst (v := (-1)) hx hb dX10_meetOf_49 (by decide) ?_
        rw [hQ]
        exact W.iret (v := (-1)) hx hb hr (fun t ht hW => ⟨⟨(-1), s1, rfl, ⟨hBs1, hFs1, ⟨(iv_mono (c := (-1)) (d := 40) (iv_c (by decide) : Iv (-1) (-1) (-1)) (by decide) (by decide)), trivial⟩⟩, by rw [ht]; exact hP, va_K.moved hW.alike (hK.sub (tys' := []) [] rfl), by rw [hAe]; exact hD⟩, by rw [hAe]; exact hS.F ht⟩) hS.2.2 dX10_meetOf_50
      · skip
        have n243 : v4_12.toInt ≤ (40 : Int32).toInt := (i_nlt c240)
        have h244 : Iv 0 40 v4_12 := le_l iv4_12 n243 (iv_c (by decide) : Iv 40 40 40) (by decide)
        refine lv_iload_n hx hb dX10_meetOf_19 rfl (lv_at hl 1 rfl) ?_
        refine lv_aload_n hx hb dX10_meetOf_20 rfl (lv_at hl 2 rfl) ?_
        refine va_get (D := D) (ci := 10) (v := .ref (a 16)) (C := RX10) (T := TX10) (N := 38) hx hb hT in_X10 hown hK hP 0 mw_0 rfl 30 (by decide) (hT _ t1292) (fun _ h9 => h9) rfl dX10_meetOf_21 ?_
        refine lv_iload hx hb dX10_meetOf_24 (lv_at hl 0 rfl) ?_
        refine va_iald hx hb hK hP 16 0 mw_16 rfl (iv_in h244 (by decide) (by decide)) dX10_meetOf_26 ?_
        refine lv_topi (fun z245 ez245 => ?_)
        refine ro_S (As := [.int v3_12, .int z245]) (rest := []) S (m_X10_bit l D k a s1 sl  v3_12 z245 _  hBs1  ) lkX10_193 ok_X10_bit ⟨rfl, rfl, Nat.le_of_ble_eq_true rfl, Nat.le_of_ble_eq_true rfl⟩ (pw_S hK hN hP (hD.weaken (fun _ _ _ _ => trivial))) rfl hl.1 rfl (Nat.le_of_ble_eq_true rfl) ⟨Nat.zero_le _, Nat.zero_le _⟩ dX10_meetOf_27 (fun r246 er246 => ?_)
        have h247 : Iv 0 1 r246 := er246.1
        have k248 := er246.2
        refine lv_iconst (v := 1) hx hb dX10_meetOf_30 (by decide) ?_
        refine lv_icmp_ne (tgt := 37) hx hb dX10_meetOf_31 (by decide) (fun c249 => ?_) (fun c249 => ?_)
        · skip
          have h250 : Iv 0 0 r246 := ne_hi h247 (show ¬ r246 = 1 from c249) (by decide) (by decide)
          refine lv_aload_n hx hb dX10_meetOf_37 rfl (lv_at hl 2 rfl) ?_
          refine lv_iload_n hx hb dX10_meetOf_38 rfl (lv_at hl 1 rfl) ?_
          refine ro_V (As := [.int v3_12]) (rest := []) S (m_X10_wider l D k a s1 sl  v3_12 _  hBs1  (wok_of (hFs1 1 (nm_1 (by decide) (nm_1 (by decide) (nm_1 (by decide) (nm_1 (by decide) (nm_1 (by decide) (nm_1 (by decide) nm_0))))))) hw)) lkX10_352 ok_X10_wider ⟨rfl, rfl, Nat.le_of_ble_eq_true rfl, Nat.le_of_ble_eq_true rfl⟩ (pw_V (ci := 10) (q0 := 0) hK hN rfl mw_0 hP (hD.weaken (fun _ _ _ _ => trivial))) rfl hl.1 rfl (Nat.le_of_ble_eq_true rfl) ⟨Nat.zero_le _, Nat.zero_le _⟩ dX10_meetOf_39 (fun r251 er251 => ?_)
          refine lv_istore_n (lv' := [(3, .int r251), (4, .int v4_12), (0, .ref (a 0)), (1, .int p0), (2, .int p1)]) hx hb dX10_meetOf_42 rfl hl (by decide) rfl (fun ls hl => ?_)
          obtain ⟨z252, ez252⟩ : ∃ z9 : Int32, z9 = v4_12 + Int32.ofInt 1 := ⟨_, rfl⟩
          have h253 : Iv 1 41 z252 := iv_inc ez252 h244 (by decide) (by decide) (by decide) (by decide) (by decide) (by decide)
          refine lv_iinc (v := z252) (lv' := [(4, .int z252), (3, .int r251), (0, .ref (a 0)), (1, .int p0), (2, .int p1)]) hx hb dX10_meetOf_43 hl (k := 1) rfl ez252.symm (by decide) rfl (fun ls hl => ?_)
          refine lv_goto (tgt := 12) hx hb dX10_meetOf_46 (by decide) ?_
          exact ih12 z252 r251 _ (iv_mono (c := 0) (d := 41) h253 (by decide) (by decide)) (lv_sub hl [0, 1, 2, 3, 4] rfl) (fu_s (lo := 0) (ti_inc ez252 h244 (by decide) (by decide) (by decide) (by decide)) (by decide) hm12)
        · skip
          have h254 : Iv 1 1 r246 := eq_l c249 (iv_c (by decide) : Iv 1 1 1)
          refine lv_iload hx hb dX10_meetOf_34 (lv_at hl 0 rfl) ?_
          rw [hQ]
          exact W.iret (v := v4_12) hx hb hr (fun t ht hW => ⟨⟨v4_12, s1, rfl, ⟨hBs1, hFs1, ⟨(iv_mono (c := (-1)) (d := 40) h244 (by decide) (by decide)), trivial⟩⟩, by rw [ht]; exact hP, va_K.moved hW.alike (hK.sub (tys' := []) [] rfl), by rw [hAe]; exact hD⟩, by rw [hAe]; exact hS.F ht⟩) hS.2.2 dX10_meetOf_36
  exact lp12 42 0 z3 _ (iv_mono (c := 0) (d := 41) (iv_c (by decide) : Iv 0 0 0) (by decide) (by decide)) (lv_sub hl [0, 1, 2, 3, 4] rfl) (fu_i (iv_mono (c := 0) (d := 41) (iv_c (by decide) : Iv 0 0 0) (by decide) (by decide)) (by decide))
set_option maxHeartbeats 4000000 in
set_option maxRecDepth 100000 in
theorem m_X10_meet (l : Launch) (D : va_G) (k : Nat → ClassId) (a : Nat → Nat) (st : CT) (sl : CL) (p0 : Int32) (p1 : Int32) (sz : Nat) (hB : MB st)  (hw : WOK (st 1)) : Met l yX10_meet (.code yX10_meet cX10_meet 3 (some .int) :: TB) (rmw 10 0 0) (va_Pc [.ref (a 0), .int p0, .int p1] (PW D k sz (MWS k a st sl))) (QI D (S := CT) (fun r u => MB u ∧ FR [7, 9, 8, 10, 11, 16] st u ∧ (Iv (-2) 40 r ∧ (True))) (fun u => MWS k a u sl) (fun _ => []) (MWS k a st sl) sz) 0 0 (va_A (MWS k a st sl) sz) := by
  refine Met.ofW (cc := cX10_meet) (maxL := 3) (ret := (some .int)) (by decide) rfl ?_
  intro p e s m args below meth c s₁ B hml hv
  obtain ⟨rfl, hsz, hP, hK, hD0, hN⟩ := hv
  have hx := B.exec
  have hb := B.bytes
  have hr := B.returns
  have hT : ∀ w9 ∈ TB, w9.before ([.ref (a 0), .int p0, .int p1] : List Value).toArray s = true := fun w9 h => atoms_spec (ws := .code yX10_meet cX10_meet 3 (some .int) :: TB) B.pre w9 (List.mem_cons_of_mem _ h)
  have hown : s.vm.findClass RX10 = some m.cls := findClass_of_methodNamed B.named
  have S : CallFix p m c cX10_meet 3 s _ TB RX10 := ⟨hx, hb, hml, hown, hT⟩
  subst hsz
  have hD := hD0.self (sz := s.heap.size)
  generalize hAe : va_A (MWS k a st sl) s.heap.size = A at hD ⊢
  have hA : ∀ q : Nat, s.heap.size ≤ q → A q := fun q h => by rw [← hAe]; exact Or.inr h
  have hS : va_S A s.heap s.heap [] := va_S.rf
  have hl := lv_entry ([.ref (a 0), .int p0, .int p1]) (n := 3) (Nat.le_of_ble_eq_true rfl)
  rw [lg_entry_eq]
  generalize (lg_sl ([.ref (a 0), .int p0, .int p1]) ++ List.replicate (3 - (lg_sl ([.ref (a 0), .int p0, .int p1])).length) Slot.unset).toArray = ls at hl ⊢
  have hl : lv_has ls 3 [(0, .ref (a 0)), (1, .int p0), (2, .int p1)] := hl
  refine nameQ (fun Q hQ => ?_)
  refine lv_aload_n hx hb dX10_meet_0 rfl (lv_at hl 0 rfl) ?_
  refine lv_iload_n hx hb dX10_meet_1 rfl (lv_at hl 1 rfl) ?_
  refine ro_V (As := [.int p0]) (rest := []) S (m_X10_isCart l D k a st sl  p0 _  hB  hw) lkX10_279 ok_X10_isCart ⟨rfl, rfl, Nat.le_of_ble_eq_true rfl, Nat.le_of_ble_eq_true rfl⟩ (pw_V (ci := 10) (q0 := 0) hK hN rfl mw_0 hP (hD.weaken (fun _ _ _ _ => trivial))) rfl hl.1 rfl (Nat.le_of_ble_eq_true rfl) ⟨Nat.zero_le _, Nat.zero_le _⟩ dX10_meet_2 (fun r1 er1 => ?_)
  rcases er1 with ⟨rfl, g9⟩ | ⟨rfl, g9⟩
  · skip
    have g2 := g9
    have h3 : Iv 0 2 p0 := g2.1
    refine lv_if_eq (tgt := 26) hx hb dX10_meet_5 (by decide) (fun c4 => ?_) (fun c4 => ?_)
    · first | exact absurd c4 (by decide) | exact absurd (by decide) c4
    refine lv_aload_n hx hb dX10_meet_8 rfl (lv_at hl 0 rfl) ?_
    refine lv_iload_n hx hb dX10_meet_9 rfl (lv_at hl 2 rfl) ?_
    refine lv_i2l hx hb dX10_meet_10 rfl ?_
    refine ro_V (As := [.long (p1.toInt64)]) (rest := []) S (m_X10_isPlace l D k a st sl  (p1.toInt64) _  hB  hw) lkX10_282 ok_X10_isPlace ⟨rfl, rfl, Nat.le_of_ble_eq_true rfl, Nat.le_of_ble_eq_true rfl⟩ (pw_V (ci := 10) (q0 := 0) hK hN rfl mw_0 hP (hD.weaken (fun _ _ _ _ => trivial))) rfl hl.1 rfl (Nat.le_of_ble_eq_true rfl) ⟨Nat.zero_le _, Nat.zero_le _⟩ dX10_meet_11 (fun r5 er5 => ?_)
    rcases er5 with ⟨rfl, g9⟩ | ⟨rfl, g9⟩
    · skip
      have g6 := g9
      have h7 : (0 : Int) ≤ (p1.toInt64).toInt ∧ (p1.toInt64).toInt ≤ (5 : Int) := ⟨(g6).1, (g6).2⟩
      have h8 : Iv 0 5 p1 := iv_lv h7
      refine lv_if_eq (tgt := 26) hx hb dX10_meet_14 (by decide) (fun c9 => ?_) (fun c9 => ?_)
      · first | exact absurd c9 (by decide) | exact absurd (by decide) c9
      refine lv_aload_n hx hb dX10_meet_17 rfl (lv_at hl 0 rfl) ?_
      refine lv_iload_n hx hb dX10_meet_18 rfl (lv_at hl 1 rfl) ?_
      refine lv_iload_n hx hb dX10_meet_19 rfl (lv_at hl 2 rfl) ?_
      refine ca_i hP hD hS hA (fun hDc => run_V (mc := 0) (ms := 0) (As := [.int p0, .int p1]) (rest := []) S (m_X10_meetOf l D k a st sl  p0 p1 _  hB h3 hw) lkX10_355 ok_X10_meetOf ⟨rfl, rfl, Nat.le_of_ble_eq_true rfl, Nat.le_of_ble_eq_true rfl⟩ (pw_V (ci := 10) (q0 := 0) hK hN rfl mw_0 hP hDc) rfl hl.1 rfl (Nat.le_of_ble_eq_true rfl) ⟨Nat.zero_le _, Nat.zero_le _⟩ dX10_meet_20) (fun r11 s10 H9 locs9 hs10 hP9 hD9 hS9 => ?_)
      clear hP hD hS
      have hS := hS9
      have hP := hP9
      have hD := hD9
      clear hP9 hD9 hS9
      obtain ⟨hBs10, gs10, fs10⟩ := hs10
      have hFs10 : FR [7, 9, 8, 10, 11, 16] st s10 := fr_ca fr_rf gs10 (sub_1 (List.mem_of_getElem? (i := 0) rfl) (sub_1 (List.mem_of_getElem? (i := 1) rfl) (sub_1 (List.mem_of_getElem? (i := 2) rfl) (sub_1 (List.mem_of_getElem? (i := 3) rfl) (sub_1 (List.mem_of_getElem? (i := 4) rfl) (sub_1 (List.mem_of_getElem? (i := 5) rfl) sub_0))))))
      have h12 : Iv (-1) 40 r11 := fs10.1
      refine lv_goto (tgt := 28) hx hb dX10_meet_23 (by decide) ?_
      rw [hQ]
      exact W.iret (v := r11) hx hb hr (fun t ht hW => ⟨⟨r11, s10, rfl, ⟨hBs10, hFs10, ⟨(iv_mono (c := (-2)) (d := 40) h12 (by decide) (by decide)), trivial⟩⟩, by rw [ht]; exact hP, va_K.moved hW.alike (hK.sub (tys' := []) [] rfl), by rw [hAe]; exact hD⟩, by rw [hAe]; exact hS.F ht⟩) hS.2.2 dX10_meet_28
    · skip
      have g13 := g9
      refine lv_if_eq (tgt := 26) hx hb dX10_meet_14 (by decide) (fun c14 => ?_) (fun c14 => ?_)
      rotate_left
      · first | exact absurd c14 (by decide) | exact absurd (by decide) c14
      refine lv_bipush (v := (-2)) hx hb dX10_meet_26 (by decide) ?_
      rw [hQ]
      exact W.iret (v := (-2)) hx hb hr (fun t ht hW => ⟨⟨(-2), st, rfl, ⟨hB, fr_rf, ⟨(iv_mono (c := (-2)) (d := 40) (iv_c (by decide) : Iv (-2) (-2) (-2)) (by decide) (by decide)), trivial⟩⟩, by rw [ht]; exact hP, va_K.moved hW.alike (hK.sub (tys' := []) [] rfl), by rw [hAe]; exact hD⟩, by rw [hAe]; exact hS.F ht⟩) hS.2.2 dX10_meet_28
  · skip
    have g15 := g9
    refine lv_if_eq (tgt := 26) hx hb dX10_meet_5 (by decide) (fun c16 => ?_) (fun c16 => ?_)
    rotate_left
    · first | exact absurd c16 (by decide) | exact absurd (by decide) c16
    refine lv_bipush (v := (-2)) hx hb dX10_meet_26 (by decide) ?_
    rw [hQ]
    exact W.iret (v := (-2)) hx hb hr (fun t ht hW => ⟨⟨(-2), st, rfl, ⟨hB, fr_rf, ⟨(iv_mono (c := (-2)) (d := 40) (iv_c (by decide) : Iv (-2) (-2) (-2)) (by decide) (by decide)), trivial⟩⟩, by rw [ht]; exact hP, va_K.moved hW.alike (hK.sub (tys' := []) [] rfl), by rw [hAe]; exact hD⟩, by rw [hAe]; exact hS.F ht⟩) hS.2.2 dX10_meet_28
set_option maxHeartbeats 4000000 in
set_option maxRecDepth 100000 in
theorem m_X10_met (l : Launch) (D : va_G) (k : Nat → ClassId) (a : Nat → Nat) (st : CT) (sl : CL) (p0 : Int32) (p1 : Int32) (sz : Nat) (hB : MB st)  (hw : WOK (st 1)) : Met l yX10_met (.code yX10_met cX10_met 4 (some .int) :: TB) (rmw 10 0 0) (va_Pc [.ref (a 0), .int p0, .int p1] (PW D k sz (MWS k a st sl))) (QI D (S := CT) (fun r u => MB u ∧ FR [7, 9, 8, 10, 11, 16] st u ∧ ((True))) (fun u => MWS k a u sl) (fun _ => []) (MWS k a st sl) sz) 0 0 (va_A (MWS k a st sl) sz) := by
  refine Met.ofW (cc := cX10_met) (maxL := 4) (ret := (some .int)) (by decide) rfl ?_
  intro p e s m args below meth c s₁ B hml hv
  obtain ⟨rfl, hsz, hP, hK, hD0, hN⟩ := hv
  have hx := B.exec
  have hb := B.bytes
  have hr := B.returns
  have hT : ∀ w9 ∈ TB, w9.before ([.ref (a 0), .int p0, .int p1] : List Value).toArray s = true := fun w9 h => atoms_spec (ws := .code yX10_met cX10_met 4 (some .int) :: TB) B.pre w9 (List.mem_cons_of_mem _ h)
  have hown : s.vm.findClass RX10 = some m.cls := findClass_of_methodNamed B.named
  have S : CallFix p m c cX10_met 4 s _ TB RX10 := ⟨hx, hb, hml, hown, hT⟩
  subst hsz
  have hD := hD0.self (sz := s.heap.size)
  generalize hAe : va_A (MWS k a st sl) s.heap.size = A at hD ⊢
  have hA : ∀ q : Nat, s.heap.size ≤ q → A q := fun q h => by rw [← hAe]; exact Or.inr h
  have hS : va_S A s.heap s.heap [] := va_S.rf
  have hl := lv_entry ([.ref (a 0), .int p0, .int p1]) (n := 4) (Nat.le_of_ble_eq_true rfl)
  rw [lg_entry_eq]
  generalize (lg_sl ([.ref (a 0), .int p0, .int p1]) ++ List.replicate (4 - (lg_sl ([.ref (a 0), .int p0, .int p1])).length) Slot.unset).toArray = ls at hl ⊢
  have hl : lv_has ls 4 [(0, .ref (a 0)), (1, .int p0), (2, .int p1)] := hl
  refine nameQ (fun Q hQ => ?_)
  refine lv_aload_n hx hb dX10_met_0 rfl (lv_at hl 0 rfl) ?_
  refine lv_iload_n hx hb dX10_met_1 rfl (lv_at hl 1 rfl) ?_
  refine ro_V (As := [.int p0]) (rest := []) S (m_X10_isCart l D k a st sl  p0 _  hB  hw) lkX10_279 ok_X10_isCart ⟨rfl, rfl, Nat.le_of_ble_eq_true rfl, Nat.le_of_ble_eq_true rfl⟩ (pw_V (ci := 10) (q0 := 0) hK hN rfl mw_0 hP (hD.weaken (fun _ _ _ _ => trivial))) rfl hl.1 rfl (Nat.le_of_ble_eq_true rfl) ⟨Nat.zero_le _, Nat.zero_le _⟩ dX10_met_2 (fun r1 er1 => ?_)
  rcases er1 with ⟨rfl, g9⟩ | ⟨rfl, g9⟩
  · skip
    have g2 := g9
    have h3 : Iv 0 2 p0 := g2.1
    refine lv_if_eq (tgt := 17) hx hb dX10_met_5 (by decide) (fun c4 => ?_) (fun c4 => ?_)
    · first | exact absurd c4 (by decide) | exact absurd (by decide) c4
    refine lv_aload_n hx hb dX10_met_8 rfl (lv_at hl 0 rfl) ?_
    refine lv_iload_n hx hb dX10_met_9 rfl (lv_at hl 2 rfl) ?_
    refine lv_i2l hx hb dX10_met_10 rfl ?_
    refine ro_V (As := [.long (p1.toInt64)]) (rest := []) S (m_X10_isPlace l D k a st sl  (p1.toInt64) _  hB  hw) lkX10_282 ok_X10_isPlace ⟨rfl, rfl, Nat.le_of_ble_eq_true rfl, Nat.le_of_ble_eq_true rfl⟩ (pw_V (ci := 10) (q0 := 0) hK hN rfl mw_0 hP (hD.weaken (fun _ _ _ _ => trivial))) rfl hl.1 rfl (Nat.le_of_ble_eq_true rfl) ⟨Nat.zero_le _, Nat.zero_le _⟩ dX10_met_11 (fun r5 er5 => ?_)
    rcases er5 with ⟨rfl, g9⟩ | ⟨rfl, g9⟩
    · skip
      have g6 := g9
      have h7 : (0 : Int) ≤ (p1.toInt64).toInt ∧ (p1.toInt64).toInt ≤ (5 : Int) := ⟨(g6).1, (g6).2⟩
      have h8 : Iv 0 5 p1 := iv_lv h7
      refine lv_if_ne (tgt := 20) hx hb dX10_met_14 (by decide) (fun c9 => ?_) (fun c9 => ?_)
      rotate_left
      · first | exact absurd c9 (by decide) | exact absurd (by decide) c9
      refine lv_aload_n hx hb dX10_met_20 rfl (lv_at hl 0 rfl) ?_
      refine lv_iload_n hx hb dX10_met_21 rfl (lv_at hl 1 rfl) ?_
      refine lv_iload_n hx hb dX10_met_22 rfl (lv_at hl 2 rfl) ?_
      refine ca_i hP hD hS hA (fun hDc => run_V (mc := 0) (ms := 0) (As := [.int p0, .int p1]) (rest := []) S (m_X10_meetOf l D k a st sl  p0 p1 _  hB h3 hw) lkX10_355 ok_X10_meetOf ⟨rfl, rfl, Nat.le_of_ble_eq_true rfl, Nat.le_of_ble_eq_true rfl⟩ (pw_V (ci := 10) (q0 := 0) hK hN rfl mw_0 hP hDc) rfl hl.1 rfl (Nat.le_of_ble_eq_true rfl) ⟨Nat.zero_le _, Nat.zero_le _⟩ dX10_met_23) (fun r11 s10 H9 locs9 hs10 hP9 hD9 hS9 => ?_)
      clear hP hD hS
      have hS := hS9
      have hP := hP9
      have hD := hD9
      clear hP9 hD9 hS9
      obtain ⟨hBs10, gs10, fs10⟩ := hs10
      have hFs10 : FR [7, 9, 8, 10, 11, 16] st s10 := fr_ca fr_rf gs10 (sub_1 (List.mem_of_getElem? (i := 0) rfl) (sub_1 (List.mem_of_getElem? (i := 1) rfl) (sub_1 (List.mem_of_getElem? (i := 2) rfl) (sub_1 (List.mem_of_getElem? (i := 3) rfl) (sub_1 (List.mem_of_getElem? (i := 4) rfl) (sub_1 (List.mem_of_getElem? (i := 5) rfl) sub_0))))))
      have h12 : Iv (-1) 40 r11 := fs10.1
      refine lv_istore_n (lv' := [(3, .int r11), (0, .ref (a 0)), (1, .int p0), (2, .int p1)]) hx hb dX10_met_26 rfl hl (by decide) rfl (fun ls hl => ?_)
      refine lv_iload_n hx hb dX10_met_27 rfl (lv_at hl 0 rfl) ?_
      refine lv_iconst (v := (-1)) hx hb dX10_met_28 (by decide) ?_
      refine lv_icmp_ne (tgt := 36) hx hb dX10_met_29 (by decide) (fun c13 => ?_) (fun c13 => ?_)
      · skip
        have h14 : Iv 0 40 r11 := ne_lo h12 (show ¬ r11 = (-1) from c13) (by decide) (by decide)
        refine lv_aload_n hx hb dX10_met_36 rfl (lv_at hl 1 rfl) ?_
        refine va_get (D := D) (ci := 10) (v := .ref (a 16)) (C := RX10) (T := TX10) (N := 38) hx hb hT in_X10 hown hK hP 0 mw_0 rfl 30 (by decide) (hT _ t1292) (fun _ h9 => h9) rfl dX10_met_37 ?_
        refine lv_iload_n hx hb dX10_met_40 rfl (lv_at hl 0 rfl) ?_
        refine va_iald hx hb hK hP 16 0 mw_16 rfl (iv_in h14 (by decide) (by decide)) dX10_met_41 ?_
        refine lv_topi (fun z15 ez15 => ?_)
        rw [hQ]
        exact W.iret (v := z15) hx hb hr (fun t ht hW => ⟨⟨z15, s10, rfl, ⟨hBs10, hFs10, trivial⟩, by rw [ht]; exact hP, va_K.moved hW.alike (hK.sub (tys' := []) [] rfl), by rw [hAe]; exact hD⟩, by rw [hAe]; exact hS.F ht⟩) hS.2.2 dX10_met_42
      · skip
        have h16 : Iv (-1) (-1) r11 := eq_l c13 (iv_c (by decide) : Iv (-1) (-1) (-1))
        refine lv_iconst (v := (-1)) hx hb dX10_met_32 (by decide) ?_
        refine lv_goto (tgt := 42) hx hb dX10_met_33 (by decide) ?_
        rw [hQ]
        exact W.iret (v := (-1)) hx hb hr (fun t ht hW => ⟨⟨(-1), s10, rfl, ⟨hBs10, hFs10, trivial⟩, by rw [ht]; exact hP, va_K.moved hW.alike (hK.sub (tys' := []) [] rfl), by rw [hAe]; exact hD⟩, by rw [hAe]; exact hS.F ht⟩) hS.2.2 dX10_met_42
    · skip
      have g17 := g9
      refine lv_if_ne (tgt := 20) hx hb dX10_met_14 (by decide) (fun c18 => ?_) (fun c18 => ?_)
      · first | exact absurd c18 (by decide) | exact absurd (by decide) c18
      refine lv_bipush (v := (-2)) hx hb dX10_met_17 (by decide) ?_
      rw [hQ]
      exact W.iret (v := (-2)) hx hb hr (fun t ht hW => ⟨⟨(-2), st, rfl, ⟨hB, fr_rf, trivial⟩, by rw [ht]; exact hP, va_K.moved hW.alike (hK.sub (tys' := []) [] rfl), by rw [hAe]; exact hD⟩, by rw [hAe]; exact hS.F ht⟩) hS.2.2 dX10_met_19
  · skip
    have g19 := g9
    refine lv_if_eq (tgt := 17) hx hb dX10_met_5 (by decide) (fun c20 => ?_) (fun c20 => ?_)
    rotate_left
    · first | exact absurd c20 (by decide) | exact absurd (by decide) c20
    refine lv_bipush (v := (-2)) hx hb dX10_met_17 (by decide) ?_
    rw [hQ]
    exact W.iret (v := (-2)) hx hb hr (fun t ht hW => ⟨⟨(-2), st, rfl, ⟨hB, fr_rf, trivial⟩, by rw [ht]; exact hP, va_K.moved hW.alike (hK.sub (tys' := []) [] rfl), by rw [hAe]; exact hD⟩, by rw [hAe]; exact hS.F ht⟩) hS.2.2 dX10_met_19
