/-! intervals of ints, and what a step of the machine does to them -/
def Iv (lo hi : Int) (x : Int32) : Prop := lo ≤ x.toInt ∧ x.toInt ≤ hi
theorem iv_mono {a b c d : Int} {x : Int32} (h : Iv a b x) (h1 : c ≤ a) (h2 : b ≤ d) : Iv c d x := ⟨Int.le_trans h1 h.1, Int.le_trans h.2 h2⟩
theorem iv_full (x : Int32) : Iv (-2147483648) 2147483647 x := by
  have h1 := Int32.le_toInt x
  have h2 := Int32.toInt_lt x
  exact ⟨by omega, by omega⟩
theorem iv_c {v : Int} {x : Int32} (h : x.toInt = v) : Iv v v x := ⟨by omega, by omega⟩
theorem iv_bm {z : Int} (h1 : -2147483648 ≤ z) (h2 : z ≤ 2147483647) : z.bmod (2 ^ 32) = z := Int.bmod_eq_of_le (by omega) (by omega)
theorem ti_add {a b c d : Int} {x y z : Int32} (e : z = x + y) (hx : Iv a b x) (hy : Iv c d y) (h1 : -2147483648 ≤ a + c) (h2 : b + d ≤ 2147483647) : z.toInt = x.toInt + y.toInt := by
  obtain ⟨p1, p2⟩ := hx
  obtain ⟨q1, q2⟩ := hy
  rw [e, Int32.toInt_add, iv_bm (by omega) (by omega)]
theorem ti_sub {a b c d : Int} {x y z : Int32} (e : z = x - y) (hx : Iv a b x) (hy : Iv c d y) (h1 : -2147483648 ≤ a - d) (h2 : b - c ≤ 2147483647) : z.toInt = x.toInt - y.toInt := by
  obtain ⟨p1, p2⟩ := hx
  obtain ⟨q1, q2⟩ := hy
  rw [e, Int32.toInt_sub, iv_bm (by omega) (by omega)]
theorem iv_add {a b c d u v : Int} {x y z : Int32} (e : z = x + y) (hx : Iv a b x) (hy : Iv c d y) (h1 : -2147483648 ≤ a + c) (h2 : b + d ≤ 2147483647) (h3 : u ≤ a + c) (h4 : b + d ≤ v) : Iv u v z := by
  have h := ti_add e hx hy h1 h2
  obtain ⟨p1, p2⟩ := hx
  obtain ⟨q1, q2⟩ := hy
  exact ⟨by omega, by omega⟩
theorem iv_sub {a b c d u v : Int} {x y z : Int32} (e : z = x - y) (hx : Iv a b x) (hy : Iv c d y) (h1 : -2147483648 ≤ a - d) (h2 : b - c ≤ 2147483647) (h3 : u ≤ a - d) (h4 : b - c ≤ v) : Iv u v z := by
  have h := ti_sub e hx hy h1 h2
  obtain ⟨p1, p2⟩ := hx
  obtain ⟨q1, q2⟩ := hy
  exact ⟨by omega, by omega⟩
/-- times a number that is written -/
theorem ti_mulr {a b k : Int} {x y z : Int32} (e : z = x * y) (hx : Iv a b x) (hk : y.toInt = k) (h0 : 0 ≤ k) (h1 : -2147483648 ≤ a * k) (h2 : b * k ≤ 2147483647) : z.toInt = x.toInt * k := by
  obtain ⟨p1, p2⟩ := hx
  have q1 := Int.mul_le_mul_of_nonneg_right p1 h0
  have q2 := Int.mul_le_mul_of_nonneg_right p2 h0
  rw [e, Int32.toInt_mul, hk, iv_bm (by omega) (by omega)]
theorem iv_mulr {a b k u v : Int} {x y z : Int32} (e : z = x * y) (hx : Iv a b x) (hk : y.toInt = k) (h0 : 0 ≤ k) (h1 : -2147483648 ≤ a * k) (h2 : b * k ≤ 2147483647) (h3 : u ≤ a * k) (h4 : b * k ≤ v) : Iv u v z := by
  have h := ti_mulr e hx hk h0 h1 h2
  obtain ⟨p1, p2⟩ := hx
  have q1 := Int.mul_le_mul_of_nonneg_right p1 h0
  have q2 := Int.mul_le_mul_of_nonneg_right p2 h0
  exact ⟨by omega, by omega⟩
theorem ti_mull {a b k : Int} {x y z : Int32} (e : z = y * x) (hx : Iv a b x) (hk : y.toInt = k) (h0 : 0 ≤ k) (h1 : -2147483648 ≤ a * k) (h2 : b * k ≤ 2147483647) : z.toInt = x.toInt * k := ti_mulr (e.trans (Int32.mul_comm y x)) hx hk h0 h1 h2
theorem iv_mull {a b k u v : Int} {x y z : Int32} (e : z = y * x) (hx : Iv a b x) (hk : y.toInt = k) (h0 : 0 ≤ k) (h1 : -2147483648 ≤ a * k) (h2 : b * k ≤ 2147483647) (h3 : u ≤ a * k) (h4 : b * k ≤ v) : Iv u v z := iv_mulr (e.trans (Int32.mul_comm y x)) hx hk h0 h1 h2 h3 h4
theorem iv_neg {a b u v : Int} {x z : Int32} (e : z = -x) (hx : Iv a b x) (h1 : -2147483647 ≤ a) (h2 : u ≤ -b) (h3 : -a ≤ v) : Iv u v z := by
  obtain ⟨p1, p2⟩ := hx
  have h : z.toInt = -x.toInt := by
    have q := (iv_full x).2
    rw [e, Int32.toInt_neg, iv_bm (by omega) (by omega)]
  exact ⟨by omega, by omega⟩
theorem ti_inc {a b d : Int} {x z : Int32} (e : z = x + Int32.ofInt d) (hx : Iv a b x) (h0 : -2147483648 ≤ d) (h9 : d ≤ 2147483647) (h1 : -2147483648 ≤ a + d) (h2 : b + d ≤ 2147483647) : z.toInt = x.toInt + d := by
  obtain ⟨p1, p2⟩ := hx
  have h : (Int32.ofInt d).toInt = d := by rw [Int32.toInt_ofInt, iv_bm h0 h9]
  rw [e, Int32.toInt_add, h, iv_bm (by omega) (by omega)]
theorem iv_inc {a b d u v : Int} {x z : Int32} (e : z = x + Int32.ofInt d) (hx : Iv a b x) (h0 : -2147483648 ≤ d) (h9 : d ≤ 2147483647) (h1 : -2147483648 ≤ a + d) (h2 : b + d ≤ 2147483647) (h3 : u ≤ a + d) (h4 : b + d ≤ v) : Iv u v z := by
  have h := ti_inc e hx h0 h9 h1 h2
  obtain ⟨p1, p2⟩ := hx
  exact ⟨by omega, by omega⟩
/-! bits -/
theorem iv_nat {n : Nat} {hi : Int} {x : Int32} (hx : x = nI n) (hn : n < 2147483648) (hh : (n : Int) ≤ hi) : Iv 0 hi x := by
  have h : x.toInt = n := by rw [hx]; exact nI_toInt hn
  exact ⟨by omega, by omega⟩
theorem iv_of {hi : Int} {x : Int32} (h : Iv 0 hi x) : ∃ n : Nat, x = nI n ∧ (n : Int) ≤ hi ∧ n < 2147483648 ∧ x.toBitVec.toNat = n := by
  obtain ⟨h1, h2⟩ := h
  have h3 := (iv_full x).2
  refine ⟨x.toInt.toNat, ?_, by omega, by omega, ?_⟩
  · apply Int32.toInt_inj.mp
    rw [nI_toInt (by omega)]
    omega
  · have e : x = nI x.toInt.toNat := by
      apply Int32.toInt_inj.mp
      rw [nI_toInt (by omega)]
      omega
    have h9 : x.toInt.toNat < 2 ^ 32 := by omega
    calc x.toBitVec.toNat = (nI x.toInt.toNat).toBitVec.toNat := by rw [← e]
      _ = x.toInt.toNat := pk_tn h9
theorem iv_andr {hi : Int} {x y z : Int32} (e : z = x &&& y) (hy : Iv 0 hi y) : Iv 0 hi z := by
  obtain ⟨n, h1, h2, h3, h4⟩ := iv_of hy
  have hz : z.toBitVec.toNat ≤ n := by
    rw [e, Int32.toBitVec_and, BitVec.toNat_and, h4]
    exact Nat.and_le_right
  refine iv_nat (n := z.toBitVec.toNat) ?_ (by omega) (by omega)
  apply Int32.toBitVec_inj.mp
  apply BitVec.eq_of_toNat_eq
  show _ = (BitVec.ofNat 32 _).toNat
  rw [BitVec.toNat_ofNat]
  exact (Nat.mod_eq_of_lt z.toBitVec.isLt).symm
theorem iv_andl {hi : Int} {x y z : Int32} (e : z = x &&& y) (hx : Iv 0 hi x) : Iv 0 hi z := iv_andr (e.trans (Int32.and_comm x y)) hx
theorem iv_or {a b hi : Int} {x y z : Int32} (k : Nat) (e : z = x ||| y) (hx : Iv 0 a x) (hy : Iv 0 b y) (hk : k ≤ 31) (ha : a < (2 : Int) ^ k) (hb : b < (2 : Int) ^ k) (hh : (2 : Int) ^ k ≤ hi + 1) : Iv 0 hi z := by
  obtain ⟨n, h1, h2, h3, h4⟩ := iv_of hx
  obtain ⟨n', h1', h2', h3', h4'⟩ := iv_of hy
  have c : ((2 ^ k : Nat) : Int) = (2 : Int) ^ k := by simp
  have hz : z.toBitVec.toNat < 2 ^ k := by
    rw [e, Int32.toBitVec_or, BitVec.toNat_or, h4, h4']
    exact Nat.or_lt_two_pow (by omega) (by omega)
  have hk2 : 2 ^ k ≤ 2 ^ 31 := Nat.pow_le_pow_right (by decide) hk
  have h31 : (2 : Nat) ^ 31 = 2147483648 := by decide
  refine iv_nat (n := z.toBitVec.toNat) ?_ (by omega) (by omega)
  apply Int32.toBitVec_inj.mp
  apply BitVec.eq_of_toNat_eq
  show _ = (BitVec.ofNat 32 _).toNat
  rw [BitVec.toNat_ofNat]
  exact (Nat.mod_eq_of_lt z.toBitVec.isLt).symm
theorem sh_tab : ∀ n, n < 31 → ((1 : Int32) <<< (nI n &&& 31)).toInt = 2 ^ n := by decide +kernel
theorem iv_shl {b v : Int} {y z : Int32} (k : Nat) (e : z = (1 : Int32) <<< (y &&& 31)) (hy : Iv 0 b y) (hk : k ≤ 30) (hb : b ≤ k) (hv : (2 : Int) ^ k ≤ v) : Iv 1 v z := by
  obtain ⟨n, h1, h2, h3, h4⟩ := iv_of hy
  have hz : z.toInt = 2 ^ n := by rw [e, h1]; exact sh_tab n (by omega)
  have q1 : (2 : Nat) ^ n ≤ 2 ^ k := Nat.pow_le_pow_right (by decide) (by omega)
  have q2 : 0 < (2 : Nat) ^ n := Nat.two_pow_pos n
  have c1 : ((2 ^ n : Nat) : Int) = (2 : Int) ^ n := by simp
  have c2 : ((2 ^ k : Nat) : Int) = (2 : Int) ^ k := by simp
  exact ⟨by omega, by omega⟩
/-! comparisons -/
theorem i_lt {x y : Int32} (h : x < y) : x.toInt < y.toInt := Int32.lt_iff_toInt_lt.mp h
theorem i_le {x y : Int32} (h : x ≤ y) : x.toInt ≤ y.toInt := Int32.le_iff_toInt_le.mp h
theorem i_nlt {x y : Int32} (h : ¬ x < y) : y.toInt ≤ x.toInt := Int32.le_iff_toInt_le.mp (Int32.not_lt.mp h)
theorem i_nle {x y : Int32} (h : ¬ x ≤ y) : y.toInt < x.toInt := Int32.lt_iff_toInt_lt.mp (Int32.not_le.mp h)
theorem lt_l {a b c d u : Int} {x y : Int32} (hx : Iv a b x) (n : x.toInt < y.toInt) (hy : Iv c d y) (h : d ≤ u + 1) : Iv a u x := ⟨hx.1, by have := hy.2; omega⟩
theorem lt_r {a b c d u : Int} {x y : Int32} (hx : Iv a b x) (n : x.toInt < y.toInt) (hy : Iv c d y) (h : u ≤ a + 1) : Iv u d y := ⟨by have := hx.1; omega, hy.2⟩
theorem le_l {a b c d u : Int} {x y : Int32} (hx : Iv a b x) (n : x.toInt ≤ y.toInt) (hy : Iv c d y) (h : d ≤ u) : Iv a u x := ⟨hx.1, by have := hy.2; omega⟩
theorem le_r {a b c d u : Int} {x y : Int32} (hx : Iv a b x) (n : x.toInt ≤ y.toInt) (hy : Iv c d y) (h : u ≤ a) : Iv u d y := ⟨by have := hx.1; omega, hy.2⟩
theorem eq_l {c d : Int} {x y : Int32} (e : x = y) (hy : Iv c d y) : Iv c d x := e ▸ hy
theorem ne_lo {a b v : Int} {x y : Int32} (hx : Iv a b x) (n : ¬ x = y) (hy : y.toInt = a) (h : v ≤ a + 1) : Iv v b x := by
  obtain ⟨p1, p2⟩ := hx
  refine ⟨?_, p2⟩
  have q : ¬ x.toInt = y.toInt := fun e => n (Int32.toInt_inj.mp e)
  omega
theorem ne_hi {a b v : Int} {x y : Int32} (hx : Iv a b x) (n : ¬ x = y) (hy : y.toInt = b) (h : b - 1 ≤ v) : Iv a v x := by
  obtain ⟨p1, p2⟩ := hx
  refine ⟨p1, ?_⟩
  have q : ¬ x.toInt = y.toInt := fun e => n (Int32.toInt_inj.mp e)
  omega
theorem iv_no {a b : Int} {x : Int32} (h : Iv a b x) (e : b < a) : False := by
  obtain ⟨p1, p2⟩ := h
  omega
theorem iv_in {lo hi : Int} {N : Nat} {x : Int32} (h : Iv lo hi x) (h0 : 0 ≤ lo) (h1 : hi < (N : Int)) : vp_in x N := by
  rw [vp_in_iff]
  obtain ⟨p1, p2⟩ := h
  exact ⟨by omega, by omega⟩
theorem iv_cl {lo hi : Int} {N : Nat} {x : Int32} (h : Iv lo hi x) (h0 : 0 ≤ lo) (h1 : hi < (N : Int)) : x.toNatClampNeg < N := vp_in_lt (iv_in h h0 h1)
theorem iv_min {a b c d u v : Int} {x y z : Int32} (e : z = if y < x then y else x) (hx : Iv a b x) (hy : Iv c d y) (h1 : u ≤ a) (h2 : u ≤ c) (h3 : b ≤ v ∨ d ≤ v) : Iv u v z := by
  obtain ⟨p1, p2⟩ := hx
  obtain ⟨q1, q2⟩ := hy
  by_cases h : y < x
  · rw [if_pos h] at e
    have n := i_lt h
    rw [e]
    exact ⟨by omega, by omega⟩
  · rw [if_neg h] at e
    have n := i_nlt h
    rw [e]
    exact ⟨by omega, by omega⟩
theorem iv_max {a b c d u v : Int} {x y z : Int32} (e : z = if x < y then y else x) (hx : Iv a b x) (hy : Iv c d y) (h1 : u ≤ a ∨ u ≤ c) (h2 : b ≤ v) (h3 : d ≤ v) : Iv u v z := by
  obtain ⟨p1, p2⟩ := hx
  obtain ⟨q1, q2⟩ := hy
  by_cases h : x < y
  · rw [if_pos h] at e
    have n := i_lt h
    rw [e]
    exact ⟨by omega, by omega⟩
  · rw [if_neg h] at e
    have n := i_nlt h
    rw [e]
    exact ⟨by omega, by omega⟩
theorem iv_nz {a b : Int} {x : Int32} (h : Iv a b x) (h0 : 0 < a ∨ b < 0) : ¬ x = 0 := by
  intro e
  obtain ⟨p1, p2⟩ := h
  rw [e] at p1 p2
  have z : (0 : Int32).toInt = 0 := rfl
  rw [z] at p1 p2
  omega
/-! how often a loop can go round -/
theorem fu_0 {lo hi : Int} {v : Int32} (h : Iv lo hi v) (m : hi - v.toInt < ((0 : Nat) : Int)) : False := by
  obtain ⟨p1, p2⟩ := h
  simp at m
  omega
theorem fu_s {lo hi d : Int} {n : Nat} {v z : Int32} (e : z.toInt = v.toInt + d) (hd : 1 ≤ d) (m : hi - v.toInt < ((n + 1 : Nat) : Int)) : hi - z.toInt < (n : Int) := by
  rw [e]
  push_cast at m
  omega
theorem fu_i {lo hi : Int} {n : Nat} {v : Int32} (h : Iv lo hi v) (e : hi - lo < (n : Int)) : hi - v.toInt < (n : Int) := by
  obtain ⟨p1, p2⟩ := h
  omega
theorem fd_0 {lo hi : Int} {v : Int32} (h : Iv lo hi v) (m : v.toInt - lo < ((0 : Nat) : Int)) : False := by
  obtain ⟨p1, p2⟩ := h
  simp at m
  omega
theorem fd_s {lo d : Int} {n : Nat} {v z : Int32} (e : z.toInt = v.toInt + d) (hd : d ≤ -1) (m : v.toInt - lo < ((n + 1 : Nat) : Int)) : z.toInt - lo < (n : Int) := by
  rw [e]
  push_cast at m
  omega
theorem fd_i {lo hi : Int} {n : Nat} {v : Int32} (h : Iv lo hi v) (e : hi - lo < (n : Int)) : v.toInt - lo < (n : Int) := by
  obtain ⟨p1, p2⟩ := h
  omega
theorem iv_ca1 {lo hi : Int} {x : Int32} (h : Iv lo hi x) (c0 : Int32) (e0 : c0.toInt = lo + 0) (eh : hi = lo + 0) : x = c0 := by
  obtain ⟨p1, p2⟩ := h
  exact Int32.toInt_inj.mp (by omega)
theorem iv_ca2 {lo hi : Int} {x : Int32} (h : Iv lo hi x) (c0 c1 : Int32) (e0 : c0.toInt = lo + 0) (e1 : c1.toInt = lo + 1) (eh : hi = lo + 1) : x = c0 ∨ x = c1 := by
  obtain ⟨p1, p2⟩ := h
  by_cases q : x.toInt = lo + 0
  · exact Or.inl (Int32.toInt_inj.mp (q.trans e0.symm))
  replace p1 : lo + 1 ≤ x.toInt := by omega
  clear q
  exact Or.inr (Int32.toInt_inj.mp (by omega))
theorem iv_ca3 {lo hi : Int} {x : Int32} (h : Iv lo hi x) (c0 c1 c2 : Int32) (e0 : c0.toInt = lo + 0) (e1 : c1.toInt = lo + 1) (e2 : c2.toInt = lo + 2) (eh : hi = lo + 2) : x = c0 ∨ x = c1 ∨ x = c2 := by
  obtain ⟨p1, p2⟩ := h
  by_cases q : x.toInt = lo + 0
  · exact Or.inl (Int32.toInt_inj.mp (q.trans e0.symm))
  replace p1 : lo + 1 ≤ x.toInt := by omega
  clear q
  by_cases q : x.toInt = lo + 1
  · exact Or.inr (Or.inl (Int32.toInt_inj.mp (q.trans e1.symm)))
  replace p1 : lo + 2 ≤ x.toInt := by omega
  clear q
  exact Or.inr (Or.inr (Int32.toInt_inj.mp (by omega)))
theorem iv_ca4 {lo hi : Int} {x : Int32} (h : Iv lo hi x) (c0 c1 c2 c3 : Int32) (e0 : c0.toInt = lo + 0) (e1 : c1.toInt = lo + 1) (e2 : c2.toInt = lo + 2) (e3 : c3.toInt = lo + 3) (eh : hi = lo + 3) : x = c0 ∨ x = c1 ∨ x = c2 ∨ x = c3 := by
  obtain ⟨p1, p2⟩ := h
  by_cases q : x.toInt = lo + 0
  · exact Or.inl (Int32.toInt_inj.mp (q.trans e0.symm))
  replace p1 : lo + 1 ≤ x.toInt := by omega
  clear q
  by_cases q : x.toInt = lo + 1
  · exact Or.inr (Or.inl (Int32.toInt_inj.mp (q.trans e1.symm)))
  replace p1 : lo + 2 ≤ x.toInt := by omega
  clear q
  by_cases q : x.toInt = lo + 2
  · exact Or.inr (Or.inr (Or.inl (Int32.toInt_inj.mp (q.trans e2.symm))))
  replace p1 : lo + 3 ≤ x.toInt := by omega
  clear q
  exact Or.inr (Or.inr (Or.inr (Int32.toInt_inj.mp (by omega))))
theorem iv_ca5 {lo hi : Int} {x : Int32} (h : Iv lo hi x) (c0 c1 c2 c3 c4 : Int32) (e0 : c0.toInt = lo + 0) (e1 : c1.toInt = lo + 1) (e2 : c2.toInt = lo + 2) (e3 : c3.toInt = lo + 3) (e4 : c4.toInt = lo + 4) (eh : hi = lo + 4) : x = c0 ∨ x = c1 ∨ x = c2 ∨ x = c3 ∨ x = c4 := by
  obtain ⟨p1, p2⟩ := h
  by_cases q : x.toInt = lo + 0
  · exact Or.inl (Int32.toInt_inj.mp (q.trans e0.symm))
  replace p1 : lo + 1 ≤ x.toInt := by omega
  clear q
  by_cases q : x.toInt = lo + 1
  · exact Or.inr (Or.inl (Int32.toInt_inj.mp (q.trans e1.symm)))
  replace p1 : lo + 2 ≤ x.toInt := by omega
  clear q
  by_cases q : x.toInt = lo + 2
  · exact Or.inr (Or.inr (Or.inl (Int32.toInt_inj.mp (q.trans e2.symm))))
  replace p1 : lo + 3 ≤ x.toInt := by omega
  clear q
  by_cases q : x.toInt = lo + 3
  · exact Or.inr (Or.inr (Or.inr (Or.inl (Int32.toInt_inj.mp (q.trans e3.symm)))))
  replace p1 : lo + 4 ≤ x.toInt := by omega
  clear q
  exact Or.inr (Or.inr (Or.inr (Or.inr (Int32.toInt_inj.mp (by omega)))))
theorem iv_ca6 {lo hi : Int} {x : Int32} (h : Iv lo hi x) (c0 c1 c2 c3 c4 c5 : Int32) (e0 : c0.toInt = lo + 0) (e1 : c1.toInt = lo + 1) (e2 : c2.toInt = lo + 2) (e3 : c3.toInt = lo + 3) (e4 : c4.toInt = lo + 4) (e5 : c5.toInt = lo + 5) (eh : hi = lo + 5) : x = c0 ∨ x = c1 ∨ x = c2 ∨ x = c3 ∨ x = c4 ∨ x = c5 := by
  obtain ⟨p1, p2⟩ := h
  by_cases q : x.toInt = lo + 0
  · exact Or.inl (Int32.toInt_inj.mp (q.trans e0.symm))
  replace p1 : lo + 1 ≤ x.toInt := by omega
  clear q
  by_cases q : x.toInt = lo + 1
  · exact Or.inr (Or.inl (Int32.toInt_inj.mp (q.trans e1.symm)))
  replace p1 : lo + 2 ≤ x.toInt := by omega
  clear q
  by_cases q : x.toInt = lo + 2
  · exact Or.inr (Or.inr (Or.inl (Int32.toInt_inj.mp (q.trans e2.symm))))
  replace p1 : lo + 3 ≤ x.toInt := by omega
  clear q
  by_cases q : x.toInt = lo + 3
  · exact Or.inr (Or.inr (Or.inr (Or.inl (Int32.toInt_inj.mp (q.trans e3.symm)))))
  replace p1 : lo + 4 ≤ x.toInt := by omega
  clear q
  by_cases q : x.toInt = lo + 4
  · exact Or.inr (Or.inr (Or.inr (Or.inr (Or.inl (Int32.toInt_inj.mp (q.trans e4.symm))))))
  replace p1 : lo + 5 ≤ x.toInt := by omega
  clear q
  exact Or.inr (Or.inr (Or.inr (Or.inr (Or.inr (Int32.toInt_inj.mp (by omega))))))
theorem iv_ca7 {lo hi : Int} {x : Int32} (h : Iv lo hi x) (c0 c1 c2 c3 c4 c5 c6 : Int32) (e0 : c0.toInt = lo + 0) (e1 : c1.toInt = lo + 1) (e2 : c2.toInt = lo + 2) (e3 : c3.toInt = lo + 3) (e4 : c4.toInt = lo + 4) (e5 : c5.toInt = lo + 5) (e6 : c6.toInt = lo + 6) (eh : hi = lo + 6) : x = c0 ∨ x = c1 ∨ x = c2 ∨ x = c3 ∨ x = c4 ∨ x = c5 ∨ x = c6 := by
  obtain ⟨p1, p2⟩ := h
  by_cases q : x.toInt = lo + 0
  · exact Or.inl (Int32.toInt_inj.mp (q.trans e0.symm))
  replace p1 : lo + 1 ≤ x.toInt := by omega
  clear q
  by_cases q : x.toInt = lo + 1
  · exact Or.inr (Or.inl (Int32.toInt_inj.mp (q.trans e1.symm)))
  replace p1 : lo + 2 ≤ x.toInt := by omega
  clear q
  by_cases q : x.toInt = lo + 2
  · exact Or.inr (Or.inr (Or.inl (Int32.toInt_inj.mp (q.trans e2.symm))))
  replace p1 : lo + 3 ≤ x.toInt := by omega
  clear q
  by_cases q : x.toInt = lo + 3
  · exact Or.inr (Or.inr (Or.inr (Or.inl (Int32.toInt_inj.mp (q.trans e3.symm)))))
  replace p1 : lo + 4 ≤ x.toInt := by omega
  clear q
  by_cases q : x.toInt = lo + 4
  · exact Or.inr (Or.inr (Or.inr (Or.inr (Or.inl (Int32.toInt_inj.mp (q.trans e4.symm))))))
  replace p1 : lo + 5 ≤ x.toInt := by omega
  clear q
  by_cases q : x.toInt = lo + 5
  · exact Or.inr (Or.inr (Or.inr (Or.inr (Or.inr (Or.inl (Int32.toInt_inj.mp (q.trans e5.symm)))))))
  replace p1 : lo + 6 ≤ x.toInt := by omega
  clear q
  exact Or.inr (Or.inr (Or.inr (Or.inr (Or.inr (Or.inr (Int32.toInt_inj.mp (by omega)))))))
theorem iv_ca8 {lo hi : Int} {x : Int32} (h : Iv lo hi x) (c0 c1 c2 c3 c4 c5 c6 c7 : Int32) (e0 : c0.toInt = lo + 0) (e1 : c1.toInt = lo + 1) (e2 : c2.toInt = lo + 2) (e3 : c3.toInt = lo + 3) (e4 : c4.toInt = lo + 4) (e5 : c5.toInt = lo + 5) (e6 : c6.toInt = lo + 6) (e7 : c7.toInt = lo + 7) (eh : hi = lo + 7) : x = c0 ∨ x = c1 ∨ x = c2 ∨ x = c3 ∨ x = c4 ∨ x = c5 ∨ x = c6 ∨ x = c7 := by
  obtain ⟨p1, p2⟩ := h
  by_cases q : x.toInt = lo + 0
  · exact Or.inl (Int32.toInt_inj.mp (q.trans e0.symm))
  replace p1 : lo + 1 ≤ x.toInt := by omega
  clear q
  by_cases q : x.toInt = lo + 1
  · exact Or.inr (Or.inl (Int32.toInt_inj.mp (q.trans e1.symm)))
  replace p1 : lo + 2 ≤ x.toInt := by omega
  clear q
  by_cases q : x.toInt = lo + 2
  · exact Or.inr (Or.inr (Or.inl (Int32.toInt_inj.mp (q.trans e2.symm))))
  replace p1 : lo + 3 ≤ x.toInt := by omega
  clear q
  by_cases q : x.toInt = lo + 3
  · exact Or.inr (Or.inr (Or.inr (Or.inl (Int32.toInt_inj.mp (q.trans e3.symm)))))
  replace p1 : lo + 4 ≤ x.toInt := by omega
  clear q
  by_cases q : x.toInt = lo + 4
  · exact Or.inr (Or.inr (Or.inr (Or.inr (Or.inl (Int32.toInt_inj.mp (q.trans e4.symm))))))
  replace p1 : lo + 5 ≤ x.toInt := by omega
  clear q
  by_cases q : x.toInt = lo + 5
  · exact Or.inr (Or.inr (Or.inr (Or.inr (Or.inr (Or.inl (Int32.toInt_inj.mp (q.trans e5.symm)))))))
  replace p1 : lo + 6 ≤ x.toInt := by omega
  clear q
  by_cases q : x.toInt = lo + 6
  · exact Or.inr (Or.inr (Or.inr (Or.inr (Or.inr (Or.inr (Or.inl (Int32.toInt_inj.mp (q.trans e6.symm))))))))
  replace p1 : lo + 7 ≤ x.toInt := by omega
  clear q
  exact Or.inr (Or.inr (Or.inr (Or.inr (Or.inr (Or.inr (Or.inr (Int32.toInt_inj.mp (by omega))))))))
theorem iv_ca9 {lo hi : Int} {x : Int32} (h : Iv lo hi x) (c0 c1 c2 c3 c4 c5 c6 c7 c8 : Int32) (e0 : c0.toInt = lo + 0) (e1 : c1.toInt = lo + 1) (e2 : c2.toInt = lo + 2) (e3 : c3.toInt = lo + 3) (e4 : c4.toInt = lo + 4) (e5 : c5.toInt = lo + 5) (e6 : c6.toInt = lo + 6) (e7 : c7.toInt = lo + 7) (e8 : c8.toInt = lo + 8) (eh : hi = lo + 8) : x = c0 ∨ x = c1 ∨ x = c2 ∨ x = c3 ∨ x = c4 ∨ x = c5 ∨ x = c6 ∨ x = c7 ∨ x = c8 := by
  obtain ⟨p1, p2⟩ := h
  by_cases q : x.toInt = lo + 0
  · exact Or.inl (Int32.toInt_inj.mp (q.trans e0.symm))
  replace p1 : lo + 1 ≤ x.toInt := by omega
  clear q
  by_cases q : x.toInt = lo + 1
  · exact Or.inr (Or.inl (Int32.toInt_inj.mp (q.trans e1.symm)))
  replace p1 : lo + 2 ≤ x.toInt := by omega
  clear q
  by_cases q : x.toInt = lo + 2
  · exact Or.inr (Or.inr (Or.inl (Int32.toInt_inj.mp (q.trans e2.symm))))
  replace p1 : lo + 3 ≤ x.toInt := by omega
  clear q
  by_cases q : x.toInt = lo + 3
  · exact Or.inr (Or.inr (Or.inr (Or.inl (Int32.toInt_inj.mp (q.trans e3.symm)))))
  replace p1 : lo + 4 ≤ x.toInt := by omega
  clear q
  by_cases q : x.toInt = lo + 4
  · exact Or.inr (Or.inr (Or.inr (Or.inr (Or.inl (Int32.toInt_inj.mp (q.trans e4.symm))))))
  replace p1 : lo + 5 ≤ x.toInt := by omega
  clear q
  by_cases q : x.toInt = lo + 5
  · exact Or.inr (Or.inr (Or.inr (Or.inr (Or.inr (Or.inl (Int32.toInt_inj.mp (q.trans e5.symm)))))))
  replace p1 : lo + 6 ≤ x.toInt := by omega
  clear q
  by_cases q : x.toInt = lo + 6
  · exact Or.inr (Or.inr (Or.inr (Or.inr (Or.inr (Or.inr (Or.inl (Int32.toInt_inj.mp (q.trans e6.symm))))))))
  replace p1 : lo + 7 ≤ x.toInt := by omega
  clear q
  by_cases q : x.toInt = lo + 7
  · exact Or.inr (Or.inr (Or.inr (Or.inr (Or.inr (Or.inr (Or.inr (Or.inl (Int32.toInt_inj.mp (q.trans e7.symm)))))))))
  replace p1 : lo + 8 ≤ x.toInt := by omega
  clear q
  exact Or.inr (Or.inr (Or.inr (Or.inr (Or.inr (Or.inr (Or.inr (Or.inr (Int32.toInt_inj.mp (by omega)))))))))
theorem iv_ca10 {lo hi : Int} {x : Int32} (h : Iv lo hi x) (c0 c1 c2 c3 c4 c5 c6 c7 c8 c9 : Int32) (e0 : c0.toInt = lo + 0) (e1 : c1.toInt = lo + 1) (e2 : c2.toInt = lo + 2) (e3 : c3.toInt = lo + 3) (e4 : c4.toInt = lo + 4) (e5 : c5.toInt = lo + 5) (e6 : c6.toInt = lo + 6) (e7 : c7.toInt = lo + 7) (e8 : c8.toInt = lo + 8) (e9 : c9.toInt = lo + 9) (eh : hi = lo + 9) : x = c0 ∨ x = c1 ∨ x = c2 ∨ x = c3 ∨ x = c4 ∨ x = c5 ∨ x = c6 ∨ x = c7 ∨ x = c8 ∨ x = c9 := by
  obtain ⟨p1, p2⟩ := h
  by_cases q : x.toInt = lo + 0
  · exact Or.inl (Int32.toInt_inj.mp (q.trans e0.symm))
  replace p1 : lo + 1 ≤ x.toInt := by omega
  clear q
  by_cases q : x.toInt = lo + 1
  · exact Or.inr (Or.inl (Int32.toInt_inj.mp (q.trans e1.symm)))
  replace p1 : lo + 2 ≤ x.toInt := by omega
  clear q
  by_cases q : x.toInt = lo + 2
  · exact Or.inr (Or.inr (Or.inl (Int32.toInt_inj.mp (q.trans e2.symm))))
  replace p1 : lo + 3 ≤ x.toInt := by omega
  clear q
  by_cases q : x.toInt = lo + 3
  · exact Or.inr (Or.inr (Or.inr (Or.inl (Int32.toInt_inj.mp (q.trans e3.symm)))))
  replace p1 : lo + 4 ≤ x.toInt := by omega
  clear q
  by_cases q : x.toInt = lo + 4
  · exact Or.inr (Or.inr (Or.inr (Or.inr (Or.inl (Int32.toInt_inj.mp (q.trans e4.symm))))))
  replace p1 : lo + 5 ≤ x.toInt := by omega
  clear q
  by_cases q : x.toInt = lo + 5
  · exact Or.inr (Or.inr (Or.inr (Or.inr (Or.inr (Or.inl (Int32.toInt_inj.mp (q.trans e5.symm)))))))
  replace p1 : lo + 6 ≤ x.toInt := by omega
  clear q
  by_cases q : x.toInt = lo + 6
  · exact Or.inr (Or.inr (Or.inr (Or.inr (Or.inr (Or.inr (Or.inl (Int32.toInt_inj.mp (q.trans e6.symm))))))))
  replace p1 : lo + 7 ≤ x.toInt := by omega
  clear q
  by_cases q : x.toInt = lo + 7
  · exact Or.inr (Or.inr (Or.inr (Or.inr (Or.inr (Or.inr (Or.inr (Or.inl (Int32.toInt_inj.mp (q.trans e7.symm)))))))))
  replace p1 : lo + 8 ≤ x.toInt := by omega
  clear q
  by_cases q : x.toInt = lo + 8
  · exact Or.inr (Or.inr (Or.inr (Or.inr (Or.inr (Or.inr (Or.inr (Or.inr (Or.inl (Int32.toInt_inj.mp (q.trans e8.symm))))))))))
  replace p1 : lo + 9 ≤ x.toInt := by omega
  clear q
  exact Or.inr (Or.inr (Or.inr (Or.inr (Or.inr (Or.inr (Or.inr (Or.inr (Or.inr (Int32.toInt_inj.mp (by omega))))))))))
theorem iv_ca11 {lo hi : Int} {x : Int32} (h : Iv lo hi x) (c0 c1 c2 c3 c4 c5 c6 c7 c8 c9 c10 : Int32) (e0 : c0.toInt = lo + 0) (e1 : c1.toInt = lo + 1) (e2 : c2.toInt = lo + 2) (e3 : c3.toInt = lo + 3) (e4 : c4.toInt = lo + 4) (e5 : c5.toInt = lo + 5) (e6 : c6.toInt = lo + 6) (e7 : c7.toInt = lo + 7) (e8 : c8.toInt = lo + 8) (e9 : c9.toInt = lo + 9) (e10 : c10.toInt = lo + 10) (eh : hi = lo + 10) : x = c0 ∨ x = c1 ∨ x = c2 ∨ x = c3 ∨ x = c4 ∨ x = c5 ∨ x = c6 ∨ x = c7 ∨ x = c8 ∨ x = c9 ∨ x = c10 := by
  obtain ⟨p1, p2⟩ := h
  by_cases q : x.toInt = lo + 0
  · exact Or.inl (Int32.toInt_inj.mp (q.trans e0.symm))
  replace p1 : lo + 1 ≤ x.toInt := by omega
  clear q
  by_cases q : x.toInt = lo + 1
  · exact Or.inr (Or.inl (Int32.toInt_inj.mp (q.trans e1.symm)))
  replace p1 : lo + 2 ≤ x.toInt := by omega
  clear q
  by_cases q : x.toInt = lo + 2
  · exact Or.inr (Or.inr (Or.inl (Int32.toInt_inj.mp (q.trans e2.symm))))
  replace p1 : lo + 3 ≤ x.toInt := by omega
  clear q
  by_cases q : x.toInt = lo + 3
  · exact Or.inr (Or.inr (Or.inr (Or.inl (Int32.toInt_inj.mp (q.trans e3.symm)))))
  replace p1 : lo + 4 ≤ x.toInt := by omega
  clear q
  by_cases q : x.toInt = lo + 4
  · exact Or.inr (Or.inr (Or.inr (Or.inr (Or.inl (Int32.toInt_inj.mp (q.trans e4.symm))))))
  replace p1 : lo + 5 ≤ x.toInt := by omega
  clear q
  by_cases q : x.toInt = lo + 5
  · exact Or.inr (Or.inr (Or.inr (Or.inr (Or.inr (Or.inl (Int32.toInt_inj.mp (q.trans e5.symm)))))))
  replace p1 : lo + 6 ≤ x.toInt := by omega
  clear q
  by_cases q : x.toInt = lo + 6
  · exact Or.inr (Or.inr (Or.inr (Or.inr (Or.inr (Or.inr (Or.inl (Int32.toInt_inj.mp (q.trans e6.symm))))))))
  replace p1 : lo + 7 ≤ x.toInt := by omega
  clear q
  by_cases q : x.toInt = lo + 7
  · exact Or.inr (Or.inr (Or.inr (Or.inr (Or.inr (Or.inr (Or.inr (Or.inl (Int32.toInt_inj.mp (q.trans e7.symm)))))))))
  replace p1 : lo + 8 ≤ x.toInt := by omega
  clear q
  by_cases q : x.toInt = lo + 8
  · exact Or.inr (Or.inr (Or.inr (Or.inr (Or.inr (Or.inr (Or.inr (Or.inr (Or.inl (Int32.toInt_inj.mp (q.trans e8.symm))))))))))
  replace p1 : lo + 9 ≤ x.toInt := by omega
  clear q
  by_cases q : x.toInt = lo + 9
  · exact Or.inr (Or.inr (Or.inr (Or.inr (Or.inr (Or.inr (Or.inr (Or.inr (Or.inr (Or.inl (Int32.toInt_inj.mp (q.trans e9.symm)))))))))))
  replace p1 : lo + 10 ≤ x.toInt := by omega
  clear q
  exact Or.inr (Or.inr (Or.inr (Or.inr (Or.inr (Or.inr (Or.inr (Or.inr (Or.inr (Or.inr (Int32.toInt_inj.mp (by omega)))))))))))
