/-! answers of the calls that are compared -/
def r_image (k : Int32) : Int32 := if 0 ≤ k.toInt ∧ k.toInt ≤ 2 then 0 else -2
def k_image (h : Nat → Int32) (k : Int32) : Nat → Int32 := if 0 ≤ k.toInt ∧ k.toInt ≤ 2 then upd h k.toNatClampNeg 1 else h
def r_back (h : Nat → Int32) (k : Int32) : Int32 := if 0 ≤ k.toInt ∧ k.toInt ≤ 2 then (if h k.toNatClampNeg = 0 then -6 else 0) else -2
abbrev in3 (x : Int32) : Prop := 0 ≤ x.toInt ∧ x.toInt ≤ 3
def r_row (s w n : Int32) : Int32 := if in3 s ∧ in3 w ∧ n.toInt ≤ 60 then (if n.toInt < 0 then -3 else 0) else -2
def k_row (f : Nat → Int32) (s w n v : Int32) : Nat → Int32 := if (in3 s ∧ in3 w ∧ n.toInt ≤ 60) ∧ 0 ≤ n.toInt then upd f s.toNatClampNeg v else f
def r_write (nn le : Nat → Int32) (s i : Int32) : Int32 := if in3 s then (if nn s.toNatClampNeg = -1 then -6 else if 0 ≤ i.toInt ∧ i.toInt < (le s.toNatClampNeg).toInt then 0 else -7) else -2
def r_paste (nn wd le : Nat → Int32) (s i t k n : Int32) : Int32 := if in3 s ∧ in3 t then (if nn s.toNatClampNeg = -1 ∨ nn t.toNatClampNeg = -1 then -6 else if ¬ wd s.toNatClampNeg = wd t.toNatClampNeg then -8 else if (0 ≤ i.toInt ∧ 0 ≤ n.toInt ∧ i.toInt + n.toInt ≤ (le s.toNatClampNeg).toInt) ∧ 0 ≤ k.toInt ∧ 0 ≤ n.toInt ∧ k.toInt + n.toInt ≤ (le t.toNatClampNeg).toInt then 0 else -7) else -2
theorem l_ti (x : Int32) : x.toInt64.toInt = x.toInt := Int32.toInt_toInt64 x
theorem ladd_i {z : Int64} {a b : Int32} (e : z = a.toInt64 + b.toInt64) : z.toInt = a.toInt + b.toInt := by
  have h1 := iv_full a
  have h2 := iv_full b
  obtain ⟨p1, p2⟩ := h1
  obtain ⟨q1, q2⟩ := h2
  rw [e, Int64.toInt_add, l_ti, l_ti]
  exact Int.bmod_eq_of_le (by omega) (by omega)
theorem l_nz {lo hi : Int} {x : Int32} (h : Iv lo hi x) (h0 : 1 ≤ lo) : ¬ x.toInt64 = 0 := fun q => by
  have e := congrArg Int64.toInt q
  rw [l_ti] at e
  have z : (0 : Int64).toInt = 0 := rfl
  rw [z] at e
  have p1 := h.1
  omega
theorem hd_add {i n : Int32} {N : Nat} {le : Int32} {a b c d : Int} (hi : Iv a b i) (h0 : 0 ≤ a) (hn : Iv c d n) (h1 : 0 ≤ c) (h : i.toInt + n.toInt ≤ le.toInt) (hl : Iv 0 60 le) (hN : 60 ≤ N) : i.toNatClampNeg + n.toNatClampNeg ≤ N := by
  have e1 := cl_int hi h0
  have e2 := cl_int hn h1
  have e3 := hl.2
  omega
theorem ti_div {x y z : Int32} {k : Int} (e : z = x / y) (hk : y.toInt = k) (h1 : 1 ≤ k) (h0 : 0 ≤ x.toInt) : z.toInt = x.toInt / k := by
  have q := (iv_full x).2
  have d2 : x.toInt.tdiv k = x.toInt / k := Int.tdiv_eq_ediv_of_nonneg h0
  have d1 : 0 ≤ x.toInt / k := Int.ediv_nonneg h0 (by omega)
  have d4 : x.toInt / k ≤ x.toInt := Int.ediv_le_self _ h0
  rw [e, Int32.toInt_div, hk, d2]
  exact iv_bm (by omega) (by omega)
theorem iv_div {a b u : Int} {x y z : Int32} {k : Int} (e : z = x / y) (hx : Iv a b x) (hk : y.toInt = k) (h0 : 0 ≤ a) (h1 : 1 ≤ k) (h2 : b / k ≤ u) : Iv 0 u z := by
  obtain ⟨p1, p2⟩ := hx
  have ez := ti_div e hk h1 (Int.le_trans h0 p1)
  have d1 : 0 ≤ x.toInt / k := Int.ediv_nonneg (by omega) (by omega)
  have d3 : x.toInt / k ≤ b / k := Int.ediv_le_ediv (by omega) p2
  exact ⟨by omega, by omega⟩
theorem ti_rem {x y z : Int32} {k : Int} (e : z = x - x / y * y) (hk : y.toInt = k) (h1 : 1 ≤ k) (h0 : 0 ≤ x.toInt) : z.toInt = x.toInt % k := by
  have q := (iv_full x).2
  have ed := ti_div (z := x / y) rfl hk h1 h0
  have d1 : 0 ≤ x.toInt / k := Int.ediv_nonneg h0 (by omega)
  have m1 := Int.mul_ediv_add_emod x.toInt k
  have m2 := Int.emod_nonneg x.toInt (show k ≠ 0 by omega)
  have m3 : x.toInt / k * k = k * (x.toInt / k) := Int.mul_comm _ _
  have m4 : 0 ≤ x.toInt / k * k := Int.mul_nonneg d1 (by omega)
  rw [e, Int32.toInt_sub, Int32.toInt_mul, ed, hk, iv_bm (z := x.toInt / k * k) (by omega) (by omega), iv_bm (by omega) (by omega)]
  omega
theorem iv_rem {a b u : Int} {x y z : Int32} {k : Int} (e : z = x - x / y * y) (hx : Iv a b x) (hk : y.toInt = k) (h0 : 0 ≤ a) (h1 : 1 ≤ k) (h2 : k - 1 ≤ u) : Iv 0 u z := by
  have q := ti_rem e hk h1 (Int.le_trans h0 hx.1)
  have d1 := Int.emod_nonneg x.toInt (show k ≠ 0 by omega)
  have d2 := Int.emod_lt_of_pos x.toInt (show 0 < k by omega)
  exact ⟨by omega, by omega⟩
theorem lv_iv {lo hi : Int} {x : Int32} (h : Iv lo hi x) : lo ≤ x.toInt64.toInt ∧ x.toInt64.toInt ≤ hi := by
  rw [l_ti]
  exact h
theorem iv_lv {lo hi : Int} {x : Int32} (h : lo ≤ x.toInt64.toInt ∧ x.toInt64.toInt ≤ hi) : Iv lo hi x := by
  rw [l_ti] at h
  exact h
theorem l2i_iv {lo hi : Int} {x : Int64} {z : Int32} (e : z = x.toInt32) (h : lo ≤ x.toInt ∧ x.toInt ≤ hi) (h1 : -2147483648 ≤ lo) (h2 : hi ≤ 2147483647) : Iv lo hi z := by
  rw [e]
  unfold Iv
  rw [Int64.toInt_toInt32, iv_bm (by omega) (by omega)]
  exact h
theorem cl_ne {lo hi : Int} {i : Int32} {j : Nat} (h : Iv lo hi i) (h0 : 0 ≤ lo) (h1 : (j : Int) < lo ∨ hi < (j : Int)) : j ≠ i.toNatClampNeg := fun q => by
  have c := cl_int h h0
  obtain ⟨p1, p2⟩ := h
  omega
theorem ne_m1 {lo hi : Int} {x : Int32} (h : Iv lo hi x) (h0 : 0 ≤ lo) : ¬ x = -1 := fun q => by
  have p1 := h.1
  rw [q] at p1
  have z : (-1 : Int32).toInt = -1 := rfl
  omega
