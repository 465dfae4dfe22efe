/-! acts: what is kept of them can be done -/
def PA (k o t : Int32) : Prop := (k = 0 → Iv 0 2 o) ∧ (k = 1 → Iv 0 7 o ∧ Iv 0 7 t) ∧ (¬ k = 0 → ¬ k = 1 → Iv 0 7 o)
def WI (st : CT) (w : Nat) : Prop := ∀ j : Nat, (j : Int) < (st w 2).toInt → PA (st (w + 20) j) (st (w + 21) j) (st (w + 22) j)
def XB (st : CT) : Prop := WI st 17 ∧ WI st 41 ∧ WI st 64 ∧ WI st 87
theorem cl_int {lo hi : Int} {i : Int32} (h : Iv lo hi i) (h0 : 0 ≤ lo) : (i.toNatClampNeg : Int) = i.toInt := by
  obtain ⟨p1, p2⟩ := h
  show ((i.toInt.toNat : Nat) : Int) = i.toInt
  omega
theorem pa_0 {o t : Int32} (h : Iv 0 2 o) : PA 0 o t := ⟨fun _ => h, fun q => absurd q (by decide), fun q _ => absurd rfl q⟩
theorem pa_1 {o t : Int32} (h : Iv 0 7 o) (h2 : Iv 0 7 t) : PA 1 o t := ⟨fun q => absurd q (by decide), fun _ => ⟨h, h2⟩, fun _ q => absurd rfl q⟩
theorem pa_2 {o t : Int32} (h : Iv 0 7 o) : PA 2 o t := ⟨fun q => absurd q (by decide), fun q => absurd q (by decide), fun _ _ => h⟩
theorem wi_fr {st u : CT} {w : Nat} (h : WI st w) (e0 : u w 2 = st w 2) (e1 : u (w + 20) = st (w + 20)) (e2 : u (w + 21) = st (w + 21)) (e3 : u (w + 22) = st (w + 22)) : WI u w := fun j hj => by
  rw [e0] at hj
  rw [e1, e2, e3]
  exact h j hj
theorem wi_zero {u : CT} {w : Nat} (e : u w 2 = 0) : WI u w := fun j hj => by
  rw [e] at hj
  have z : (0 : Int32).toInt = 0 := rfl
  rw [z] at hj
  omega
theorem wi_keep {st u : CT} {w : Nat} {p0 : Int32} (h : WI st w) (hn : p0.toInt ≤ (st w 2).toInt) (e0 : u w 2 = p0) (e1 : u (w + 20) = st (w + 20)) (e2 : u (w + 21) = st (w + 21)) (e3 : u (w + 22) = st (w + 22)) : WI u w := fun j hj => by
  rw [e0] at hj
  rw [e1, e2, e3]
  exact h j (by omega)
theorem upd_at {f : Nat → Int32} {i : Nat} {v : Int32} : upd f i v i = v := if_pos rfl
theorem upd_no {f : Nat → Int32} {i j : Nat} {v : Int32} (h : j ≠ i) : upd f i v j = f j := if_neg h
theorem wi_act {st u : CT} {w : Nat} {a b k o t : Int32} (h : WI st w) (ha : a = st w 2) (hr : Iv 0 39 a) (e0 : u w 2 = b) (eb : b.toInt = a.toInt + 1) (e1 : u (w + 20) = upd (st (w + 20)) a.toNatClampNeg k) (e2 : u (w + 21) = upd (st (w + 21)) a.toNatClampNeg o) (e3 : u (w + 22) = upd (st (w + 22)) a.toNatClampNeg t) (hp : PA k o t) : WI u w := fun j hj => by
  have c := cl_int hr (by decide)
  rw [e0, eb] at hj
  rw [e1, e2, e3]
  by_cases q : j = a.toNatClampNeg
  · subst q
    rw [upd_at, upd_at, upd_at]
    exact hp
  · rw [upd_no q, upd_no q, upd_no q]
    refine h j ?_
    rw [← ha]
    omega
theorem wi_copy {st u : CT} {w d : Nat} (h : WI st w) (hb : Iv 0 40 (st w 2)) (e0 : u d 2 = st w 2) (e1 : ∀ j : Nat, j < 40 → u (d + 20) j = st (w + 20) j) (e2 : ∀ j : Nat, j < 40 → u (d + 21) j = st (w + 21) j) (e3 : ∀ j : Nat, j < 40 → u (d + 22) j = st (w + 22) j) : WI u d := fun j hj => by
  rw [e0] at hj
  have h2 := hb.2
  rw [e1 j (by omega), e2 j (by omega), e3 j (by omega)]
  exact h j hj
theorem pa_of {st v : CT} {w : Nat} {z1 z2 z3 i p0 : Int32} (h : WI st w) (hi : Iv 0 39 i) (hl : i.toInt < p0.toInt) (hn : p0.toInt ≤ (st w 2).toInt) (e1 : z1 = v (w + 20) i.toNatClampNeg) (e2 : z2 = v (w + 21) i.toNatClampNeg) (e3 : z3 = v (w + 22) i.toNatClampNeg) (f1 : v (w + 20) = st (w + 20)) (f2 : v (w + 21) = st (w + 21)) (f3 : v (w + 22) = st (w + 22)) : PA z1 z2 z3 := by
  have c := cl_int hi (by decide)
  rw [e1, e2, e3, f1, f2, f3]
  exact h _ (by omega)
