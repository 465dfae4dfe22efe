/-! two worlds side by side -/
theorem p_left {D : va_G} {w1 w2 : va_W} {H : Heap} (h : va_P D vwCl (w1 ++ w2) H) : va_P D vwCl w1 H := fun i z hi => h i z (by
  have hl : i < w1.length := (List.getElem?_eq_some_iff.mp hi).1
  rw [List.getElem?_append_left hl]
  exact hi)
theorem p_right {D : va_G} {w1 w2 : va_W} {H : Heap} (h : va_P D vwCl (w1 ++ w2) H) : va_P D vwCl w2 H := fun i z hi => h (w1.length + i) z (by
  rw [List.getElem?_append_right (Nat.le_add_right _ _), Nat.add_sub_cancel_left]
  exact hi)
theorem p_both {D : va_G} {w1 w2 : va_W} {H : Heap} (h1 : va_P D vwCl w1 H) (h2 : va_P D vwCl w2 H) : va_P D vwCl (w1 ++ w2) H := fun i z hi => by
  by_cases q : i < w1.length
  · rw [List.getElem?_append_left q] at hi
    exact h1 i z hi
  · rw [List.getElem?_append_right (Nat.le_of_not_lt q)] at hi
    exact h2 _ z hi
theorem fm_cg {α : Type} {f g : Nat → Option α} : ∀ (l : List Nat), (∀ i ∈ l, f i = g i) → l.filterMap f = l.filterMap g := by
  intro l
  induction l with
  | nil => intro _; rfl
  | cons a l ih =>
    intro h
    rw [List.filterMap_cons, List.filterMap_cons, h a List.mem_cons_self, ih (fun i hi => h i (List.mem_cons_of_mem _ hi))]
theorem fm_l (w1 w2 : va_W) : (List.range w1.length).filterMap (fun i => (w1 ++ w2)[i]?) = w1 :=
  (fm_cg _ (fun i hi => List.getElem?_append_left (List.mem_range.mp hi))).trans (fm_range w1)
theorem fm_r (w1 w2 : va_W) : ((List.range w2.length).map (fun i => w1.length + i)).filterMap (fun i => (w1 ++ w2)[i]?) = w2 := by
  rw [List.filterMap_map]
  have e : ((fun i => (w1 ++ w2)[i]?) ∘ fun i => w1.length + i) = fun i => w2[i]? := by
    funext i
    show (w1 ++ w2)[w1.length + i]? = _
    rw [List.getElem?_append_right (Nat.le_add_right _ _), Nat.add_sub_cancel_left]
  rw [e]
  exact fm_range w2
theorem nd_r (n k : Nat) : va_nd ((List.range k).map (fun i => n + i)) = true := nd_of (by
  rw [List.nodup_iff_pairwise_ne] at *
  rw [List.pairwise_map]
  exact (List.nodup_iff_pairwise_ne.mp (List.nodup_range (n := k))).imp (fun h q => h (by omega)))
theorem d_left {A : Nat → Prop} {w1 w2 : va_W} (h : va_D A (w1 ++ w2)) : va_D A w1 := d_sub h (List.range w1.length) (nd_of List.nodup_range) (fm_l w1 w2)
theorem d_swap {A : Nat → Prop} {w1 w2 : va_W} (h : va_D A (w1 ++ w2)) : va_D A (w2 ++ w1) := by
  refine d_sub h ((List.range w2.length).map (fun i => w1.length + i) ++ List.range w1.length) ?_ ?_
  · refine nd_of ?_
    rw [List.nodup_append]
    refine ⟨?_, List.nodup_range, ?_⟩
    · rw [List.nodup_iff_pairwise_ne, List.pairwise_map]
      exact (List.nodup_iff_pairwise_ne.mp (List.nodup_range (n := w2.length))).imp (fun h q => h (by omega))
    · intro a ha b hb e
      obtain ⟨i, hi, rfl⟩ := List.mem_map.mp ha
      have := List.mem_range.mp hb
      omega
  · rw [List.filterMap_append, fm_r, fm_l]
section TWO
variable {p : Program} {l : Launch} {e : Env} {R : Room} {s : State} {m : MethodId} {args : Array Value} {below : List Frame} {meth : Method} {c : Code} {H : Heap} {locs : List Loc} {cells slots : Nat} {Q : State → Prop} {pc : Nat} {ls : Array Slot} {rest stk : List Value} {D : va_G} {A : Nat → Prop} {H0 : Heap} {w1 w2 : va_W}
theorem tw_i {S : Type} {post : Int32 → S → Prop} {OUT : S → va_W} {a9 : Array Value} (hP1 : va_P D vwCl w1 H) (hP2 : va_P D vwCl w2 H) (hD : va_D A (w1 ++ w2)) (hS : va_S A H0 H locs) (hA : ∀ q, H0.size ≤ q → A q)
    (hr : va_D (fun _ => True) w1 → va_Run p l e R s m args below meth c H locs cells slots 0 0 (F0 m pc ls stk) rest (QI D post OUT (fun _ => []) w1 H.size a9) (va_A w1 H.size))
    (kk : ∀ (r : Int32) (u : S) (H1 : Heap) (locs1 : List Loc), post r u → va_P D vwCl (OUT u) H1 → va_P D vwCl w2 H1 → va_D A (OUT u ++ w2) → va_S A H0 H1 locs1 → W p l e R s m args below meth c H1 locs1 cells slots Q (F0 m (pc + 3) ls (.int r :: rest))) : W p l e R s m args below meth c H locs cells slots Q (F0 m pc ls stk) :=
  rw_i (mc := 0) (ms := 0) (ws := w1 ++ w2) (wc := w1) (wr := w2) (List.range w1.length) ((List.range w2.length).map (fun i => w1.length + i)) (fm_l w1 w2) (fm_r w1 w2) (nd_of List.nodup_range) (nd_r _ _) (fun i hi hc => by
    obtain ⟨j, hj, rfl⟩ := List.mem_map.mp hi
    have := List.mem_range.mp hc
    omega) (p_both hP1 hP2) hD hS hA (fun _ hDc => hr hDc) (fun r u H1 locs1 h1 _ hP1 hD1 hS1 => kk r u H1 locs1 h1 (p_right hP1) (p_left hP1) (d_swap hD1) hS1)
end TWO
/-- what the two have in common -/
def KR (f g : Nat → Int32) : Prop := ∀ j : Nat, j < 3 → (f j = 0 ↔ g j = 0)
def SR (wd le mn wt : Nat → Int32) : Prop := ∀ j : Nat, j < 4 → (wd j = -1 ↔ mn j = -1) ∧ (¬ wd j = -1 → le j = mn j ∧ wd j = wt j)
def REL (st mt : CT) : Prop := KR (st 110) (mt 3) ∧ SR (st 112) (st 113) (mt 18) (mt 19)
def INV (st mt : CT) : Prop := CB st ∧ XB st ∧ MB mt ∧ WOK (mt 1) ∧ XM mt ∧ REL st mt
theorem rel_fr {st mt u v : CT} (h : REL st mt) (e1 : u 110 = st 110) (e2 : u 112 = st 112) (e3 : u 113 = st 113) (e4 : v 3 = mt 3) (e5 : v 18 = mt 18) (e6 : v 19 = mt 19) : REL u v := by
  unfold REL
  rw [e1, e2, e3, e4, e5, e6]
  exact h
def XCL : List Nat := [17, 37, 38, 39, 41, 61, 62, 63, 64, 84, 85, 86, 87, 107, 108, 109]
theorem xb_fr {M : List Nat} {st u : CT} (h : XB st) (g : FR M st u) (hM : ∀ c ∈ XCL, c ∉ M) : XB u := by
  have e : ∀ c ∈ XCL, u c = st c := fun c hc => g c (hM c hc)
  refine ⟨?_, ?_, ?_, ?_⟩
  · exact wi_fr h.1 (congrFun (e 17 (by decide)) 2) (e 37 (by decide)) (e 38 (by decide)) (e 39 (by decide))
  · exact wi_fr h.2.1 (congrFun (e 41 (by decide)) 2) (e 61 (by decide)) (e 62 (by decide)) (e 63 (by decide))
  · exact wi_fr h.2.2.1 (congrFun (e 64 (by decide)) 2) (e 84 (by decide)) (e 85 (by decide)) (e 86 (by decide))
  · exact wi_fr h.2.2.2 (congrFun (e 87 (by decide)) 2) (e 107 (by decide)) (e 108 (by decide)) (e 109 (by decide))
theorem xb_17 {M : List Nat} {st u : CT} (h : XB st) (w : WI u 17) (g : FR M st u) (hM : ∀ c ∈ XCL.drop 4, c ∉ M) : XB u := by
  have e : ∀ c ∈ XCL.drop 4, u c = st c := fun c hc => g c (hM c hc)
  refine ⟨w, ?_, ?_, ?_⟩
  · exact wi_fr h.2.1 (congrFun (e 41 (by decide)) 2) (e 61 (by decide)) (e 62 (by decide)) (e 63 (by decide))
  · exact wi_fr h.2.2.1 (congrFun (e 64 (by decide)) 2) (e 84 (by decide)) (e 85 (by decide)) (e 86 (by decide))
  · exact wi_fr h.2.2.2 (congrFun (e 87 (by decide)) 2) (e 107 (by decide)) (e 108 (by decide)) (e 109 (by decide))
theorem kr_image {f g : Nat → Int32} {k : Int32} (h : KR f g) : KR (k_image f k) (k_image g k) := fun j hj => by
  unfold k_image
  by_cases q : 0 ≤ k.toInt ∧ k.toInt ≤ 2
  · rw [if_pos q, if_pos q]
    by_cases q2 : j = k.toNatClampNeg
    · rw [q2, upd_at, upd_at]
    · rw [upd_no q2, upd_no q2]
      exact h j hj
  · rw [if_neg q, if_neg q]
    exact h j hj
theorem sr_row {wd le mn wt : Nat → Int32} {s w n : Int32} (h : SR wd le mn wt) : SR (k_row wd s w n w) (k_row le s w n n) (k_row mn s w n n) (k_row wt s w n w) := fun j hj => by
  unfold k_row
  by_cases q : (in3 s ∧ in3 w ∧ n.toInt ≤ 60) ∧ 0 ≤ n.toInt
  · rw [if_pos q, if_pos q, if_pos q, if_pos q]
    by_cases q2 : j = s.toNatClampNeg
    · rw [q2, upd_at, upd_at, upd_at, upd_at]
      have hw : ¬ w = -1 := fun z => by
        have := q.1.2.1.1
        rw [z] at this
        exact absurd this (by decide)
      have hn : ¬ n = -1 := fun z => by
        have := q.2
        rw [z] at this
        exact absurd this (by decide)
      exact ⟨⟨fun z => absurd z hw, fun z => absurd z hn⟩, fun _ => ⟨rfl, rfl⟩⟩
    · rw [upd_no q2, upd_no q2, upd_no q2, upd_no q2]
      exact h j hj
  · rw [if_neg q, if_neg q, if_neg q, if_neg q]
    exact h j hj
theorem rel_row {st mt u v : CT} {s w n : Int32} (h : REL st mt) (e1 : u 110 = st 110) (e2 : u 112 = k_row (st 112) s w n w) (e3 : u 113 = k_row (st 113) s w n n) (e4 : v 3 = mt 3) (e5 : v 18 = k_row (mt 18) s w n n) (e6 : v 19 = k_row (mt 19) s w n w) : REL u v := by
  unfold REL
  rw [e1, e2, e3, e4, e5, e6]
  exact ⟨h.1, sr_row h.2⟩
theorem in3_lt {s : Int32} (h : in3 s) : s.toNatClampNeg < 4 := by
  have c := cl_int (lo := 0) (hi := 3) h (by decide)
  have h2 := h.2
  omega
theorem eq_back {f g : Nat → Int32} {k : Int32} (h : KR f g) : r_back f k = r_back g k := by
  unfold r_back
  by_cases q : 0 ≤ k.toInt ∧ k.toInt ≤ 2
  · rw [if_pos q, if_pos q]
    have c := cl_int (lo := 0) (hi := 2) q (by decide)
    have hk := h k.toNatClampNeg (by omega)
    by_cases q2 : f k.toNatClampNeg = 0
    · rw [if_pos q2, if_pos (hk.mp q2)]
    · rw [if_neg q2, if_neg (fun z => q2 (hk.mpr z))]
  · rw [if_neg q, if_neg q]
theorem eq_write {wd le mn wt : Nat → Int32} {s i : Int32} (h : SR wd le mn wt) : r_write wd le s i = r_write mn mn s i := by
  unfold r_write
  by_cases q : in3 s
  · rw [if_pos q, if_pos q]
    have hk := h s.toNatClampNeg (in3_lt q)
    by_cases q2 : wd s.toNatClampNeg = -1
    · rw [if_pos q2, if_pos (hk.1.mp q2)]
    · rw [if_neg q2, if_neg (fun z => q2 (hk.1.mpr z)), (hk.2 q2).1]
  · rw [if_neg q, if_neg q]
theorem eq_paste {wd le mn wt : Nat → Int32} {s i t k n : Int32} (h : SR wd le mn wt) : r_paste wd wd le s i t k n = r_paste mn wt mn s i t k n := by
  unfold r_paste
  by_cases q : in3 s ∧ in3 t
  · rw [if_pos q, if_pos q]
    have h1 := h s.toNatClampNeg (in3_lt q.1)
    have h2 := h t.toNatClampNeg (in3_lt q.2)
    by_cases q2 : wd s.toNatClampNeg = -1 ∨ wd t.toNatClampNeg = -1
    · rw [if_pos q2, if_pos (q2.elim (fun z => Or.inl (h1.1.mp z)) (fun z => Or.inr (h2.1.mp z)))]
    · have q3 : ¬ (mn s.toNatClampNeg = -1 ∨ mn t.toNatClampNeg = -1) := fun z => q2 (z.elim (fun z => Or.inl (h1.1.mpr z)) (fun z => Or.inr (h2.1.mpr z)))
      rw [if_neg q2, if_neg q3, (h1.2 (fun z => q2 (Or.inl z))).1, (h1.2 (fun z => q2 (Or.inl z))).2, (h2.2 (fun z => q2 (Or.inr z))).1, (h2.2 (fun z => q2 (Or.inr z))).2]
  · rw [if_neg q, if_neg q]
def LSX (p : Program) (s : State) (m : MethodId) (c : Code) (b L : Nat) (xs : Nat → Int32) (D : va_G) (k : Nat → ClassId) : Prop :=
  CallFix p m c cL_law 4 s #[Value.ref b] TB RL ∧ va_K D vwCl (KT k) s ∧ NX s ∧ NS (fun z : Nat => s.heap.size ≤ z) s s.heap ∧ va_X b L xs s s.heap ∧ b < s.heap.size
