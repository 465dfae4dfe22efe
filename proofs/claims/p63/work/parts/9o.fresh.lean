def fa (h : Nat) (u : Nat → Nat) : Nat → Nat := fun i => if i = 0 then h else u (i - 1)
def fcs (g : Nat → Nat → Int32) : CT := fun c => if c = 1 then (fun j => if j = 3 then -1 else 0) else if c = 14 then g 0 else if c = 28 then g 1 else if c = 34 then g 2 else if c = 52 then g 3 else if c = 58 then g 4 else if c = 75 then g 5 else if c = 81 then g 6 else if c = 98 then g 7 else if c = 104 then g 8 else if c = 122 then g 9 else if c = 131 then g 10 else if c = 137 then g 11 else if c = 143 then g 12 else if c = 149 then g 13 else if c = 155 then g 14 else if c = 112 then g 15 else fun _ => 0
def fms (g : Nat → Nat → Int32) : CT := fun c => if c = 18 then g 0 else if c = 0 then (fun j => if j = 13 then -1 else 0) else fun _ => 0
def fls : CL := fun _ _ => 0
def fspc : List Nat := [14, 28, 34, 52, 58, 75, 81, 98, 104, 122, 131, 137, 143, 149, 155, 112, 1]
theorem fsp_kd : ∀ c ∈ fspc, kd c = 0 := by decide
theorem ki_zero (t : Nat) : KI t (fun _ => 0) := by
  unfold KI
  split <;> first | trivial | (intro j _; exact (show Iv _ _ (0 : Int32) from ⟨by decide, by decide⟩)) | ((repeat' apply And.intro) <;> decide)
theorem fcs_z {g : Nat → Nat → Int32} {c : Nat} (h : c ∉ fspc) : fcs g c = fun _ => 0 := by
  unfold fcs
  rw [if_neg (fun e => h (by subst e; decide))]
  rw [if_neg (fun e => h (by subst e; decide))]
  rw [if_neg (fun e => h (by subst e; decide))]
  rw [if_neg (fun e => h (by subst e; decide))]
  rw [if_neg (fun e => h (by subst e; decide))]
  rw [if_neg (fun e => h (by subst e; decide))]
  rw [if_neg (fun e => h (by subst e; decide))]
  rw [if_neg (fun e => h (by subst e; decide))]
  rw [if_neg (fun e => h (by subst e; decide))]
  rw [if_neg (fun e => h (by subst e; decide))]
  rw [if_neg (fun e => h (by subst e; decide))]
  rw [if_neg (fun e => h (by subst e; decide))]
  rw [if_neg (fun e => h (by subst e; decide))]
  rw [if_neg (fun e => h (by subst e; decide))]
  rw [if_neg (fun e => h (by subst e; decide))]
  rw [if_neg (fun e => h (by subst e; decide))]
  rw [if_neg (fun e => h (by subst e; decide))]
theorem cb_fresh (g : Nat → Nat → Int32) : CB (fcs g) := fun c => by
  by_cases hz : kd c = 0
  · rw [hz]
    exact trivial
  · rw [fcs_z (fun q => hz (fsp_kd c q))]
    exact ki_zero _
theorem tok_zero : TOK (fun _ => 0) := fun j hj => ⟨(tb_z j hj).1, (tb_z j hj).2⟩
theorem mki_zero (t : Nat) : MKI t (fun _ => 0) := by
  unfold MKI
  split <;> first | trivial | exact ⟨tok_zero, rfl⟩ | (intro j _; exact (show Iv _ _ (0 : Int32) from ⟨by decide, by decide⟩)) | ((repeat' apply And.intro) <;> decide)
theorem mb_fresh {g : Nat → Nat → Int32} (hv : ∀ j : Nat, j < 4 → g 0 j = -1) : MB (fms g) := fun c => by
  by_cases h1 : c = 18
  · subst h1
    show ∀ j : Nat, j < 4 → Iv (-1) 60 (g 0 j)
    intro j hj
    rw [hv j hj]
    exact ⟨by decide, by decide⟩
  · by_cases h2 : c = 0
    · subst h2
      show MKI 1 (fun j => if j = 13 then -1 else 0)
      unfold MKI
      (repeat' apply And.intro) <;> decide
    · have e : fms g c = fun _ => 0 := by unfold fms; rw [if_neg h1, if_neg h2]
      rw [e]
      exact mki_zero _
theorem inv_fresh {g g2 : Nat → Nat → Int32} (hu : ∀ j : Nat, j < 4 → g 15 j = -1) (hv : ∀ j : Nat, j < 4 → g2 0 j = -1) : INV (fcs g) (fms g2) := by
  refine ⟨cb_fresh g, ⟨wi_zero rfl, wi_zero rfl, wi_zero rfl, wi_zero rfl⟩, mb_fresh hv, ⟨tok_zero, fun j hj => ?_⟩, fun k hk hn => absurd rfl hn, fun j hj => Iff.rfl, fun j hj => ?_⟩
  · have z : ((fms g2 1) 7).toInt = 0 := rfl
    rw [z] at hj
    omega
  · have e1 : fcs g 112 j = -1 := hu j hj
    have e2 : fms g2 18 j = -1 := hv j hj
    exact ⟨⟨fun _ => e2, fun _ => e1⟩, fun q => absurd e1 q⟩
