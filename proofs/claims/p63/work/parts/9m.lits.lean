theorem lit_of {args : Array Value} {s : State} {own tx : String} {idx : Nat} {bs : List Int32} {A : Nat → Prop} (hA : ∀ a : Nat, a < s.heap.size → ¬ A a) (hN : bs.length < 2 ^ 31) (hr : (Cond.stringRef own idx tx).before args s = true) (h1 : (Cond.exactly (.string own idx) "java/lang/String").before args s = true) (h2 : (Cond.eq (.field (.string own idx) "java/lang/String" "coder" "B") (.int 0)).before args s = true) (h3 : (Cond.arrayOf (.field (.string own idx) "java/lang/String" "value" "[B") .byte).before args s = true) (h4 : (Cond.eq (.length (.field (.string own idx) "java/lang/String" "value" "[B")) (.int (Int32.ofNat bs.length))).before args s = true) (h5 : ∀ j : Nat, j < bs.length → (Cond.eq (.elem (.field (.string own idx) "java/lang/String" "value" "[B") (.int (Int32.ofNat j))) (.int (bs.getD j 0))).before args s = true) : ∃ w : Nat, vk_R own idx tx w s ∧ STA A w bs.length (fun j => bs.getD j 0) s s.heap := by
  obtain ⟨a, c, cA, kA, q1, q2, q3, q4, q5, q6, -⟩ := Cond.exactly_spec (args := args) (first := s) (o := none) (s := s) (idx := []) (t := .string own idx) (cls := "java/lang/String") h1
  obtain ⟨t, ht, hT⟩ := va_Tof (f := fun j => .int (bs.getD j 0)) (A := A) hN h3 (va_eqt h4) (fun j hj => va_eqt (h5 j hj)) hA
  exact ⟨a, vk_R.of hr q1, t, ⟨cA, q3, q5, by rw [q6]; exact q2, hA a (Array.getElem?_eq_some_iff.mp q3).1⟩, vk_OFof q1 (va_eqt h2) hA, vk_OFof q1 ht hA, hT⟩
theorem lit_0 {b : Nat} {s : State} {A : Nat → Prop} (hA : ∀ a : Nat, a < s.heap.size → ¬ A a) (hts : ∀ w ∈ lw_tbl, w.before #[Value.ref b] s = true) (hs : ∀ c ∈ flatC (Jvm.Cond.and given_1 narrow_1), c.before #[Value.ref b] s = true) : ∃ w : Nat, vk_R RX2 81 "land" w s ∧ STA A w ([108, 97, 110, 100] : List Int32).length (fun j => ([108, 97, 110, 100] : List Int32).getD j 0) s s.heap := by
  refine lit_of (args := #[Value.ref b]) (bs := ([108, 97, 110, 100] : List Int32)) hA (by decide) (hts _ (List.mem_of_getElem? (i := 554) (by decide +kernel))) (hs _ (List.mem_of_getElem? (i := 31) (by decide +kernel))) (hs _ (List.mem_of_getElem? (i := 32) (by decide +kernel))) (hs _ (List.mem_of_getElem? (i := 33) (by decide +kernel))) (hs _ (List.mem_of_getElem? (i := 34) (by decide +kernel))) (fun j hj => ?_)
  replace hj : j < 4 := hj
  rcases (show j = 0 ∨ j = 1 ∨ j = 2 ∨ j = 3 by omega) with rfl | rfl | rfl | rfl
  · exact hs _ (List.mem_of_getElem? (i := 35) (by decide +kernel))
  · exact hs _ (List.mem_of_getElem? (i := 36) (by decide +kernel))
  · exact hs _ (List.mem_of_getElem? (i := 37) (by decide +kernel))
  · exact hs _ (List.mem_of_getElem? (i := 38) (by decide +kernel))
theorem lit_1 {b : Nat} {s : State} {A : Nat → Prop} (hA : ∀ a : Nat, a < s.heap.size → ¬ A a) (hts : ∀ w ∈ lw_tbl, w.before #[Value.ref b] s = true) (hs : ∀ c ∈ flatC (Jvm.Cond.and given_1 narrow_1), c.before #[Value.ref b] s = true) : ∃ w : Nat, vk_R RX2 87 "places" w s ∧ STA A w ([112, 108, 97, 99, 101, 115] : List Int32).length (fun j => ([112, 108, 97, 99, 101, 115] : List Int32).getD j 0) s s.heap := by
  refine lit_of (args := #[Value.ref b]) (bs := ([112, 108, 97, 99, 101, 115] : List Int32)) hA (by decide) (hts _ (List.mem_of_getElem? (i := 615) (by decide +kernel))) (hs _ (List.mem_of_getElem? (i := 39) (by decide +kernel))) (hs _ (List.mem_of_getElem? (i := 40) (by decide +kernel))) (hs _ (List.mem_of_getElem? (i := 41) (by decide +kernel))) (hs _ (List.mem_of_getElem? (i := 42) (by decide +kernel))) (fun j hj => ?_)
  replace hj : j < 6 := hj
  rcases (show j = 0 ∨ j = 1 ∨ j = 2 ∨ j = 3 ∨ j = 4 ∨ j = 5 by omega) with rfl | rfl | rfl | rfl | rfl | rfl
  · exact hs _ (List.mem_of_getElem? (i := 43) (by decide +kernel))
  · exact hs _ (List.mem_of_getElem? (i := 44) (by decide +kernel))
  · exact hs _ (List.mem_of_getElem? (i := 45) (by decide +kernel))
  · exact hs _ (List.mem_of_getElem? (i := 46) (by decide +kernel))
  · exact hs _ (List.mem_of_getElem? (i := 47) (by decide +kernel))
  · exact hs _ (List.mem_of_getElem? (i := 48) (by decide +kernel))
theorem lit_2 {b : Nat} {s : State} {A : Nat → Prop} (hA : ∀ a : Nat, a < s.heap.size → ¬ A a) (hts : ∀ w ∈ lw_tbl, w.before #[Value.ref b] s = true) (hs : ∀ c ∈ flatC (Jvm.Cond.and given_1 narrow_1), c.before #[Value.ref b] s = true) : ∃ w : Nat, vk_R RX2 93 "hand" w s ∧ STA A w ([104, 97, 110, 100] : List Int32).length (fun j => ([104, 97, 110, 100] : List Int32).getD j 0) s s.heap := by
  refine lit_of (args := #[Value.ref b]) (bs := ([104, 97, 110, 100] : List Int32)) hA (by decide) (hts _ (List.mem_of_getElem? (i := 620) (by decide +kernel))) (hs _ (List.mem_of_getElem? (i := 49) (by decide +kernel))) (hs _ (List.mem_of_getElem? (i := 50) (by decide +kernel))) (hs _ (List.mem_of_getElem? (i := 51) (by decide +kernel))) (hs _ (List.mem_of_getElem? (i := 52) (by decide +kernel))) (fun j hj => ?_)
  replace hj : j < 4 := hj
  rcases (show j = 0 ∨ j = 1 ∨ j = 2 ∨ j = 3 by omega) with rfl | rfl | rfl | rfl
  · exact hs _ (List.mem_of_getElem? (i := 53) (by decide +kernel))
  · exact hs _ (List.mem_of_getElem? (i := 54) (by decide +kernel))
  · exact hs _ (List.mem_of_getElem? (i := 55) (by decide +kernel))
  · exact hs _ (List.mem_of_getElem? (i := 56) (by decide +kernel))
theorem lit_3 {b : Nat} {s : State} {A : Nat → Prop} (hA : ∀ a : Nat, a < s.heap.size → ¬ A a) (hts : ∀ w ∈ lw_tbl, w.before #[Value.ref b] s = true) (hs : ∀ c ∈ flatC (Jvm.Cond.and given_1 narrow_1), c.before #[Value.ref b] s = true) : ∃ w : Nat, vk_R RX2 53 "road" w s ∧ STA A w ([114, 111, 97, 100] : List Int32).length (fun j => ([114, 111, 97, 100] : List Int32).getD j 0) s s.heap := by
  refine lit_of (args := #[Value.ref b]) (bs := ([114, 111, 97, 100] : List Int32)) hA (by decide) (hts _ (List.mem_of_getElem? (i := 621) (by decide +kernel))) (hs _ (List.mem_of_getElem? (i := 57) (by decide +kernel))) (hs _ (List.mem_of_getElem? (i := 58) (by decide +kernel))) (hs _ (List.mem_of_getElem? (i := 59) (by decide +kernel))) (hs _ (List.mem_of_getElem? (i := 60) (by decide +kernel))) (fun j hj => ?_)
  replace hj : j < 4 := hj
  rcases (show j = 0 ∨ j = 1 ∨ j = 2 ∨ j = 3 by omega) with rfl | rfl | rfl | rfl
  · exact hs _ (List.mem_of_getElem? (i := 61) (by decide +kernel))
  · exact hs _ (List.mem_of_getElem? (i := 62) (by decide +kernel))
  · exact hs _ (List.mem_of_getElem? (i := 63) (by decide +kernel))
  · exact hs _ (List.mem_of_getElem? (i := 64) (by decide +kernel))
theorem lit_4 {b : Nat} {s : State} {A : Nat → Prop} (hA : ∀ a : Nat, a < s.heap.size → ¬ A a) (hts : ∀ w ∈ lw_tbl, w.before #[Value.ref b] s = true) (hs : ∀ c ∈ flatC (Jvm.Cond.and given_1 narrow_1), c.before #[Value.ref b] s = true) : ∃ w : Nat, vk_R RX2 103 "to" w s ∧ STA A w ([116, 111] : List Int32).length (fun j => ([116, 111] : List Int32).getD j 0) s s.heap := by
  refine lit_of (args := #[Value.ref b]) (bs := ([116, 111] : List Int32)) hA (by decide) (hts _ (List.mem_of_getElem? (i := 626) (by decide +kernel))) (hs _ (List.mem_of_getElem? (i := 65) (by decide +kernel))) (hs _ (List.mem_of_getElem? (i := 66) (by decide +kernel))) (hs _ (List.mem_of_getElem? (i := 67) (by decide +kernel))) (hs _ (List.mem_of_getElem? (i := 68) (by decide +kernel))) (fun j hj => ?_)
  replace hj : j < 2 := hj
  rcases (show j = 0 ∨ j = 1 by omega) with rfl | rfl
  · exact hs _ (List.mem_of_getElem? (i := 69) (by decide +kernel))
  · exact hs _ (List.mem_of_getElem? (i := 70) (by decide +kernel))
theorem lit_5 {b : Nat} {s : State} {A : Nat → Prop} (hA : ∀ a : Nat, a < s.heap.size → ¬ A a) (hts : ∀ w ∈ lw_tbl, w.before #[Value.ref b] s = true) (hs : ∀ c ∈ flatC (Jvm.Cond.and given_1 narrow_1), c.before #[Value.ref b] s = true) : ∃ w : Nat, vk_R RX2 108 "miles" w s ∧ STA A w ([109, 105, 108, 101, 115] : List Int32).length (fun j => ([109, 105, 108, 101, 115] : List Int32).getD j 0) s s.heap := by
  refine lit_of (args := #[Value.ref b]) (bs := ([109, 105, 108, 101, 115] : List Int32)) hA (by decide) (hts _ (List.mem_of_getElem? (i := 627) (by decide +kernel))) (hs _ (List.mem_of_getElem? (i := 71) (by decide +kernel))) (hs _ (List.mem_of_getElem? (i := 72) (by decide +kernel))) (hs _ (List.mem_of_getElem? (i := 73) (by decide +kernel))) (hs _ (List.mem_of_getElem? (i := 74) (by decide +kernel))) (fun j hj => ?_)
  replace hj : j < 5 := hj
  rcases (show j = 0 ∨ j = 1 ∨ j = 2 ∨ j = 3 ∨ j = 4 by omega) with rfl | rfl | rfl | rfl | rfl
  · exact hs _ (List.mem_of_getElem? (i := 75) (by decide +kernel))
  · exact hs _ (List.mem_of_getElem? (i := 76) (by decide +kernel))
  · exact hs _ (List.mem_of_getElem? (i := 77) (by decide +kernel))
  · exact hs _ (List.mem_of_getElem? (i := 78) (by decide +kernel))
  · exact hs _ (List.mem_of_getElem? (i := 79) (by decide +kernel))
theorem lit_6 {b : Nat} {s : State} {A : Nat → Prop} (hA : ∀ a : Nat, a < s.heap.size → ¬ A a) (hts : ∀ w ∈ lw_tbl, w.before #[Value.ref b] s = true) (hs : ∀ c ∈ flatC (Jvm.Cond.and given_1 narrow_1), c.before #[Value.ref b] s = true) : ∃ w : Nat, vk_R RX2 62 "wheel" w s ∧ STA A w ([119, 104, 101, 101, 108] : List Int32).length (fun j => ([119, 104, 101, 101, 108] : List Int32).getD j 0) s s.heap := by
  refine lit_of (args := #[Value.ref b]) (bs := ([119, 104, 101, 101, 108] : List Int32)) hA (by decide) (hts _ (List.mem_of_getElem? (i := 632) (by decide +kernel))) (hs _ (List.mem_of_getElem? (i := 80) (by decide +kernel))) (hs _ (List.mem_of_getElem? (i := 81) (by decide +kernel))) (hs _ (List.mem_of_getElem? (i := 82) (by decide +kernel))) (hs _ (List.mem_of_getElem? (i := 83) (by decide +kernel))) (fun j hj => ?_)
  replace hj : j < 5 := hj
  rcases (show j = 0 ∨ j = 1 ∨ j = 2 ∨ j = 3 ∨ j = 4 by omega) with rfl | rfl | rfl | rfl | rfl
  · exact hs _ (List.mem_of_getElem? (i := 84) (by decide +kernel))
  · exact hs _ (List.mem_of_getElem? (i := 85) (by decide +kernel))
  · exact hs _ (List.mem_of_getElem? (i := 86) (by decide +kernel))
  · exact hs _ (List.mem_of_getElem? (i := 87) (by decide +kernel))
  · exact hs _ (List.mem_of_getElem? (i := 88) (by decide +kernel))
theorem lit_7 {b : Nat} {s : State} {A : Nat → Prop} (hA : ∀ a : Nat, a < s.heap.size → ¬ A a) (hts : ∀ w ∈ lw_tbl, w.before #[Value.ref b] s = true) (hs : ∀ c ∈ flatC (Jvm.Cond.and given_1 narrow_1), c.before #[Value.ref b] s = true) : ∃ w : Nat, vk_R RX2 117 "rim" w s ∧ STA A w ([114, 105, 109] : List Int32).length (fun j => ([114, 105, 109] : List Int32).getD j 0) s s.heap := by
  refine lit_of (args := #[Value.ref b]) (bs := ([114, 105, 109] : List Int32)) hA (by decide) (hts _ (List.mem_of_getElem? (i := 637) (by decide +kernel))) (hs _ (List.mem_of_getElem? (i := 89) (by decide +kernel))) (hs _ (List.mem_of_getElem? (i := 90) (by decide +kernel))) (hs _ (List.mem_of_getElem? (i := 91) (by decide +kernel))) (hs _ (List.mem_of_getElem? (i := 92) (by decide +kernel))) (fun j hj => ?_)
  replace hj : j < 3 := hj
  rcases (show j = 0 ∨ j = 1 ∨ j = 2 by omega) with rfl | rfl | rfl
  · exact hs _ (List.mem_of_getElem? (i := 93) (by decide +kernel))
  · exact hs _ (List.mem_of_getElem? (i := 94) (by decide +kernel))
  · exact hs _ (List.mem_of_getElem? (i := 95) (by decide +kernel))
theorem lit_8 {b : Nat} {s : State} {A : Nat → Prop} (hA : ∀ a : Nat, a < s.heap.size → ¬ A a) (hts : ∀ w ∈ lw_tbl, w.before #[Value.ref b] s = true) (hs : ∀ c ∈ flatC (Jvm.Cond.and given_1 narrow_1), c.before #[Value.ref b] s = true) : ∃ w : Nat, vk_R RX2 122 "likes" w s ∧ STA A w ([108, 105, 107, 101, 115] : List Int32).length (fun j => ([108, 105, 107, 101, 115] : List Int32).getD j 0) s s.heap := by
  refine lit_of (args := #[Value.ref b]) (bs := ([108, 105, 107, 101, 115] : List Int32)) hA (by decide) (hts _ (List.mem_of_getElem? (i := 642) (by decide +kernel))) (hs _ (List.mem_of_getElem? (i := 96) (by decide +kernel))) (hs _ (List.mem_of_getElem? (i := 97) (by decide +kernel))) (hs _ (List.mem_of_getElem? (i := 98) (by decide +kernel))) (hs _ (List.mem_of_getElem? (i := 99) (by decide +kernel))) (fun j hj => ?_)
  replace hj : j < 5 := hj
  rcases (show j = 0 ∨ j = 1 ∨ j = 2 ∨ j = 3 ∨ j = 4 by omega) with rfl | rfl | rfl | rfl | rfl
  · exact hs _ (List.mem_of_getElem? (i := 100) (by decide +kernel))
  · exact hs _ (List.mem_of_getElem? (i := 101) (by decide +kernel))
  · exact hs _ (List.mem_of_getElem? (i := 102) (by decide +kernel))
  · exact hs _ (List.mem_of_getElem? (i := 103) (by decide +kernel))
  · exact hs _ (List.mem_of_getElem? (i := 104) (by decide +kernel))
theorem lit_9 {b : Nat} {s : State} {A : Nat → Prop} (hA : ∀ a : Nat, a < s.heap.size → ¬ A a) (hts : ∀ w ∈ lw_tbl, w.before #[Value.ref b] s = true) (hs : ∀ c ∈ flatC (Jvm.Cond.and given_1 narrow_1), c.before #[Value.ref b] s = true) : ∃ w : Nat, vk_R RX2 67 "cart" w s ∧ STA A w ([99, 97, 114, 116] : List Int32).length (fun j => ([99, 97, 114, 116] : List Int32).getD j 0) s s.heap := by
  refine lit_of (args := #[Value.ref b]) (bs := ([99, 97, 114, 116] : List Int32)) hA (by decide) (hts _ (List.mem_of_getElem? (i := 647) (by decide +kernel))) (hs _ (List.mem_of_getElem? (i := 105) (by decide +kernel))) (hs _ (List.mem_of_getElem? (i := 106) (by decide +kernel))) (hs _ (List.mem_of_getElem? (i := 107) (by decide +kernel))) (hs _ (List.mem_of_getElem? (i := 108) (by decide +kernel))) (fun j hj => ?_)
  replace hj : j < 4 := hj
  rcases (show j = 0 ∨ j = 1 ∨ j = 2 ∨ j = 3 by omega) with rfl | rfl | rfl | rfl
  · exact hs _ (List.mem_of_getElem? (i := 109) (by decide +kernel))
  · exact hs _ (List.mem_of_getElem? (i := 110) (by decide +kernel))
  · exact hs _ (List.mem_of_getElem? (i := 111) (by decide +kernel))
  · exact hs _ (List.mem_of_getElem? (i := 112) (by decide +kernel))
theorem lit_10 {b : Nat} {s : State} {A : Nat → Prop} (hA : ∀ a : Nat, a < s.heap.size → ¬ A a) (hts : ∀ w ∈ lw_tbl, w.before #[Value.ref b] s = true) (hs : ∀ c ∈ flatC (Jvm.Cond.and given_1 narrow_1), c.before #[Value.ref b] s = true) : ∃ w : Nat, vk_R RX2 136 "at" w s ∧ STA A w ([97, 116] : List Int32).length (fun j => ([97, 116] : List Int32).getD j 0) s s.heap := by
  refine lit_of (args := #[Value.ref b]) (bs := ([97, 116] : List Int32)) hA (by decide) (hts _ (List.mem_of_getElem? (i := 652) (by decide +kernel))) (hs _ (List.mem_of_getElem? (i := 113) (by decide +kernel))) (hs _ (List.mem_of_getElem? (i := 114) (by decide +kernel))) (hs _ (List.mem_of_getElem? (i := 115) (by decide +kernel))) (hs _ (List.mem_of_getElem? (i := 116) (by decide +kernel))) (fun j hj => ?_)
  replace hj : j < 2 := hj
  rcases (show j = 0 ∨ j = 1 by omega) with rfl | rfl
  · exact hs _ (List.mem_of_getElem? (i := 117) (by decide +kernel))
  · exact hs _ (List.mem_of_getElem? (i := 118) (by decide +kernel))
theorem lit_11 {b : Nat} {s : State} {A : Nat → Prop} (hA : ∀ a : Nat, a < s.heap.size → ¬ A a) (hts : ∀ w ∈ lw_tbl, w.before #[Value.ref b] s = true) (hs : ∀ c ∈ flatC (Jvm.Cond.and given_1 narrow_1), c.before #[Value.ref b] s = true) : ∃ w : Nat, vk_R RX2 138 "wheels" w s ∧ STA A w ([119, 104, 101, 101, 108, 115] : List Int32).length (fun j => ([119, 104, 101, 101, 108, 115] : List Int32).getD j 0) s s.heap := by
  refine lit_of (args := #[Value.ref b]) (bs := ([119, 104, 101, 101, 108, 115] : List Int32)) hA (by decide) (hts _ (List.mem_of_getElem? (i := 653) (by decide +kernel))) (hs _ (List.mem_of_getElem? (i := 119) (by decide +kernel))) (hs _ (List.mem_of_getElem? (i := 120) (by decide +kernel))) (hs _ (List.mem_of_getElem? (i := 121) (by decide +kernel))) (hs _ (List.mem_of_getElem? (i := 122) (by decide +kernel))) (fun j hj => ?_)
  replace hj : j < 6 := hj
  rcases (show j = 0 ∨ j = 1 ∨ j = 2 ∨ j = 3 ∨ j = 4 ∨ j = 5 by omega) with rfl | rfl | rfl | rfl | rfl | rfl
  · exact hs _ (List.mem_of_getElem? (i := 123) (by decide +kernel))
  · exact hs _ (List.mem_of_getElem? (i := 124) (by decide +kernel))
  · exact hs _ (List.mem_of_getElem? (i := 125) (by decide +kernel))
  · exact hs _ (List.mem_of_getElem? (i := 126) (by decide +kernel))
  · exact hs _ (List.mem_of_getElem? (i := 127) (by decide +kernel))
  · exact hs _ (List.mem_of_getElem? (i := 128) (by decide +kernel))
theorem lit_12 {b : Nat} {s : State} {A : Nat → Prop} (hA : ∀ a : Nat, a < s.heap.size → ¬ A a) (hts : ∀ w ∈ lw_tbl, w.before #[Value.ref b] s = true) (hs : ∀ c ∈ flatC (Jvm.Cond.and given_1 narrow_1), c.before #[Value.ref b] s = true) : ∃ w : Nat, vk_R RX2 72 "errand" w s ∧ STA A w ([101, 114, 114, 97, 110, 100] : List Int32).length (fun j => ([101, 114, 114, 97, 110, 100] : List Int32).getD j 0) s s.heap := by
  refine lit_of (args := #[Value.ref b]) (bs := ([101, 114, 114, 97, 110, 100] : List Int32)) hA (by decide) (hts _ (List.mem_of_getElem? (i := 666) (by decide +kernel))) (hs _ (List.mem_of_getElem? (i := 129) (by decide +kernel))) (hs _ (List.mem_of_getElem? (i := 130) (by decide +kernel))) (hs _ (List.mem_of_getElem? (i := 131) (by decide +kernel))) (hs _ (List.mem_of_getElem? (i := 132) (by decide +kernel))) (fun j hj => ?_)
  replace hj : j < 6 := hj
  rcases (show j = 0 ∨ j = 1 ∨ j = 2 ∨ j = 3 ∨ j = 4 ∨ j = 5 by omega) with rfl | rfl | rfl | rfl | rfl | rfl
  · exact hs _ (List.mem_of_getElem? (i := 133) (by decide +kernel))
  · exact hs _ (List.mem_of_getElem? (i := 134) (by decide +kernel))
  · exact hs _ (List.mem_of_getElem? (i := 135) (by decide +kernel))
  · exact hs _ (List.mem_of_getElem? (i := 136) (by decide +kernel))
  · exact hs _ (List.mem_of_getElem? (i := 137) (by decide +kernel))
  · exact hs _ (List.mem_of_getElem? (i := 138) (by decide +kernel))
theorem lit_13 {b : Nat} {s : State} {A : Nat → Prop} (hA : ∀ a : Nat, a < s.heap.size → ¬ A a) (hts : ∀ w ∈ lw_tbl, w.before #[Value.ref b] s = true) (hs : ∀ c ∈ flatC (Jvm.Cond.and given_1 narrow_1), c.before #[Value.ref b] s = true) : ∃ w : Nat, vk_R RX2 157 "by" w s ∧ STA A w ([98, 121] : List Int32).length (fun j => ([98, 121] : List Int32).getD j 0) s s.heap := by
  refine lit_of (args := #[Value.ref b]) (bs := ([98, 121] : List Int32)) hA (by decide) (hts _ (List.mem_of_getElem? (i := 671) (by decide +kernel))) (hs _ (List.mem_of_getElem? (i := 139) (by decide +kernel))) (hs _ (List.mem_of_getElem? (i := 140) (by decide +kernel))) (hs _ (List.mem_of_getElem? (i := 141) (by decide +kernel))) (hs _ (List.mem_of_getElem? (i := 142) (by decide +kernel))) (fun j hj => ?_)
  replace hj : j < 2 := hj
  rcases (show j = 0 ∨ j = 1 by omega) with rfl | rfl
  · exact hs _ (List.mem_of_getElem? (i := 143) (by decide +kernel))
  · exact hs _ (List.mem_of_getElem? (i := 144) (by decide +kernel))
theorem lit_14 {b : Nat} {s : State} {A : Nat → Prop} (hA : ∀ a : Nat, a < s.heap.size → ¬ A a) (hts : ∀ w ∈ lw_tbl, w.before #[Value.ref b] s = true) (hs : ∀ c ∈ flatC (Jvm.Cond.and given_1 narrow_1), c.before #[Value.ref b] s = true) : ∃ w : Nat, vk_R RX10 218 "land" w s ∧ STA A w ([108, 97, 110, 100] : List Int32).length (fun j => ([108, 97, 110, 100] : List Int32).getD j 0) s s.heap := by
  refine lit_of (args := #[Value.ref b]) (bs := ([108, 97, 110, 100] : List Int32)) hA (by decide) (hts _ (List.mem_of_getElem? (i := 1427) (by decide +kernel))) (hs _ (List.mem_of_getElem? (i := 145) (by decide +kernel))) (hs _ (List.mem_of_getElem? (i := 146) (by decide +kernel))) (hs _ (List.mem_of_getElem? (i := 147) (by decide +kernel))) (hs _ (List.mem_of_getElem? (i := 148) (by decide +kernel))) (fun j hj => ?_)
  replace hj : j < 4 := hj
  rcases (show j = 0 ∨ j = 1 ∨ j = 2 ∨ j = 3 by omega) with rfl | rfl | rfl | rfl
  · exact hs _ (List.mem_of_getElem? (i := 149) (by decide +kernel))
  · exact hs _ (List.mem_of_getElem? (i := 150) (by decide +kernel))
  · exact hs _ (List.mem_of_getElem? (i := 151) (by decide +kernel))
  · exact hs _ (List.mem_of_getElem? (i := 152) (by decide +kernel))
theorem lit_15 {b : Nat} {s : State} {A : Nat → Prop} (hA : ∀ a : Nat, a < s.heap.size → ¬ A a) (hts : ∀ w ∈ lw_tbl, w.before #[Value.ref b] s = true) (hs : ∀ c ∈ flatC (Jvm.Cond.and given_1 narrow_1), c.before #[Value.ref b] s = true) : ∃ w : Nat, vk_R RX10 220 "places" w s ∧ STA A w ([112, 108, 97, 99, 101, 115] : List Int32).length (fun j => ([112, 108, 97, 99, 101, 115] : List Int32).getD j 0) s s.heap := by
  refine lit_of (args := #[Value.ref b]) (bs := ([112, 108, 97, 99, 101, 115] : List Int32)) hA (by decide) (hts _ (List.mem_of_getElem? (i := 1446) (by decide +kernel))) (hs _ (List.mem_of_getElem? (i := 154) (by decide +kernel))) (hs _ (List.mem_of_getElem? (i := 155) (by decide +kernel))) (hs _ (List.mem_of_getElem? (i := 156) (by decide +kernel))) (hs _ (List.mem_of_getElem? (i := 157) (by decide +kernel))) (fun j hj => ?_)
  replace hj : j < 6 := hj
  rcases (show j = 0 ∨ j = 1 ∨ j = 2 ∨ j = 3 ∨ j = 4 ∨ j = 5 by omega) with rfl | rfl | rfl | rfl | rfl | rfl
  · exact hs _ (List.mem_of_getElem? (i := 158) (by decide +kernel))
  · exact hs _ (List.mem_of_getElem? (i := 159) (by decide +kernel))
  · exact hs _ (List.mem_of_getElem? (i := 160) (by decide +kernel))
  · exact hs _ (List.mem_of_getElem? (i := 161) (by decide +kernel))
  · exact hs _ (List.mem_of_getElem? (i := 162) (by decide +kernel))
  · exact hs _ (List.mem_of_getElem? (i := 163) (by decide +kernel))
theorem lit_16 {b : Nat} {s : State} {A : Nat → Prop} (hA : ∀ a : Nat, a < s.heap.size → ¬ A a) (hts : ∀ w ∈ lw_tbl, w.before #[Value.ref b] s = true) (hs : ∀ c ∈ flatC (Jvm.Cond.and given_1 narrow_1), c.before #[Value.ref b] s = true) : ∃ w : Nat, vk_R RX10 222 "hand" w s ∧ STA A w ([104, 97, 110, 100] : List Int32).length (fun j => ([104, 97, 110, 100] : List Int32).getD j 0) s s.heap := by
  refine lit_of (args := #[Value.ref b]) (bs := ([104, 97, 110, 100] : List Int32)) hA (by decide) (hts _ (List.mem_of_getElem? (i := 1455) (by decide +kernel))) (hs _ (List.mem_of_getElem? (i := 165) (by decide +kernel))) (hs _ (List.mem_of_getElem? (i := 166) (by decide +kernel))) (hs _ (List.mem_of_getElem? (i := 167) (by decide +kernel))) (hs _ (List.mem_of_getElem? (i := 168) (by decide +kernel))) (fun j hj => ?_)
  replace hj : j < 4 := hj
  rcases (show j = 0 ∨ j = 1 ∨ j = 2 ∨ j = 3 by omega) with rfl | rfl | rfl | rfl
  · exact hs _ (List.mem_of_getElem? (i := 169) (by decide +kernel))
  · exact hs _ (List.mem_of_getElem? (i := 170) (by decide +kernel))
  · exact hs _ (List.mem_of_getElem? (i := 171) (by decide +kernel))
  · exact hs _ (List.mem_of_getElem? (i := 172) (by decide +kernel))
theorem lit_17 {b : Nat} {s : State} {A : Nat → Prop} (hA : ∀ a : Nat, a < s.heap.size → ¬ A a) (hts : ∀ w ∈ lw_tbl, w.before #[Value.ref b] s = true) (hs : ∀ c ∈ flatC (Jvm.Cond.and given_1 narrow_1), c.before #[Value.ref b] s = true) : ∃ w : Nat, vk_R RX10 198 "road" w s ∧ STA A w ([114, 111, 97, 100] : List Int32).length (fun j => ([114, 111, 97, 100] : List Int32).getD j 0) s s.heap := by
  refine lit_of (args := #[Value.ref b]) (bs := ([114, 111, 97, 100] : List Int32)) hA (by decide) (hts _ (List.mem_of_getElem? (i := 1460) (by decide +kernel))) (hs _ (List.mem_of_getElem? (i := 174) (by decide +kernel))) (hs _ (List.mem_of_getElem? (i := 175) (by decide +kernel))) (hs _ (List.mem_of_getElem? (i := 176) (by decide +kernel))) (hs _ (List.mem_of_getElem? (i := 177) (by decide +kernel))) (fun j hj => ?_)
  replace hj : j < 4 := hj
  rcases (show j = 0 ∨ j = 1 ∨ j = 2 ∨ j = 3 by omega) with rfl | rfl | rfl | rfl
  · exact hs _ (List.mem_of_getElem? (i := 178) (by decide +kernel))
  · exact hs _ (List.mem_of_getElem? (i := 179) (by decide +kernel))
  · exact hs _ (List.mem_of_getElem? (i := 180) (by decide +kernel))
  · exact hs _ (List.mem_of_getElem? (i := 181) (by decide +kernel))
theorem lit_18 {b : Nat} {s : State} {A : Nat → Prop} (hA : ∀ a : Nat, a < s.heap.size → ¬ A a) (hts : ∀ w ∈ lw_tbl, w.before #[Value.ref b] s = true) (hs : ∀ c ∈ flatC (Jvm.Cond.and given_1 narrow_1), c.before #[Value.ref b] s = true) : ∃ w : Nat, vk_R RX10 200 "wheel" w s ∧ STA A w ([119, 104, 101, 101, 108] : List Int32).length (fun j => ([119, 104, 101, 101, 108] : List Int32).getD j 0) s s.heap := by
  refine lit_of (args := #[Value.ref b]) (bs := ([119, 104, 101, 101, 108] : List Int32)) hA (by decide) (hts _ (List.mem_of_getElem? (i := 1461) (by decide +kernel))) (hs _ (List.mem_of_getElem? (i := 183) (by decide +kernel))) (hs _ (List.mem_of_getElem? (i := 184) (by decide +kernel))) (hs _ (List.mem_of_getElem? (i := 185) (by decide +kernel))) (hs _ (List.mem_of_getElem? (i := 186) (by decide +kernel))) (fun j hj => ?_)
  replace hj : j < 5 := hj
  rcases (show j = 0 ∨ j = 1 ∨ j = 2 ∨ j = 3 ∨ j = 4 by omega) with rfl | rfl | rfl | rfl | rfl
  · exact hs _ (List.mem_of_getElem? (i := 187) (by decide +kernel))
  · exact hs _ (List.mem_of_getElem? (i := 188) (by decide +kernel))
  · exact hs _ (List.mem_of_getElem? (i := 189) (by decide +kernel))
  · exact hs _ (List.mem_of_getElem? (i := 190) (by decide +kernel))
  · exact hs _ (List.mem_of_getElem? (i := 191) (by decide +kernel))
theorem lit_19 {b : Nat} {s : State} {A : Nat → Prop} (hA : ∀ a : Nat, a < s.heap.size → ¬ A a) (hts : ∀ w ∈ lw_tbl, w.before #[Value.ref b] s = true) (hs : ∀ c ∈ flatC (Jvm.Cond.and given_1 narrow_1), c.before #[Value.ref b] s = true) : ∃ w : Nat, vk_R RX10 202 "cart" w s ∧ STA A w ([99, 97, 114, 116] : List Int32).length (fun j => ([99, 97, 114, 116] : List Int32).getD j 0) s s.heap := by
  refine lit_of (args := #[Value.ref b]) (bs := ([99, 97, 114, 116] : List Int32)) hA (by decide) (hts _ (List.mem_of_getElem? (i := 1462) (by decide +kernel))) (hs _ (List.mem_of_getElem? (i := 193) (by decide +kernel))) (hs _ (List.mem_of_getElem? (i := 194) (by decide +kernel))) (hs _ (List.mem_of_getElem? (i := 195) (by decide +kernel))) (hs _ (List.mem_of_getElem? (i := 196) (by decide +kernel))) (fun j hj => ?_)
  replace hj : j < 4 := hj
  rcases (show j = 0 ∨ j = 1 ∨ j = 2 ∨ j = 3 by omega) with rfl | rfl | rfl | rfl
  · exact hs _ (List.mem_of_getElem? (i := 197) (by decide +kernel))
  · exact hs _ (List.mem_of_getElem? (i := 198) (by decide +kernel))
  · exact hs _ (List.mem_of_getElem? (i := 199) (by decide +kernel))
  · exact hs _ (List.mem_of_getElem? (i := 200) (by decide +kernel))
theorem lit_20 {b : Nat} {s : State} {A : Nat → Prop} (hA : ∀ a : Nat, a < s.heap.size → ¬ A a) (hts : ∀ w ∈ lw_tbl, w.before #[Value.ref b] s = true) (hs : ∀ c ∈ flatC (Jvm.Cond.and given_1 narrow_1), c.before #[Value.ref b] s = true) : ∃ w : Nat, vk_R RX10 204 "errand" w s ∧ STA A w ([101, 114, 114, 97, 110, 100] : List Int32).length (fun j => ([101, 114, 114, 97, 110, 100] : List Int32).getD j 0) s s.heap := by
  refine lit_of (args := #[Value.ref b]) (bs := ([101, 114, 114, 97, 110, 100] : List Int32)) hA (by decide) (hts _ (List.mem_of_getElem? (i := 1463) (by decide +kernel))) (hs _ (List.mem_of_getElem? (i := 202) (by decide +kernel))) (hs _ (List.mem_of_getElem? (i := 203) (by decide +kernel))) (hs _ (List.mem_of_getElem? (i := 204) (by decide +kernel))) (hs _ (List.mem_of_getElem? (i := 205) (by decide +kernel))) (fun j hj => ?_)
  replace hj : j < 6 := hj
  rcases (show j = 0 ∨ j = 1 ∨ j = 2 ∨ j = 3 ∨ j = 4 ∨ j = 5 by omega) with rfl | rfl | rfl | rfl | rfl | rfl
  · exact hs _ (List.mem_of_getElem? (i := 206) (by decide +kernel))
  · exact hs _ (List.mem_of_getElem? (i := 207) (by decide +kernel))
  · exact hs _ (List.mem_of_getElem? (i := 208) (by decide +kernel))
  · exact hs _ (List.mem_of_getElem? (i := 209) (by decide +kernel))
  · exact hs _ (List.mem_of_getElem? (i := 210) (by decide +kernel))
  · exact hs _ (List.mem_of_getElem? (i := 211) (by decide +kernel))
theorem lit_21 {b : Nat} {s : State} {A : Nat → Prop} (hA : ∀ a : Nat, a < s.heap.size → ¬ A a) (hts : ∀ w ∈ lw_tbl, w.before #[Value.ref b] s = true) (hs : ∀ c ∈ flatC (Jvm.Cond.and given_1 narrow_1), c.before #[Value.ref b] s = true) : ∃ w : Nat, vk_R RX10 174 "to" w s ∧ STA A w ([116, 111] : List Int32).length (fun j => ([116, 111] : List Int32).getD j 0) s s.heap := by
  refine lit_of (args := #[Value.ref b]) (bs := ([116, 111] : List Int32)) hA (by decide) (hts _ (List.mem_of_getElem? (i := 1472) (by decide +kernel))) (hs _ (List.mem_of_getElem? (i := 213) (by decide +kernel))) (hs _ (List.mem_of_getElem? (i := 214) (by decide +kernel))) (hs _ (List.mem_of_getElem? (i := 215) (by decide +kernel))) (hs _ (List.mem_of_getElem? (i := 216) (by decide +kernel))) (fun j hj => ?_)
  replace hj : j < 2 := hj
  rcases (show j = 0 ∨ j = 1 by omega) with rfl | rfl
  · exact hs _ (List.mem_of_getElem? (i := 217) (by decide +kernel))
  · exact hs _ (List.mem_of_getElem? (i := 218) (by decide +kernel))
theorem lit_22 {b : Nat} {s : State} {A : Nat → Prop} (hA : ∀ a : Nat, a < s.heap.size → ¬ A a) (hts : ∀ w ∈ lw_tbl, w.before #[Value.ref b] s = true) (hs : ∀ c ∈ flatC (Jvm.Cond.and given_1 narrow_1), c.before #[Value.ref b] s = true) : ∃ w : Nat, vk_R RX10 176 "miles" w s ∧ STA A w ([109, 105, 108, 101, 115] : List Int32).length (fun j => ([109, 105, 108, 101, 115] : List Int32).getD j 0) s s.heap := by
  refine lit_of (args := #[Value.ref b]) (bs := ([109, 105, 108, 101, 115] : List Int32)) hA (by decide) (hts _ (List.mem_of_getElem? (i := 1473) (by decide +kernel))) (hs _ (List.mem_of_getElem? (i := 220) (by decide +kernel))) (hs _ (List.mem_of_getElem? (i := 221) (by decide +kernel))) (hs _ (List.mem_of_getElem? (i := 222) (by decide +kernel))) (hs _ (List.mem_of_getElem? (i := 223) (by decide +kernel))) (fun j hj => ?_)
  replace hj : j < 5 := hj
  rcases (show j = 0 ∨ j = 1 ∨ j = 2 ∨ j = 3 ∨ j = 4 by omega) with rfl | rfl | rfl | rfl | rfl
  · exact hs _ (List.mem_of_getElem? (i := 224) (by decide +kernel))
  · exact hs _ (List.mem_of_getElem? (i := 225) (by decide +kernel))
  · exact hs _ (List.mem_of_getElem? (i := 226) (by decide +kernel))
  · exact hs _ (List.mem_of_getElem? (i := 227) (by decide +kernel))
  · exact hs _ (List.mem_of_getElem? (i := 228) (by decide +kernel))
theorem lit_23 {b : Nat} {s : State} {A : Nat → Prop} (hA : ∀ a : Nat, a < s.heap.size → ¬ A a) (hts : ∀ w ∈ lw_tbl, w.before #[Value.ref b] s = true) (hs : ∀ c ∈ flatC (Jvm.Cond.and given_1 narrow_1), c.before #[Value.ref b] s = true) : ∃ w : Nat, vk_R RX10 181 "rim" w s ∧ STA A w ([114, 105, 109] : List Int32).length (fun j => ([114, 105, 109] : List Int32).getD j 0) s s.heap := by
  refine lit_of (args := #[Value.ref b]) (bs := ([114, 105, 109] : List Int32)) hA (by decide) (hts _ (List.mem_of_getElem? (i := 1478) (by decide +kernel))) (hs _ (List.mem_of_getElem? (i := 230) (by decide +kernel))) (hs _ (List.mem_of_getElem? (i := 231) (by decide +kernel))) (hs _ (List.mem_of_getElem? (i := 232) (by decide +kernel))) (hs _ (List.mem_of_getElem? (i := 233) (by decide +kernel))) (fun j hj => ?_)
  replace hj : j < 3 := hj
  rcases (show j = 0 ∨ j = 1 ∨ j = 2 by omega) with rfl | rfl | rfl
  · exact hs _ (List.mem_of_getElem? (i := 234) (by decide +kernel))
  · exact hs _ (List.mem_of_getElem? (i := 235) (by decide +kernel))
  · exact hs _ (List.mem_of_getElem? (i := 236) (by decide +kernel))
theorem lit_24 {b : Nat} {s : State} {A : Nat → Prop} (hA : ∀ a : Nat, a < s.heap.size → ¬ A a) (hts : ∀ w ∈ lw_tbl, w.before #[Value.ref b] s = true) (hs : ∀ c ∈ flatC (Jvm.Cond.and given_1 narrow_1), c.before #[Value.ref b] s = true) : ∃ w : Nat, vk_R RX10 182 "likes" w s ∧ STA A w ([108, 105, 107, 101, 115] : List Int32).length (fun j => ([108, 105, 107, 101, 115] : List Int32).getD j 0) s s.heap := by
  refine lit_of (args := #[Value.ref b]) (bs := ([108, 105, 107, 101, 115] : List Int32)) hA (by decide) (hts _ (List.mem_of_getElem? (i := 1479) (by decide +kernel))) (hs _ (List.mem_of_getElem? (i := 238) (by decide +kernel))) (hs _ (List.mem_of_getElem? (i := 239) (by decide +kernel))) (hs _ (List.mem_of_getElem? (i := 240) (by decide +kernel))) (hs _ (List.mem_of_getElem? (i := 241) (by decide +kernel))) (fun j hj => ?_)
  replace hj : j < 5 := hj
  rcases (show j = 0 ∨ j = 1 ∨ j = 2 ∨ j = 3 ∨ j = 4 by omega) with rfl | rfl | rfl | rfl | rfl
  · exact hs _ (List.mem_of_getElem? (i := 242) (by decide +kernel))
  · exact hs _ (List.mem_of_getElem? (i := 243) (by decide +kernel))
  · exact hs _ (List.mem_of_getElem? (i := 244) (by decide +kernel))
  · exact hs _ (List.mem_of_getElem? (i := 245) (by decide +kernel))
  · exact hs _ (List.mem_of_getElem? (i := 246) (by decide +kernel))
theorem lit_25 {b : Nat} {s : State} {A : Nat → Prop} (hA : ∀ a : Nat, a < s.heap.size → ¬ A a) (hts : ∀ w ∈ lw_tbl, w.before #[Value.ref b] s = true) (hs : ∀ c ∈ flatC (Jvm.Cond.and given_1 narrow_1), c.before #[Value.ref b] s = true) : ∃ w : Nat, vk_R RX10 184 "at" w s ∧ STA A w ([97, 116] : List Int32).length (fun j => ([97, 116] : List Int32).getD j 0) s s.heap := by
  refine lit_of (args := #[Value.ref b]) (bs := ([97, 116] : List Int32)) hA (by decide) (hts _ (List.mem_of_getElem? (i := 1484) (by decide +kernel))) (hs _ (List.mem_of_getElem? (i := 248) (by decide +kernel))) (hs _ (List.mem_of_getElem? (i := 249) (by decide +kernel))) (hs _ (List.mem_of_getElem? (i := 250) (by decide +kernel))) (hs _ (List.mem_of_getElem? (i := 251) (by decide +kernel))) (fun j hj => ?_)
  replace hj : j < 2 := hj
  rcases (show j = 0 ∨ j = 1 by omega) with rfl | rfl
  · exact hs _ (List.mem_of_getElem? (i := 252) (by decide +kernel))
  · exact hs _ (List.mem_of_getElem? (i := 253) (by decide +kernel))
theorem lit_26 {b : Nat} {s : State} {A : Nat → Prop} (hA : ∀ a : Nat, a < s.heap.size → ¬ A a) (hts : ∀ w ∈ lw_tbl, w.before #[Value.ref b] s = true) (hs : ∀ c ∈ flatC (Jvm.Cond.and given_1 narrow_1), c.before #[Value.ref b] s = true) : ∃ w : Nat, vk_R RX10 185 "wheels" w s ∧ STA A w ([119, 104, 101, 101, 108, 115] : List Int32).length (fun j => ([119, 104, 101, 101, 108, 115] : List Int32).getD j 0) s s.heap := by
  refine lit_of (args := #[Value.ref b]) (bs := ([119, 104, 101, 101, 108, 115] : List Int32)) hA (by decide) (hts _ (List.mem_of_getElem? (i := 1485) (by decide +kernel))) (hs _ (List.mem_of_getElem? (i := 255) (by decide +kernel))) (hs _ (List.mem_of_getElem? (i := 256) (by decide +kernel))) (hs _ (List.mem_of_getElem? (i := 257) (by decide +kernel))) (hs _ (List.mem_of_getElem? (i := 258) (by decide +kernel))) (fun j hj => ?_)
  replace hj : j < 6 := hj
  rcases (show j = 0 ∨ j = 1 ∨ j = 2 ∨ j = 3 ∨ j = 4 ∨ j = 5 by omega) with rfl | rfl | rfl | rfl | rfl | rfl
  · exact hs _ (List.mem_of_getElem? (i := 259) (by decide +kernel))
  · exact hs _ (List.mem_of_getElem? (i := 260) (by decide +kernel))
  · exact hs _ (List.mem_of_getElem? (i := 261) (by decide +kernel))
  · exact hs _ (List.mem_of_getElem? (i := 262) (by decide +kernel))
  · exact hs _ (List.mem_of_getElem? (i := 263) (by decide +kernel))
  · exact hs _ (List.mem_of_getElem? (i := 264) (by decide +kernel))
theorem lit_27 {b : Nat} {s : State} {A : Nat → Prop} (hA : ∀ a : Nat, a < s.heap.size → ¬ A a) (hts : ∀ w ∈ lw_tbl, w.before #[Value.ref b] s = true) (hs : ∀ c ∈ flatC (Jvm.Cond.and given_1 narrow_1), c.before #[Value.ref b] s = true) : ∃ w : Nat, vk_R RX10 196 "by" w s ∧ STA A w ([98, 121] : List Int32).length (fun j => ([98, 121] : List Int32).getD j 0) s s.heap := by
  refine lit_of (args := #[Value.ref b]) (bs := ([98, 121] : List Int32)) hA (by decide) (hts _ (List.mem_of_getElem? (i := 1500) (by decide +kernel))) (hs _ (List.mem_of_getElem? (i := 266) (by decide +kernel))) (hs _ (List.mem_of_getElem? (i := 267) (by decide +kernel))) (hs _ (List.mem_of_getElem? (i := 268) (by decide +kernel))) (hs _ (List.mem_of_getElem? (i := 269) (by decide +kernel))) (fun j hj => ?_)
  replace hj : j < 2 := hj
  rcases (show j = 0 ∨ j = 1 by omega) with rfl | rfl
  · exact hs _ (List.mem_of_getElem? (i := 270) (by decide +kernel))
  · exact hs _ (List.mem_of_getElem? (i := 271) (by decide +kernel))
theorem ns_of {b : Nat} {s : State} {A : Nat → Prop} (hA : ∀ a : Nat, a < s.heap.size → ¬ A a) (hts : ∀ w ∈ lw_tbl, w.before #[Value.ref b] s = true) (hs : ∀ c ∈ flatC (Jvm.Cond.and given_1 narrow_1), c.before #[Value.ref b] s = true) : NS A s s.heap := by
  refine ⟨⟨va_Zof (args := #[Value.ref b]) (hts _ (List.mem_of_getElem? (i := 572) (by decide +kernel))) (hts _ (List.mem_of_getElem? (i := 117) (by decide +kernel))) (va_eqt (hs _ (List.mem_of_getElem? (i := 4) (by decide +kernel)))) hA, va_Zqof (args := #[Value.ref b]) (hts _ (List.mem_of_getElem? (i := 588) (by decide +kernel))) (hts _ (List.mem_of_getElem? (i := 119) (by decide +kernel))) (hs _ (List.mem_of_getElem? (i := 5) (by decide +kernel))) hA⟩, fun e he => ?_⟩
  simp only [LIT, List.mem_cons, List.not_mem_nil, or_false] at he
  rcases he with rfl | rfl | rfl | rfl | rfl | rfl | rfl | rfl | rfl | rfl | rfl | rfl | rfl | rfl | rfl | rfl | rfl | rfl | rfl | rfl | rfl | rfl | rfl | rfl | rfl | rfl | rfl | rfl
  · exact lit_0 hA hts hs
  · exact lit_1 hA hts hs
  · exact lit_2 hA hts hs
  · exact lit_3 hA hts hs
  · exact lit_4 hA hts hs
  · exact lit_5 hA hts hs
  · exact lit_6 hA hts hs
  · exact lit_7 hA hts hs
  · exact lit_8 hA hts hs
  · exact lit_9 hA hts hs
  · exact lit_10 hA hts hs
  · exact lit_11 hA hts hs
  · exact lit_12 hA hts hs
  · exact lit_13 hA hts hs
  · exact lit_14 hA hts hs
  · exact lit_15 hA hts hs
  · exact lit_16 hA hts hs
  · exact lit_17 hA hts hs
  · exact lit_18 hA hts hs
  · exact lit_19 hA hts hs
  · exact lit_20 hA hts hs
  · exact lit_21 hA hts hs
  · exact lit_22 hA hts hs
  · exact lit_23 hA hts hs
  · exact lit_24 hA hts hs
  · exact lit_25 hA hts hs
  · exact lit_26 hA hts hs
  · exact lit_27 hA hts hs
