theorem nx_of {args : Array Value} {s : State} (h : ∀ w ∈ lw_tbl, w.before args s = true) : NX s := by
  refine ⟨?_, va_AO.of (A := args) (h _ (List.mem_of_getElem? (i := 333) (by decide +kernel))), va_AO.of (A := args) (h _ (List.mem_of_getElem? (i := 398) (by decide +kernel))), (show (Cond.arrayOver (.array .long)).before args s = true from h _ (List.mem_of_getElem? (i := 341) (by decide +kernel)))⟩
  intro w hw
  simp only [nestW, List.mem_cons, List.not_mem_nil, or_false] at hw
  rcases hw with rfl | rfl | rfl | rfl | rfl | rfl | rfl
  · exact va_Nw.of rfl (h _ (List.mem_of_getElem? (i := 133) (by decide +kernel)))
  · exact va_Nw.of rfl (h _ (List.mem_of_getElem? (i := 139) (by decide +kernel)))
  · exact va_Nw.of rfl (h _ (List.mem_of_getElem? (i := 154) (by decide +kernel)))
  · exact va_Nw.of rfl (h _ (List.mem_of_getElem? (i := 303) (by decide +kernel)))
  · exact va_Nw.of rfl (h _ (List.mem_of_getElem? (i := 308) (by decide +kernel)))
  · exact va_Nw.of rfl (h _ (List.mem_of_getElem? (i := 362) (by decide +kernel)))
  · exact va_Nw.of rfl (h _ (List.mem_of_getElem? (i := 437) (by decide +kernel)))
