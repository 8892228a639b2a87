/-- what is still wanting: an invariant of class and reference that every pair of calls keeps -/
theorem lw_inv : ∃ I : mm_M → Prop, lw_pairs I ∧ I mm_M0 := sorry
