/-! AN ITEM, by its letter -/
theorem it_m {t p col b : Nat} {c : Nat → Nat} (h : hcN t c (p + 1) = 109) (hc : col ≤ 6) (hb : b ≤ 48) : itS t c col b p = (if okM t c col (p + 2) then lenV t c (p + 4) else 0) ∧ itE t c p = lenP t c (p + 4) := by
  have l1 := lenV_le t c (p + 2 + 2)
  have l2 := lvN_le t c (p + 2 + 1)
  refine ⟨?_, ?_⟩
  · unfold itS rSign rMove
    simp only [h, Nat.reduceEqDiff, if_false, if_true]
    by_cases k : okM t c col (p + 2)
    · rw [if_pos k, if_pos k]
      exact pkN_sp (by omega) (by omega) (by omega) (by decide) (by have := k.2.1; omega) (by omega) (by decide)
    · rw [if_neg k, if_neg k]; rfl
  · unfold itE rPos
    simp only [h, Nat.reduceEqDiff, if_false, if_true]
theorem it_k {t p col b : Nat} {c : Nat → Nat} (h : hcN t c (p + 1) = 107) (hc : col ≤ 6) (hb : b ≤ 48) : itS t c col b p = 1 ∧ itE t c p = p + 2 := by
  refine ⟨?_, ?_⟩
  · unfold itS rSign
    simp only [h, Nat.reduceEqDiff, if_false, if_true]
    exact pkN_sp (by omega) (by omega) (by decide) (by decide) (by decide) (by decide) (by decide)
  · unfold itE rPos
    simp only [h, Nat.reduceEqDiff, if_false, if_true]
theorem it_r {t p col b : Nat} {c : Nat → Nat} (h : hcN t c (p + 1) = 114) (hc : col ≤ 6) (hb : b ≤ 48) : itS t c col b p = lenV t c (p + 2) ∧ itE t c p = lenP t c (p + 2) := by
  have l1 := lenV_le t c (p + 2)
  refine ⟨?_, ?_⟩
  · unfold itS rSign
    simp only [h, Nat.reduceEqDiff, if_false, if_true]
    exact pkN_sp (by omega) (by omega) (by omega) (by decide) (by decide) (by decide) (by decide)
  · unfold itE rPos
    simp only [h, Nat.reduceEqDiff, if_false, if_true]
theorem it_t {t p col b : Nat} {c : Nat → Nat} (h : hcN t c (p + 1) = 116) (hc : col ≤ 6) (hb : b ≤ 48) : itS t c col b p = (if okU t c col (p + 2) then lenV t c (p + 5) else 0) ∧ itE t c p = lenP t c (p + 5) := by
  have l1 := lenV_le t c (p + 2 + 3)
  refine ⟨?_, ?_⟩
  · unfold itS rSign rTurn
    simp only [h, Nat.reduceEqDiff, if_false, if_true]
    by_cases k : okU t c col (p + 2)
    · rw [if_pos k, if_pos k]
      have la := amI_le t c (p + 2) k.2.2.1.2
      exact pkN_sp (by omega) (by omega) (by omega) (by decide) (by decide) (by decide) (by omega)
    · rw [if_neg k, if_neg k]; rfl
  · unfold itE rPos
    simp only [h, Nat.reduceEqDiff, if_false, if_true]
theorem it_e {t p col b : Nat} {c : Nat → Nat} (h : hcN t c (p + 1) = 101) : itS t c col b p = lenV t c (p + 2) ∧ itE t c p = lenP t c (p + 2) := by
  unfold itS itE
  rw [if_pos h, if_pos h]
  exact ⟨rfl, rfl⟩
theorem it_x {t p col b : Nat} {c : Nat → Nat} (h1 : hcN t c (p + 1) ≠ 109) (h2 : hcN t c (p + 1) ≠ 107) (h3 : hcN t c (p + 1) ≠ 114) (h4 : hcN t c (p + 1) ≠ 116) (h5 : hcN t c (p + 1) ≠ 101) : itS t c col b p = 0 := by
  unfold itS rSign
  rw [if_neg h5, if_neg h2, if_neg h1, if_neg h3, if_neg h4]
  rfl
