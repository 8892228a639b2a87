/-! addMove -/
section ADDS
variable {M : mm_M} {Q : mm_Q} {B L n h : Nat} {g : Nat → Sg} {H : Nat → St} {s : Sg}
-- the signs made
theorem g_move {c b l d v : Nat} (hs : okS (c, b, 0, l, (d : Int), v)) (hb : b < 128) : wc 28 [.inl (nI c), .inl (nI b), .inl (nI l), .inl (nI d), .inl (nI v)] M Q ↔ Q (some (nI (pk (c, b, 0, l, (d : Int), v)))) M := by
  simp (disch := first | assumption | exact isSc1 | exact isSc3 | exact isSc5 | decide | omega) only [eX4_move, iX4_move_0, iX4_move_1, iX4_move_2, iX4_move_3, iX4_move_4, iX4_move_5, iX4_move_7, iX4_move_8, iX4_move_11, Nat.reduceAdd, Nat.reduceSub, Nat.reduceMul, Nat.reduceLeDiff, mm_rv_s, mm_rv_n, true_and, and_true, if_true, if_false, not_true_eq_false, not_false_eq_true, nI_add, nz_0, nz_lt0, nz_0le, nz_0lt, nz_le0, nz_lt, nz_le, nz_eq, nz_cl, nz_in, nz_sub, nz_m1, pk_mul, set_o, set_ne, up_ne, up_set, n1_1, true_or, or_true, n1_01, n0_01, bI_01, bI_01b, bI_0, isSc1, isSc3, isSc5, ln_2, ln_4, ln_6, ln_8, ln_10, ln_11, ln_12, ln_13, ln_14, ln_16, ln_17, ln_18, ln_19, ln_20, ln_21, ln_23, ln_24, ln_25, ln_27, ln_28, ln_29]
  refine (g_packed (s := (c, b, 0, l, (d : Int), v)) hs hb).trans ?_
  simp (disch := first | assumption | exact isSc1 | exact isSc3 | exact isSc5 | decide | omega) only [iX4_move_0, iX4_move_1, iX4_move_2, iX4_move_3, iX4_move_4, iX4_move_5, iX4_move_7, iX4_move_8, iX4_move_11, Nat.reduceAdd, Nat.reduceSub, Nat.reduceMul, Nat.reduceLeDiff, mm_rv_s, mm_rv_n, true_and, and_true, if_true, if_false, not_true_eq_false, not_false_eq_true, nI_add, nz_0, nz_lt0, nz_0le, nz_0lt, nz_le0, nz_lt, nz_le, nz_eq, nz_cl, nz_in, nz_sub, nz_m1, pk_mul, set_o, set_ne, up_ne, up_set, n1_1, true_or, or_true, n1_01, n0_01, bI_01, bI_01b, bI_0, isSc1, isSc3, isSc5, ln_2, ln_4, ln_6, ln_8, ln_10, ln_11, ln_12, ln_13, ln_14, ln_16, ln_17, ln_18, ln_19, ln_20, ln_21, ln_23, ln_24, ln_25, ln_27, ln_28, ln_29]
theorem g_hold {c b : Nat} (hs : okS (c, b, 1, 0, 0, 0)) (hb : b < 128) : wc 29 [.inl (nI c), .inl (nI b)] M Q ↔ Q (some (nI (pk (c, b, 1, 0, 0, 0)))) M := by
  simp (disch := first | assumption | exact isSc1 | exact isSc3 | exact isSc5 | decide | omega) only [eX4_hold, iX4_hold_0, iX4_hold_1, iX4_hold_2, iX4_hold_3, iX4_hold_4, iX4_hold_5, iX4_hold_6, iX4_hold_7, iX4_hold_10, Nat.reduceAdd, Nat.reduceSub, Nat.reduceMul, Nat.reduceLeDiff, mm_rv_s, mm_rv_n, true_and, and_true, if_true, if_false, not_true_eq_false, not_false_eq_true, nI_add, nz_0, nz_lt0, nz_0le, nz_0lt, nz_le0, nz_lt, nz_le, nz_eq, nz_cl, nz_in, nz_sub, nz_m1, pk_mul, set_o, set_ne, up_ne, up_set, n1_1, true_or, or_true, n1_01, n0_01, bI_01, bI_01b, bI_0, isSc1, isSc3, isSc5, ln_2, ln_4, ln_6, ln_8, ln_10, ln_11, ln_12, ln_13, ln_14, ln_16, ln_17, ln_18, ln_19, ln_20, ln_21, ln_23, ln_24, ln_25, ln_27, ln_28, ln_29]
  refine (g_packed (s := (c, b, 1, 0, 0, 0)) hs hb).trans ?_
  simp (disch := first | assumption | exact isSc1 | exact isSc3 | exact isSc5 | decide | omega) only [iX4_hold_0, iX4_hold_1, iX4_hold_2, iX4_hold_3, iX4_hold_4, iX4_hold_5, iX4_hold_6, iX4_hold_7, iX4_hold_10, Nat.reduceAdd, Nat.reduceSub, Nat.reduceMul, Nat.reduceLeDiff, mm_rv_s, mm_rv_n, true_and, and_true, if_true, if_false, not_true_eq_false, not_false_eq_true, nI_add, nz_0, nz_lt0, nz_0le, nz_0lt, nz_le0, nz_lt, nz_le, nz_eq, nz_cl, nz_in, nz_sub, nz_m1, pk_mul, set_o, set_ne, up_ne, up_set, n1_1, true_or, or_true, n1_01, n0_01, bI_01, bI_01b, bI_0, isSc1, isSc3, isSc5, ln_2, ln_4, ln_6, ln_8, ln_10, ln_11, ln_12, ln_13, ln_14, ln_16, ln_17, ln_18, ln_19, ln_20, ln_21, ln_23, ln_24, ln_25, ln_27, ln_28, ln_29]
theorem g_turn {c b l : Nat} {a : Int} (hs : okS (c, b, 2, l, a, 0)) (hb : b < 128) : wc 30 [.inl (nI c), .inl (nI b), .inl (nI l), .inl (iZ a)] M Q ↔ Q (some (nI (pk (c, b, 2, l, a, 0)))) M := by
  simp (disch := first | assumption | exact isSc1 | exact isSc3 | exact isSc5 | decide | omega) only [eX4_turn, iX4_turn_0, iX4_turn_1, iX4_turn_2, iX4_turn_3, iX4_turn_4, iX4_turn_5, iX4_turn_6, iX4_turn_7, iX4_turn_10, Nat.reduceAdd, Nat.reduceSub, Nat.reduceMul, Nat.reduceLeDiff, mm_rv_s, mm_rv_n, true_and, and_true, if_true, if_false, not_true_eq_false, not_false_eq_true, nI_add, nz_0, nz_lt0, nz_0le, nz_0lt, nz_le0, nz_lt, nz_le, nz_eq, nz_cl, nz_in, nz_sub, nz_m1, pk_mul, set_o, set_ne, up_ne, up_set, n1_1, true_or, or_true, n1_01, n0_01, bI_01, bI_01b, bI_0, isSc1, isSc3, isSc5, ln_2, ln_4, ln_6, ln_8, ln_10, ln_11, ln_12, ln_13, ln_14, ln_16, ln_17, ln_18, ln_19, ln_20, ln_21, ln_23, ln_24, ln_25, ln_27, ln_28, ln_29]
  refine (g_packed (s := (c, b, 2, l, a, 0)) hs hb).trans ?_
  simp (disch := first | assumption | exact isSc1 | exact isSc3 | exact isSc5 | decide | omega) only [iX4_turn_0, iX4_turn_1, iX4_turn_2, iX4_turn_3, iX4_turn_4, iX4_turn_5, iX4_turn_6, iX4_turn_7, iX4_turn_10, Nat.reduceAdd, Nat.reduceSub, Nat.reduceMul, Nat.reduceLeDiff, mm_rv_s, mm_rv_n, true_and, and_true, if_true, if_false, not_true_eq_false, not_false_eq_true, nI_add, nz_0, nz_lt0, nz_0le, nz_0lt, nz_le0, nz_lt, nz_le, nz_eq, nz_cl, nz_in, nz_sub, nz_m1, pk_mul, set_o, set_ne, up_ne, up_set, n1_1, true_or, or_true, n1_01, n0_01, bI_01, bI_01b, bI_0, isSc1, isSc3, isSc5, ln_2, ln_4, ln_6, ln_8, ln_10, ln_11, ln_12, ln_13, ln_14, ln_16, ln_17, ln_18, ln_19, ln_20, ln_21, ln_23, ln_24, ln_25, ln_27, ln_28, ln_29]
theorem g_release {c b l : Nat} (hs : okS (c, b, 3, l, 0, 0)) (hb : b < 128) : wc 31 [.inl (nI c), .inl (nI b), .inl (nI l)] M Q ↔ Q (some (nI (pk (c, b, 3, l, 0, 0)))) M := by
  simp (disch := first | assumption | exact isSc1 | exact isSc3 | exact isSc5 | decide | omega) only [eX4_release, iX4_release_0, iX4_release_1, iX4_release_2, iX4_release_3, iX4_release_4, iX4_release_5, iX4_release_6, iX4_release_7, iX4_release_10, Nat.reduceAdd, Nat.reduceSub, Nat.reduceMul, Nat.reduceLeDiff, mm_rv_s, mm_rv_n, true_and, and_true, if_true, if_false, not_true_eq_false, not_false_eq_true, nI_add, nz_0, nz_lt0, nz_0le, nz_0lt, nz_le0, nz_lt, nz_le, nz_eq, nz_cl, nz_in, nz_sub, nz_m1, pk_mul, set_o, set_ne, up_ne, up_set, n1_1, true_or, or_true, n1_01, n0_01, bI_01, bI_01b, bI_0, isSc1, isSc3, isSc5, ln_2, ln_4, ln_6, ln_8, ln_10, ln_11, ln_12, ln_13, ln_14, ln_16, ln_17, ln_18, ln_19, ln_20, ln_21, ln_23, ln_24, ln_25, ln_27, ln_28, ln_29]
  refine (g_packed (s := (c, b, 3, l, 0, 0)) hs hb).trans ?_
  simp (disch := first | assumption | exact isSc1 | exact isSc3 | exact isSc5 | decide | omega) only [iX4_release_0, iX4_release_1, iX4_release_2, iX4_release_3, iX4_release_4, iX4_release_5, iX4_release_6, iX4_release_7, iX4_release_10, Nat.reduceAdd, Nat.reduceSub, Nat.reduceMul, Nat.reduceLeDiff, mm_rv_s, mm_rv_n, true_and, and_true, if_true, if_false, not_true_eq_false, not_false_eq_true, nI_add, nz_0, nz_lt0, nz_0le, nz_0lt, nz_le0, nz_lt, nz_le, nz_eq, nz_cl, nz_in, nz_sub, nz_m1, pk_mul, set_o, set_ne, up_ne, up_set, n1_1, true_or, or_true, n1_01, n0_01, bI_01, bI_01b, bI_0, isSc1, isSc3, isSc5, ln_2, ln_4, ln_6, ln_8, ln_10, ln_11, ln_12, ln_13, ln_14, ln_16, ln_17, ln_18, ln_19, ln_20, ln_21, ln_23, ln_24, ln_25, ln_27, ln_28, ln_29]
theorem span_nat {a b : Int32} (hB : 1 ≤ B) (hB2 : B ≤ 48) (h1 : (nI 0 ≤ a ∧ a ≤ nI B - nI 1) ∧ (nI 1 ≤ b ∧ b ≤ nI B - a)) : ∃ x y : Nat, a = nI x ∧ b = nI y ∧ x < B ∧ 1 ≤ y ∧ x + y ≤ B := by
  obtain ⟨⟨h1, h2⟩, h3, h4⟩ := h1
  rw [sub_one hB] at h2
  obtain ⟨x, rfl, -, hx⟩ := in_nat h1 h2 (by decide) (by omega)
  rw [nz_sub _ _ (by omega)] at h4
  obtain ⟨y, rfl, hy1, hy2⟩ := in_nat h3 h4 (by decide) (by omega)
  exact ⟨x, y, rfl, rfl, by omega, hy1, by omega⟩
theorem p_addMove (x0 : M 1 0 = nI B) (a1 a2 a3 a4 a5 : Int32) (h1 : ¬ ((nI 0 ≤ a1 ∧ a1 ≤ nI 5) ∧ ((nI 0 ≤ a2 ∧ a2 ≤ nI B - nI 1) ∧ (nI 1 ≤ a3 ∧ a3 ≤ nI B - a2)) ∧ (nI 0 ≤ a4 ∧ a4 ≤ nI 8) ∧ (nI 0 ≤ a5 ∧ a5 ≤ nI 2)) → Q (some (-1001)) M) (h2 : ((nI 0 ≤ a1 ∧ a1 ≤ nI 5) ∧ ((nI 0 ≤ a2 ∧ a2 ≤ nI B - nI 1) ∧ (nI 1 ≤ a3 ∧ a3 ≤ nI B - a2)) ∧ (nI 0 ≤ a4 ∧ a4 ≤ nI 8) ∧ (nI 0 ≤ a5 ∧ a5 ≤ nI 2)) → wc 28 [.inl a1, .inl a2, .inl a3, .inl a4, .inl a5] M (fun r M1 => ∃ v, r = some v ∧ wc 95 [.inr 0, .inl v] M1 (fun r M2 => ∃ v, r = some v ∧ Q (some v) M2))) : wc 63 [.inr 0, .inl a1, .inl a2, .inl a3, .inl a4, .inl a5] M Q := by
  simp (disch := first | assumption | exact isSc1 | exact isSc3 | exact isSc5 | decide | omega) only [eX7_addMove, iX7_addMove_0, iX7_addMove_1, iX7_addMove_2, iX7_addMove_3, iX7_addMove_6, iX7_addMove_9, iX7_addMove_10, iX7_addMove_11, iX7_addMove_12, iX7_addMove_15, iX7_addMove_18, iX7_addMove_20, iX7_addMove_21, iX7_addMove_23, iX7_addMove_26, iX7_addMove_29, iX7_addMove_31, iX7_addMove_32, iX7_addMove_33, iX7_addMove_36, iX7_addMove_39, iX7_addMove_42, iX7_addMove_43, iX7_addMove_44, iX7_addMove_45, iX7_addMove_46, iX7_addMove_47, iX7_addMove_49, iX7_addMove_51, iX7_addMove_54, iX7_addMove_57, Nat.reduceAdd, Nat.reduceSub, Nat.reduceMul, Nat.reduceLeDiff, mm_rv_s, mm_rv_n, true_and, and_true, if_true, if_false, not_true_eq_false, not_false_eq_true, nI_add, nz_0, nz_lt0, nz_0le, nz_0lt, nz_le0, nz_lt, nz_le, nz_eq, nz_cl, nz_in, nz_sub, nz_m1, pk_mul, set_o, set_ne, up_ne, up_set, n1_1, true_or, or_true, n1_01, n0_01, bI_01, bI_01b, bI_0, isSc1, isSc3, isSc5, ln_2, ln_4, ln_6, ln_8, ln_10, ln_11, ln_12, ln_13, ln_14, ln_16, ln_17, ln_18, ln_19, ln_20, ln_21, ln_23, ln_24, ln_25, ln_27, ln_28, ln_29, p_isColumn, p_isSpan, p_isWithin, p_isBeat, x0]
  by_cases c1 : (nI 0 ≤ a1 ∧ a1 ≤ nI 5)
  · skip
    by_cases c2 : ((nI 0 ≤ a2 ∧ a2 ≤ nI B - nI 1) ∧ (nI 1 ≤ a3 ∧ a3 ≤ nI B - a2))
    · skip
      by_cases c3 : (nI 0 ≤ a4 ∧ a4 ≤ nI 8)
      · skip
        by_cases c4 : (nI 0 ≤ a5 ∧ a5 ≤ nI 2)
        · simp only [c1, c2, c3, c4, and_self, decide_true, Bool.true_eq_false, not_false_eq_true, not_true_eq_false, if_true, if_false]
          refine wc_mono (h2 ⟨c1, c2, c3, c4⟩) (fun r M1 h => ?_)
          obtain ⟨v, rfl, h⟩ := h
          simp (disch := first | assumption | exact isSc1 | exact isSc3 | exact isSc5 | decide | omega) only [iX7_addMove_0, iX7_addMove_1, iX7_addMove_2, iX7_addMove_3, iX7_addMove_6, iX7_addMove_9, iX7_addMove_10, iX7_addMove_11, iX7_addMove_12, iX7_addMove_15, iX7_addMove_18, iX7_addMove_20, iX7_addMove_21, iX7_addMove_23, iX7_addMove_26, iX7_addMove_29, iX7_addMove_31, iX7_addMove_32, iX7_addMove_33, iX7_addMove_36, iX7_addMove_39, iX7_addMove_42, iX7_addMove_43, iX7_addMove_44, iX7_addMove_45, iX7_addMove_46, iX7_addMove_47, iX7_addMove_49, iX7_addMove_51, iX7_addMove_54, iX7_addMove_57, Nat.reduceAdd, Nat.reduceSub, Nat.reduceMul, Nat.reduceLeDiff, mm_rv_s, mm_rv_n, true_and, and_true, if_true, if_false, not_true_eq_false, not_false_eq_true, nI_add, nz_0, nz_lt0, nz_0le, nz_0lt, nz_le0, nz_lt, nz_le, nz_eq, nz_cl, nz_in, nz_sub, nz_m1, pk_mul, set_o, set_ne, up_ne, up_set, n1_1, true_or, or_true, n1_01, n0_01, bI_01, bI_01b, bI_0, isSc1, isSc3, isSc5, ln_2, ln_4, ln_6, ln_8, ln_10, ln_11, ln_12, ln_13, ln_14, ln_16, ln_17, ln_18, ln_19, ln_20, ln_21, ln_23, ln_24, ln_25, ln_27, ln_28, ln_29]
          refine wc_mono h (fun r M2 h => ?_)
          obtain ⟨v, rfl, h⟩ := h
          simp (disch := first | assumption | exact isSc1 | exact isSc3 | exact isSc5 | decide | omega) only [iX7_addMove_0, iX7_addMove_1, iX7_addMove_2, iX7_addMove_3, iX7_addMove_6, iX7_addMove_9, iX7_addMove_10, iX7_addMove_11, iX7_addMove_12, iX7_addMove_15, iX7_addMove_18, iX7_addMove_20, iX7_addMove_21, iX7_addMove_23, iX7_addMove_26, iX7_addMove_29, iX7_addMove_31, iX7_addMove_32, iX7_addMove_33, iX7_addMove_36, iX7_addMove_39, iX7_addMove_42, iX7_addMove_43, iX7_addMove_44, iX7_addMove_45, iX7_addMove_46, iX7_addMove_47, iX7_addMove_49, iX7_addMove_51, iX7_addMove_54, iX7_addMove_57, Nat.reduceAdd, Nat.reduceSub, Nat.reduceMul, Nat.reduceLeDiff, mm_rv_s, mm_rv_n, true_and, and_true, if_true, if_false, not_true_eq_false, not_false_eq_true, nI_add, nz_0, nz_lt0, nz_0le, nz_0lt, nz_le0, nz_lt, nz_le, nz_eq, nz_cl, nz_in, nz_sub, nz_m1, pk_mul, set_o, set_ne, up_ne, up_set, n1_1, true_or, or_true, n1_01, n0_01, bI_01, bI_01b, bI_0, isSc1, isSc3, isSc5, ln_2, ln_4, ln_6, ln_8, ln_10, ln_11, ln_12, ln_13, ln_14, ln_16, ln_17, ln_18, ln_19, ln_20, ln_21, ln_23, ln_24, ln_25, ln_27, ln_28, ln_29]
          exact h
        · simp only [c1, c2, c3, c4, and_self, decide_true, decide_false, Bool.true_eq_false, not_false_eq_true, not_true_eq_false, if_true, if_false]
          exact h1 (fun z => c4 z.2.2.2)
      · simp only [c1, c2, c3, and_self, decide_true, decide_false, Bool.true_eq_false, not_false_eq_true, not_true_eq_false, if_true, if_false]
        exact h1 (fun z => c3 z.2.2.1)
    · simp only [c1, c2, and_self, decide_true, decide_false, Bool.true_eq_false, not_false_eq_true, not_true_eq_false, if_true, if_false]
      exact h1 (fun z => c2 z.2.1)
  · simp only [c1, and_self, decide_true, decide_false, Bool.true_eq_false, not_false_eq_true, not_true_eq_false, if_true, if_false]
    exact h1 (fun z => c1 z.1)
/-- addMove with arguments in their ranges -/
theorem z_addMove {X V : Nat → Int32} {t : Nat} {c : Nat → Nat} {k b l d v : Nat} (s : Ste M X V B L n g h H t c) (hk : k ≤ 5) (hb : b < B) (hl : 1 ≤ l) (hbl : b + l ≤ B) (hd : d ≤ 8) (hvv : v ≤ 2) (hn60 : n < 60)
    (h1 : ¬ roomS B n g k b l → Q (some (-1002)) M)
    (h3 : roomS B n g k b l → ∀ M', Ste M' X V B L (n + 1) (insG g (pos (gtD g (k, b, 0, l, (d : Int), v)) n) (k, b, 0, l, (d : Int), v)) (pushN h) (pushH h H (B, L, n, g)) t c → Q (some (nI (pos (gtD g (k, b, 0, l, (d : Int), v)) n))) M') : wc 63 [.inr 0, .inl (nI k), .inl (nI b), .inl (nI l), .inl (nI d), .inl (nI v)] M Q := by
  obtain ⟨hcur, hh, ht, hw, h42, h43⟩ := id s
  obtain ⟨hv, hn, hL, hx⟩ := id hcur
  obtain ⟨w1, w2, w3, v1, v2, v3⟩ := id hv
  have hs : okS (k, b, 0, l, (d : Int), v) := by
    simp only [okS, sC, sK, sN, sW, sV]
    omega
  have r : (nI 0 ≤ nI k ∧ nI k ≤ nI 5) ∧ ((nI 0 ≤ nI b ∧ nI b ≤ nI B - nI 1) ∧ (nI 1 ≤ nI l ∧ nI l ≤ nI B - nI b)) ∧ (nI 0 ≤ nI d ∧ nI d ≤ nI 8) ∧ (nI 0 ≤ nI v ∧ nI v ≤ nI 2) := by
    rw [nz_sub _ _ (by omega), nz_sub _ _ (by omega)]
    simp (disch := omega) only [nz_le]
    omega
  refine p_addMove hx.1 _ _ _ _ _ (fun hr => absurd r hr) (fun _ => ?_)
  refine (g_move hs (by omega)).mpr ⟨_, rfl, ?_⟩
  have eC : sC ((k, b, 0, l, (d : Int), v) : Sg) = k := rfl
  have eB : sB ((k, b, 0, l, (d : Int), v) : Sg) = b := rfl
  have eS : sS ((k, b, 0, l, (d : Int), v) : Sg) = l := rfl
  refine x_addSign hcur hh hs (by rw [eB, eS]; exact hbl) (fun hr => ⟨_, rfl, h1 hr⟩) (fun _ h60 => absurd h60 (by omega)) (fun hr _ f2 M' hf hS hC => ⟨_, rfl, h3 hr M' ?_⟩)
  have ne : ∀ q, q ∉ [1, 2, 7, 8] → M' q = M q := fun q hq => by
    simp only [List.mem_cons, List.not_mem_nil, or_false, not_or] at hq
    rw [hS q (by simp only [List.mem_cons, List.not_mem_nil, or_false, not_or]; omega), up_ne _ _ _ (by omega), set_ne _ _ (by omega)]
  refine change_ste s ?_ ?_ ⟨val_ins hv (by omega) hs (by rw [eB, eS]; exact hbl) hr, by omega, hL, hC⟩ (TK.of (fun q hq => ne q ?_))
  · rw [hS 7 (by decide), up_o, us]
  · have e : M' 8 = f2 := by rw [hS 8 (by decide), up_ne _ _ _ (by decide), set_o]
    rw [e]; exact hf
  · simp only [List.mem_cons, List.not_mem_nil, or_false] at hq
    rcases hq with rfl | rfl | rfl | rfl | rfl | rfl | rfl <;> decide
end ADDS
