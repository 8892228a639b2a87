/-! PAIRS: sign, signAt -/
section SGN
variable {M : mm_M} {Q : mm_Q} {B L n h : Nat} {g : Nat → Sg} {H : Nat → St} {s : Sg}
def signV (B n : Nat) (g : Nat → Sg) (k : Nat) (w : Int32) : Int32 := if w = nI 0 then nI (sC (g k)) else if w = nI 1 then nI (sB (g k)) else if w = nI 2 then nI (endN B n g k) else if w = nI 3 then nI (sK (g k)) else if w = nI 4 then (if sK (g k) = 0 then iZ (sW (g k)) else -1004) else if w = nI 5 then (if sK (g k) = 0 then nI (sV (g k)) else -1004) else if w = nI 6 then (if sK (g k) = 2 then iZ (sW (g k)) else -1004) else -1001
theorem p_sign (hC : isC M 1 B L n g) (hv : Val B n g) (v w : Int32) (h1 : ¬ (nI 0 ≤ v ∧ v ≤ nI n - nI 1) → Q (some (-1001)) M) (h2 : ∀ k, v = nI k → k < n → Q (some (signV B n g k w)) M) : wc 73 [.inr 0, .inl v, .inl w] M Q := by
  obtain ⟨x0, x1, x2, x3⟩ := id hC
  have hg := hv.okG
  have w1 := hv.1
  have w2 := hv.2.1
  have w3 := hv.2.2.1
  simp (disch := first | assumption | exact isSc1 | exact isSc3 | exact isSc5 | decide | omega) only [eX7_sign, iX7_sign_0, iX7_sign_1, iX7_sign_2, iX7_sign_3, iX7_sign_6, iX7_sign_9, iX7_sign_10, iX7_sign_11, p_isWithin, x2, isSc1, ln_2, mm_rv_s, true_and]
  by_cases hr : nI 0 ≤ v ∧ v ≤ nI n - nI 1
  · obtain ⟨k, rfl, hk⟩ := in_upto (by omega) hr
    obtain ⟨b1, b2, b3, b4, b5, b6, b7, b8⟩ := okG_b hg hk
    have q := h2 k rfl hk
    simp (disch := first | assumption | exact isSc1 | exact isSc3 | exact isSc5 | decide | omega) only [iX7_sign_14, iX7_sign_17, iX7_sign_20, iX7_sign_21, iX7_sign_22, iX7_sign_25, iX7_sign_26, iX7_sign_29, iX7_sign_30, iX7_sign_31, Nat.reduceAdd, Nat.reduceSub, Nat.reduceMul, Nat.reduceLeDiff, mm_rv_s, mm_rv_n, true_and, and_true, if_true, if_false, not_true_eq_false, not_false_eq_true, nI_add, nz_0, nz_lt0, nz_0le, nz_0lt, nz_le0, nz_lt, nz_le, nz_eq, nz_cl, nz_in, nz_sub, nz_m1, pk_mul, set_o, set_ne, up_ne, up_set, n1_1, true_or, or_true, n1_01, n0_01, bI_01, bI_01b, bI_0, isSc1, isSc3, isSc5, ln_2, ln_4, ln_6, ln_8, ln_10, ln_11, ln_12, ln_13, ln_14, ln_16, ln_17, ln_18, ln_19, ln_20, ln_21, ln_23, ln_24, ln_25, ln_27, ln_28, ln_29, ln_31, ln_32, ln_33, ln_35, ln_36, ln_37, p_at isSc1 x2, x3 k hk, g_kindOf b1 b2, show 0 ≤ k ∧ k ≤ n - 1 by omega, show k ≤ n - 1 by omega, Nat.zero_le, and_self, decide_true, Bool.true_eq_false]
    simp (disch := first | assumption | exact isSc1 | exact isSc3 | exact isSc5 | decide | omega) only [iX7_sign_34, iX7_sign_36, iX7_sign_37, wsw_n, wsw_c]
    unfold signV at q
    have eD : sK (g k) = 0 → nI (sD (g k)) = iZ (sW (g k)) := fun z => by
      have := b1.2.2.2.1 z
      unfold sD
      rw [if_pos z, ← iZ_nat]
      congr 1
      omega
    have eA : sK (g k) = 2 → iZ (sA (g k)) = iZ (sW (g k)) := fun z => by unfold sA; rw [if_pos z]
    by_cases e0 : w = nI 0
    · rw [if_pos e0] at q ⊢
      simp (disch := first | assumption | exact isSc1 | exact isSc3 | exact isSc5 | decide | omega) only [iX7_sign_80, iX7_sign_81, iX7_sign_84, Nat.reduceAdd, Nat.reduceSub, Nat.reduceMul, Nat.reduceLeDiff, mm_rv_s, mm_rv_n, true_and, and_true, if_true, if_false, not_true_eq_false, not_false_eq_true, nI_add, nz_0, nz_lt0, nz_0le, nz_0lt, nz_le0, nz_lt, nz_le, nz_eq, nz_cl, nz_in, nz_sub, nz_m1, pk_mul, set_o, set_ne, up_ne, up_set, n1_1, true_or, or_true, n1_01, n0_01, bI_01, bI_01b, bI_0, isSc1, isSc3, isSc5, ln_2, ln_4, ln_6, ln_8, ln_10, ln_11, ln_12, ln_13, ln_14, ln_16, ln_17, ln_18, ln_19, ln_20, ln_21, ln_23, ln_24, ln_25, ln_27, ln_28, ln_29, ln_31, ln_32, ln_33, ln_35, ln_36, ln_37, g_columnOf b1 b2]
      exact q
    rw [if_neg e0] at q ⊢
    by_cases e1 : w = nI 1
    · rw [if_pos e1] at q ⊢
      simp (disch := first | assumption | exact isSc1 | exact isSc3 | exact isSc5 | decide | omega) only [iX7_sign_85, iX7_sign_86, iX7_sign_89, Nat.reduceAdd, Nat.reduceSub, Nat.reduceMul, Nat.reduceLeDiff, mm_rv_s, mm_rv_n, true_and, and_true, if_true, if_false, not_true_eq_false, not_false_eq_true, nI_add, nz_0, nz_lt0, nz_0le, nz_0lt, nz_le0, nz_lt, nz_le, nz_eq, nz_cl, nz_in, nz_sub, nz_m1, pk_mul, set_o, set_ne, up_ne, up_set, n1_1, true_or, or_true, n1_01, n0_01, bI_01, bI_01b, bI_0, isSc1, isSc3, isSc5, ln_2, ln_4, ln_6, ln_8, ln_10, ln_11, ln_12, ln_13, ln_14, ln_16, ln_17, ln_18, ln_19, ln_20, ln_21, ln_23, ln_24, ln_25, ln_27, ln_28, ln_29, ln_31, ln_32, ln_33, ln_35, ln_36, ln_37, g_beginOf b1 b2]
      exact q
    rw [if_neg e1] at q ⊢
    by_cases e2 : w = nI 2
    · rw [if_pos e2] at q ⊢
      simp (disch := first | assumption | exact isSc1 | exact isSc3 | exact isSc5 | decide | omega) only [iX7_sign_90, iX7_sign_91, iX7_sign_94, iX7_sign_95, iX7_sign_98, Nat.reduceAdd, Nat.reduceSub, Nat.reduceMul, Nat.reduceLeDiff, mm_rv_s, mm_rv_n, true_and, and_true, if_true, if_false, not_true_eq_false, not_false_eq_true, nI_add, nz_0, nz_lt0, nz_0le, nz_0lt, nz_le0, nz_lt, nz_le, nz_eq, nz_cl, nz_in, nz_sub, nz_m1, pk_mul, set_o, set_ne, up_ne, up_set, n1_1, true_or, or_true, n1_01, n0_01, bI_01, bI_01b, bI_0, isSc1, isSc3, isSc5, ln_2, ln_4, ln_6, ln_8, ln_10, ln_11, ln_12, ln_13, ln_14, ln_16, ln_17, ln_18, ln_19, ln_20, ln_21, ln_23, ln_24, ln_25, ln_27, ln_28, ln_29, ln_31, ln_32, ln_33, ln_35, ln_36, ln_37, p_endOf isSc1 hC w3 hg w2 hk]
      exact q
    rw [if_neg e2] at q ⊢
    by_cases e3 : w = nI 3
    · rw [if_pos e3] at q ⊢
      simp (disch := first | assumption | exact isSc1 | exact isSc3 | exact isSc5 | decide | omega) only [iX7_sign_99, iX7_sign_101, Nat.reduceAdd, Nat.reduceSub, Nat.reduceMul, Nat.reduceLeDiff, mm_rv_s, mm_rv_n, true_and, and_true, if_true, if_false, not_true_eq_false, not_false_eq_true, nI_add, nz_0, nz_lt0, nz_0le, nz_0lt, nz_le0, nz_lt, nz_le, nz_eq, nz_cl, nz_in, nz_sub, nz_m1, pk_mul, set_o, set_ne, up_ne, up_set, n1_1, true_or, or_true, n1_01, n0_01, bI_01, bI_01b, bI_0, isSc1, isSc3, isSc5, ln_2, ln_4, ln_6, ln_8, ln_10, ln_11, ln_12, ln_13, ln_14, ln_16, ln_17, ln_18, ln_19, ln_20, ln_21, ln_23, ln_24, ln_25, ln_27, ln_28, ln_29, ln_31, ln_32, ln_33, ln_35, ln_36, ln_37]
      exact q
    rw [if_neg e3] at q ⊢
    by_cases e4 : w = nI 4
    · rw [if_pos e4] at q ⊢
      by_cases d0 : sK (g k) = 0
      · rw [if_pos d0] at q
        simp (disch := first | assumption | exact isSc1 | exact isSc3 | exact isSc5 | decide | omega) only [iX7_sign_102, iX7_sign_104, iX7_sign_107, iX7_sign_108, iX7_sign_111, iX7_sign_114, iX7_sign_117, Nat.reduceAdd, Nat.reduceSub, Nat.reduceMul, Nat.reduceLeDiff, mm_rv_s, mm_rv_n, true_and, and_true, if_true, if_false, not_true_eq_false, not_false_eq_true, nI_add, nz_0, nz_lt0, nz_0le, nz_0lt, nz_le0, nz_lt, nz_le, nz_eq, nz_cl, nz_in, nz_sub, nz_m1, pk_mul, set_o, set_ne, up_ne, up_set, n1_1, true_or, or_true, n1_01, n0_01, bI_01, bI_01b, bI_0, isSc1, isSc3, isSc5, ln_2, ln_4, ln_6, ln_8, ln_10, ln_11, ln_12, ln_13, ln_14, ln_16, ln_17, ln_18, ln_19, ln_20, ln_21, ln_23, ln_24, ln_25, ln_27, ln_28, ln_29, ln_31, ln_32, ln_33, ln_35, ln_36, ln_37, g_directionOf b1 b2, d0]
        rw [eD d0]
        exact q
      · rw [if_neg d0] at q
        simp (disch := first | assumption | exact isSc1 | exact isSc3 | exact isSc5 | decide | omega) only [iX7_sign_102, iX7_sign_104, iX7_sign_107, iX7_sign_108, iX7_sign_111, iX7_sign_114, iX7_sign_117, Nat.reduceAdd, Nat.reduceSub, Nat.reduceMul, Nat.reduceLeDiff, mm_rv_s, mm_rv_n, true_and, and_true, if_true, if_false, not_true_eq_false, not_false_eq_true, nI_add, nz_0, nz_lt0, nz_0le, nz_0lt, nz_le0, nz_lt, nz_le, nz_eq, nz_cl, nz_in, nz_sub, nz_m1, pk_mul, set_o, set_ne, up_ne, up_set, n1_1, true_or, or_true, n1_01, n0_01, bI_01, bI_01b, bI_0, isSc1, isSc3, isSc5, ln_2, ln_4, ln_6, ln_8, ln_10, ln_11, ln_12, ln_13, ln_14, ln_16, ln_17, ln_18, ln_19, ln_20, ln_21, ln_23, ln_24, ln_25, ln_27, ln_28, ln_29, ln_31, ln_32, ln_33, ln_35, ln_36, ln_37, d0]
        exact q
    rw [if_neg e4] at q ⊢
    by_cases e5 : w = nI 5
    · rw [if_pos e5] at q ⊢
      by_cases d0 : sK (g k) = 0
      · rw [if_pos d0] at q
        simp (disch := first | assumption | exact isSc1 | exact isSc3 | exact isSc5 | decide | omega) only [iX7_sign_118, iX7_sign_120, iX7_sign_123, iX7_sign_124, iX7_sign_127, iX7_sign_130, iX7_sign_133, Nat.reduceAdd, Nat.reduceSub, Nat.reduceMul, Nat.reduceLeDiff, mm_rv_s, mm_rv_n, true_and, and_true, if_true, if_false, not_true_eq_false, not_false_eq_true, nI_add, nz_0, nz_lt0, nz_0le, nz_0lt, nz_le0, nz_lt, nz_le, nz_eq, nz_cl, nz_in, nz_sub, nz_m1, pk_mul, set_o, set_ne, up_ne, up_set, n1_1, true_or, or_true, n1_01, n0_01, bI_01, bI_01b, bI_0, isSc1, isSc3, isSc5, ln_2, ln_4, ln_6, ln_8, ln_10, ln_11, ln_12, ln_13, ln_14, ln_16, ln_17, ln_18, ln_19, ln_20, ln_21, ln_23, ln_24, ln_25, ln_27, ln_28, ln_29, ln_31, ln_32, ln_33, ln_35, ln_36, ln_37, g_levelOf b1 b2, d0]
        exact q
      · rw [if_neg d0] at q
        simp (disch := first | assumption | exact isSc1 | exact isSc3 | exact isSc5 | decide | omega) only [iX7_sign_118, iX7_sign_120, iX7_sign_123, iX7_sign_124, iX7_sign_127, iX7_sign_130, iX7_sign_133, Nat.reduceAdd, Nat.reduceSub, Nat.reduceMul, Nat.reduceLeDiff, mm_rv_s, mm_rv_n, true_and, and_true, if_true, if_false, not_true_eq_false, not_false_eq_true, nI_add, nz_0, nz_lt0, nz_0le, nz_0lt, nz_le0, nz_lt, nz_le, nz_eq, nz_cl, nz_in, nz_sub, nz_m1, pk_mul, set_o, set_ne, up_ne, up_set, n1_1, true_or, or_true, n1_01, n0_01, bI_01, bI_01b, bI_0, isSc1, isSc3, isSc5, ln_2, ln_4, ln_6, ln_8, ln_10, ln_11, ln_12, ln_13, ln_14, ln_16, ln_17, ln_18, ln_19, ln_20, ln_21, ln_23, ln_24, ln_25, ln_27, ln_28, ln_29, ln_31, ln_32, ln_33, ln_35, ln_36, ln_37, d0]
        exact q
    rw [if_neg e5] at q ⊢
    by_cases e6 : w = nI 6
    · rw [if_pos e6] at q ⊢
      by_cases d2 : sK (g k) = 2
      · rw [if_pos d2] at q
        simp (disch := first | assumption | exact isSc1 | exact isSc3 | exact isSc5 | decide | omega) only [iX7_sign_134, iX7_sign_136, iX7_sign_137, iX7_sign_140, iX7_sign_141, iX7_sign_144, iX7_sign_147, iX7_sign_150, Nat.reduceAdd, Nat.reduceSub, Nat.reduceMul, Nat.reduceLeDiff, mm_rv_s, mm_rv_n, true_and, and_true, if_true, if_false, not_true_eq_false, not_false_eq_true, nI_add, nz_0, nz_lt0, nz_0le, nz_0lt, nz_le0, nz_lt, nz_le, nz_eq, nz_cl, nz_in, nz_sub, nz_m1, pk_mul, set_o, set_ne, up_ne, up_set, n1_1, true_or, or_true, n1_01, n0_01, bI_01, bI_01b, bI_0, isSc1, isSc3, isSc5, ln_2, ln_4, ln_6, ln_8, ln_10, ln_11, ln_12, ln_13, ln_14, ln_16, ln_17, ln_18, ln_19, ln_20, ln_21, ln_23, ln_24, ln_25, ln_27, ln_28, ln_29, ln_31, ln_32, ln_33, ln_35, ln_36, ln_37, g_amountOf b1 b2, d2]
        rw [eA d2]
        exact q
      · rw [if_neg d2] at q
        simp (disch := first | assumption | exact isSc1 | exact isSc3 | exact isSc5 | decide | omega) only [iX7_sign_134, iX7_sign_136, iX7_sign_137, iX7_sign_140, iX7_sign_141, iX7_sign_144, iX7_sign_147, iX7_sign_150, Nat.reduceAdd, Nat.reduceSub, Nat.reduceMul, Nat.reduceLeDiff, mm_rv_s, mm_rv_n, true_and, and_true, if_true, if_false, not_true_eq_false, not_false_eq_true, nI_add, nz_0, nz_lt0, nz_0le, nz_0lt, nz_le0, nz_lt, nz_le, nz_eq, nz_cl, nz_in, nz_sub, nz_m1, pk_mul, set_o, set_ne, up_ne, up_set, n1_1, true_or, or_true, n1_01, n0_01, bI_01, bI_01b, bI_0, isSc1, isSc3, isSc5, ln_2, ln_4, ln_6, ln_8, ln_10, ln_11, ln_12, ln_13, ln_14, ln_16, ln_17, ln_18, ln_19, ln_20, ln_21, ln_23, ln_24, ln_25, ln_27, ln_28, ln_29, ln_31, ln_32, ln_33, ln_35, ln_36, ln_37, d2]
        exact q
    rw [if_neg e6] at q ⊢
    simp (disch := first | assumption | exact isSc1 | exact isSc3 | exact isSc5 | decide | omega) only [iX7_sign_151, iX7_sign_154]
    exact q
  · simp (disch := first | assumption | exact isSc1 | exact isSc3 | exact isSc5 | decide | omega) only [iX7_sign_14, iX7_sign_17, iX7_sign_20, Nat.reduceAdd, Nat.reduceSub, Nat.reduceMul, Nat.reduceLeDiff, mm_rv_s, mm_rv_n, true_and, and_true, if_true, if_false, not_true_eq_false, not_false_eq_true, nI_add, nz_0, nz_lt0, nz_0le, nz_0lt, nz_le0, nz_lt, nz_le, nz_eq, nz_cl, nz_in, nz_sub, nz_m1, pk_mul, set_o, set_ne, up_ne, up_set, n1_1, true_or, or_true, n1_01, n0_01, bI_01, bI_01b, bI_0, isSc1, isSc3, isSc5, ln_2, ln_4, ln_6, ln_8, ln_10, ln_11, ln_12, ln_13, ln_14, ln_16, ln_17, ln_18, ln_19, ln_20, ln_21, ln_23, ln_24, ln_25, ln_27, ln_28, ln_29, ln_31, ln_32, ln_33, ln_35, ln_36, ln_37, hr, decide_false]
    exact h1 hr
theorem m_sign (hD : isD (M 31) B L n g) (hv : Val B n g) (v w : Int32) (h1 : ¬ (nI 0 ≤ v ∧ v ≤ nI n - nI 1) → Q (some (-1001)) M) (h2 : ∀ k, v = nI k → k < n → Q (some (signV B n g k w)) M) : wc 124 [.inr 30, .inl v, .inl w] M Q := by
  obtain ⟨x0, x1, x2, x3⟩ := id hD
  have hg := hv.okG
  have w1 := hv.1
  have w2 := hv.2.1
  have w3 := hv.2.2.1
  simp (disch := first | assumption | exact isSc1 | exact isSc3 | exact isSc5 | decide | omega) only [eX8_sign, iX8_sign_0, iX8_sign_1, iX8_sign_2, m_isSign, x2, mm_rv_s]
  by_cases hr : nI 0 ≤ v ∧ v ≤ nI n - nI 1
  · obtain ⟨k, rfl, hk⟩ := in_upto (by omega) hr
    obtain ⟨b1, b2, b3, b4, b5, b6, b7, b8⟩ := okG_b hg hk
    obtain ⟨f1, f2, f3, f4, f5, f6⟩ := x3 k hk
    have q := h2 k rfl hk
    simp (disch := first | assumption | exact isSc1 | exact isSc3 | exact isSc5 | decide | omega) only [iX8_sign_5, iX8_sign_8, iX8_sign_11, iX8_sign_12, iX8_sign_13, iX8_sign_16, iX8_sign_19, iX8_sign_20, iX8_sign_21, iX8_sign_22, Nat.reduceAdd, Nat.reduceSub, Nat.reduceMul, Nat.reduceLeDiff, mm_rv_s, mm_rv_n, true_and, and_true, if_true, if_false, not_true_eq_false, not_false_eq_true, nI_add, nz_0, nz_lt0, nz_0le, nz_0lt, nz_le0, nz_lt, nz_le, nz_eq, nz_cl, nz_in, nz_sub, nz_m1, pk_mul, set_o, set_ne, up_ne, up_set, n1_1, true_or, or_true, n1_01, n0_01, bI_01, bI_01b, bI_0, isSc1, isSc3, isSc5, ln_2, ln_4, ln_6, ln_8, ln_10, ln_11, ln_12, ln_13, ln_14, ln_16, ln_17, ln_18, ln_19, ln_20, ln_21, ln_23, ln_24, ln_25, ln_27, ln_28, ln_29, ln_31, ln_32, ln_33, ln_35, ln_36, ln_37, f3, show 0 ≤ k ∧ k ≤ n - 1 by omega, show k ≤ n - 1 by omega, Nat.zero_le, and_self, decide_true, Bool.true_eq_false]
    simp (disch := first | assumption | exact isSc1 | exact isSc3 | exact isSc5 | decide | omega) only [iX8_sign_23, iX8_sign_24, wsw_n, wsw_c]
    unfold signV at q
    by_cases e0 : w = nI 0
    · rw [if_pos e0] at q ⊢
      simp (disch := first | assumption | exact isSc1 | exact isSc3 | exact isSc5 | decide | omega) only [iX8_sign_68, iX8_sign_69, iX8_sign_72, iX8_sign_73, iX8_sign_74, iX8_sign_75, iX8_sign_76, Nat.reduceAdd, Nat.reduceSub, Nat.reduceMul, Nat.reduceLeDiff, mm_rv_s, mm_rv_n, true_and, and_true, if_true, if_false, not_true_eq_false, not_false_eq_true, nI_add, nz_0, nz_lt0, nz_0le, nz_0lt, nz_le0, nz_lt, nz_le, nz_eq, nz_cl, nz_in, nz_sub, nz_m1, pk_mul, set_o, set_ne, up_ne, up_set, n1_1, true_or, or_true, n1_01, n0_01, bI_01, bI_01b, bI_0, isSc1, isSc3, isSc5, ln_2, ln_4, ln_6, ln_8, ln_10, ln_11, ln_12, ln_13, ln_14, ln_16, ln_17, ln_18, ln_19, ln_20, ln_21, ln_23, ln_24, ln_25, ln_27, ln_28, ln_29, ln_31, ln_32, ln_33, ln_35, ln_36, ln_37, f1]
      exact q
    rw [if_neg e0] at q ⊢
    by_cases e1 : w = nI 1
    · rw [if_pos e1] at q ⊢
      simp (disch := first | assumption | exact isSc1 | exact isSc3 | exact isSc5 | decide | omega) only [iX8_sign_77, iX8_sign_78, iX8_sign_81, iX8_sign_83, iX8_sign_84, iX8_sign_85, iX8_sign_86, Nat.reduceAdd, Nat.reduceSub, Nat.reduceMul, Nat.reduceLeDiff, mm_rv_s, mm_rv_n, true_and, and_true, if_true, if_false, not_true_eq_false, not_false_eq_true, nI_add, nz_0, nz_lt0, nz_0le, nz_0lt, nz_le0, nz_lt, nz_le, nz_eq, nz_cl, nz_in, nz_sub, nz_m1, pk_mul, set_o, set_ne, up_ne, up_set, n1_1, true_or, or_true, n1_01, n0_01, bI_01, bI_01b, bI_0, isSc1, isSc3, isSc5, ln_2, ln_4, ln_6, ln_8, ln_10, ln_11, ln_12, ln_13, ln_14, ln_16, ln_17, ln_18, ln_19, ln_20, ln_21, ln_23, ln_24, ln_25, ln_27, ln_28, ln_29, ln_31, ln_32, ln_33, ln_35, ln_36, ln_37, f2]
      exact q
    rw [if_neg e1] at q ⊢
    by_cases e2 : w = nI 2
    · rw [if_pos e2] at q ⊢
      simp (disch := first | assumption | exact isSc1 | exact isSc3 | exact isSc5 | decide | omega) only [iX8_sign_87, iX8_sign_88, iX8_sign_89, iX8_sign_92, Nat.reduceAdd, Nat.reduceSub, Nat.reduceMul, Nat.reduceLeDiff, mm_rv_s, mm_rv_n, true_and, and_true, if_true, if_false, not_true_eq_false, not_false_eq_true, nI_add, nz_0, nz_lt0, nz_0le, nz_0lt, nz_le0, nz_lt, nz_le, nz_eq, nz_cl, nz_in, nz_sub, nz_m1, pk_mul, set_o, set_ne, up_ne, up_set, n1_1, true_or, or_true, n1_01, n0_01, bI_01, bI_01b, bI_0, isSc1, isSc3, isSc5, ln_2, ln_4, ln_6, ln_8, ln_10, ln_11, ln_12, ln_13, ln_14, ln_16, ln_17, ln_18, ln_19, ln_20, ln_21, ln_23, ln_24, ln_25, ln_27, ln_28, ln_29, ln_31, ln_32, ln_33, ln_35, ln_36, ln_37, m_endOf hD w3 hg w2 hk]
      exact q
    rw [if_neg e2] at q ⊢
    by_cases e3 : w = nI 3
    · rw [if_pos e3] at q ⊢
      simp (disch := first | assumption | exact isSc1 | exact isSc3 | exact isSc5 | decide | omega) only [iX8_sign_93, iX8_sign_94, Nat.reduceAdd, Nat.reduceSub, Nat.reduceMul, Nat.reduceLeDiff, mm_rv_s, mm_rv_n, true_and, and_true, if_true, if_false, not_true_eq_false, not_false_eq_true, nI_add, nz_0, nz_lt0, nz_0le, nz_0lt, nz_le0, nz_lt, nz_le, nz_eq, nz_cl, nz_in, nz_sub, nz_m1, pk_mul, set_o, set_ne, up_ne, up_set, n1_1, true_or, or_true, n1_01, n0_01, bI_01, bI_01b, bI_0, isSc1, isSc3, isSc5, ln_2, ln_4, ln_6, ln_8, ln_10, ln_11, ln_12, ln_13, ln_14, ln_16, ln_17, ln_18, ln_19, ln_20, ln_21, ln_23, ln_24, ln_25, ln_27, ln_28, ln_29, ln_31, ln_32, ln_33, ln_35, ln_36, ln_37]
      exact q
    rw [if_neg e3] at q ⊢
    by_cases e4 : w = nI 4
    · rw [if_pos e4] at q ⊢
      by_cases d0 : sK (g k) = 0
      · rw [if_pos d0] at q
        simp (disch := first | assumption | exact isSc1 | exact isSc3 | exact isSc5 | decide | omega) only [iX8_sign_95, iX8_sign_96, iX8_sign_99, iX8_sign_100, iX8_sign_103, iX8_sign_106, iX8_sign_107, iX8_sign_108, iX8_sign_109, iX8_sign_112, iX8_sign_115, Nat.reduceAdd, Nat.reduceSub, Nat.reduceMul, Nat.reduceLeDiff, mm_rv_s, mm_rv_n, true_and, and_true, if_true, if_false, not_true_eq_false, not_false_eq_true, nI_add, nz_0, nz_lt0, nz_0le, nz_0lt, nz_le0, nz_lt, nz_le, nz_eq, nz_cl, nz_in, nz_sub, nz_m1, pk_mul, set_o, set_ne, up_ne, up_set, n1_1, true_or, or_true, n1_01, n0_01, bI_01, bI_01b, bI_0, isSc1, isSc3, isSc5, ln_2, ln_4, ln_6, ln_8, ln_10, ln_11, ln_12, ln_13, ln_14, ln_16, ln_17, ln_18, ln_19, ln_20, ln_21, ln_23, ln_24, ln_25, ln_27, ln_28, ln_29, ln_31, ln_32, ln_33, ln_35, ln_36, ln_37, f5, d0]
        exact q
      · rw [if_neg d0] at q
        simp (disch := first | assumption | exact isSc1 | exact isSc3 | exact isSc5 | decide | omega) only [iX8_sign_95, iX8_sign_96, iX8_sign_99, iX8_sign_100, iX8_sign_103, iX8_sign_106, iX8_sign_107, iX8_sign_108, iX8_sign_109, iX8_sign_112, iX8_sign_115, Nat.reduceAdd, Nat.reduceSub, Nat.reduceMul, Nat.reduceLeDiff, mm_rv_s, mm_rv_n, true_and, and_true, if_true, if_false, not_true_eq_false, not_false_eq_true, nI_add, nz_0, nz_lt0, nz_0le, nz_0lt, nz_le0, nz_lt, nz_le, nz_eq, nz_cl, nz_in, nz_sub, nz_m1, pk_mul, set_o, set_ne, up_ne, up_set, n1_1, true_or, or_true, n1_01, n0_01, bI_01, bI_01b, bI_0, isSc1, isSc3, isSc5, ln_2, ln_4, ln_6, ln_8, ln_10, ln_11, ln_12, ln_13, ln_14, ln_16, ln_17, ln_18, ln_19, ln_20, ln_21, ln_23, ln_24, ln_25, ln_27, ln_28, ln_29, ln_31, ln_32, ln_33, ln_35, ln_36, ln_37, d0]
        exact q
    rw [if_neg e4] at q ⊢
    by_cases e5 : w = nI 5
    · rw [if_pos e5] at q ⊢
      by_cases d0 : sK (g k) = 0
      · rw [if_pos d0] at q
        simp (disch := first | assumption | exact isSc1 | exact isSc3 | exact isSc5 | decide | omega) only [iX8_sign_116, iX8_sign_117, iX8_sign_120, iX8_sign_121, iX8_sign_124, iX8_sign_127, iX8_sign_128, iX8_sign_129, iX8_sign_130, iX8_sign_133, iX8_sign_136, Nat.reduceAdd, Nat.reduceSub, Nat.reduceMul, Nat.reduceLeDiff, mm_rv_s, mm_rv_n, true_and, and_true, if_true, if_false, not_true_eq_false, not_false_eq_true, nI_add, nz_0, nz_lt0, nz_0le, nz_0lt, nz_le0, nz_lt, nz_le, nz_eq, nz_cl, nz_in, nz_sub, nz_m1, pk_mul, set_o, set_ne, up_ne, up_set, n1_1, true_or, or_true, n1_01, n0_01, bI_01, bI_01b, bI_0, isSc1, isSc3, isSc5, ln_2, ln_4, ln_6, ln_8, ln_10, ln_11, ln_12, ln_13, ln_14, ln_16, ln_17, ln_18, ln_19, ln_20, ln_21, ln_23, ln_24, ln_25, ln_27, ln_28, ln_29, ln_31, ln_32, ln_33, ln_35, ln_36, ln_37, f6, d0]
        exact q
      · rw [if_neg d0] at q
        simp (disch := first | assumption | exact isSc1 | exact isSc3 | exact isSc5 | decide | omega) only [iX8_sign_116, iX8_sign_117, iX8_sign_120, iX8_sign_121, iX8_sign_124, iX8_sign_127, iX8_sign_128, iX8_sign_129, iX8_sign_130, iX8_sign_133, iX8_sign_136, Nat.reduceAdd, Nat.reduceSub, Nat.reduceMul, Nat.reduceLeDiff, mm_rv_s, mm_rv_n, true_and, and_true, if_true, if_false, not_true_eq_false, not_false_eq_true, nI_add, nz_0, nz_lt0, nz_0le, nz_0lt, nz_le0, nz_lt, nz_le, nz_eq, nz_cl, nz_in, nz_sub, nz_m1, pk_mul, set_o, set_ne, up_ne, up_set, n1_1, true_or, or_true, n1_01, n0_01, bI_01, bI_01b, bI_0, isSc1, isSc3, isSc5, ln_2, ln_4, ln_6, ln_8, ln_10, ln_11, ln_12, ln_13, ln_14, ln_16, ln_17, ln_18, ln_19, ln_20, ln_21, ln_23, ln_24, ln_25, ln_27, ln_28, ln_29, ln_31, ln_32, ln_33, ln_35, ln_36, ln_37, d0]
        exact q
    rw [if_neg e5] at q ⊢
    by_cases e6 : w = nI 6
    · rw [if_pos e6] at q ⊢
      by_cases d2 : sK (g k) = 2
      · rw [if_pos d2] at q
        simp (disch := first | assumption | exact isSc1 | exact isSc3 | exact isSc5 | decide | omega) only [iX8_sign_137, iX8_sign_138, iX8_sign_139, iX8_sign_142, iX8_sign_143, iX8_sign_146, iX8_sign_149, iX8_sign_150, iX8_sign_151, iX8_sign_152, iX8_sign_155, iX8_sign_158, Nat.reduceAdd, Nat.reduceSub, Nat.reduceMul, Nat.reduceLeDiff, mm_rv_s, mm_rv_n, true_and, and_true, if_true, if_false, not_true_eq_false, not_false_eq_true, nI_add, nz_0, nz_lt0, nz_0le, nz_0lt, nz_le0, nz_lt, nz_le, nz_eq, nz_cl, nz_in, nz_sub, nz_m1, pk_mul, set_o, set_ne, up_ne, up_set, n1_1, true_or, or_true, n1_01, n0_01, bI_01, bI_01b, bI_0, isSc1, isSc3, isSc5, ln_2, ln_4, ln_6, ln_8, ln_10, ln_11, ln_12, ln_13, ln_14, ln_16, ln_17, ln_18, ln_19, ln_20, ln_21, ln_23, ln_24, ln_25, ln_27, ln_28, ln_29, ln_31, ln_32, ln_33, ln_35, ln_36, ln_37, f5, d2]
        exact q
      · rw [if_neg d2] at q
        simp (disch := first | assumption | exact isSc1 | exact isSc3 | exact isSc5 | decide | omega) only [iX8_sign_137, iX8_sign_138, iX8_sign_139, iX8_sign_142, iX8_sign_143, iX8_sign_146, iX8_sign_149, iX8_sign_150, iX8_sign_151, iX8_sign_152, iX8_sign_155, iX8_sign_158, Nat.reduceAdd, Nat.reduceSub, Nat.reduceMul, Nat.reduceLeDiff, mm_rv_s, mm_rv_n, true_and, and_true, if_true, if_false, not_true_eq_false, not_false_eq_true, nI_add, nz_0, nz_lt0, nz_0le, nz_0lt, nz_le0, nz_lt, nz_le, nz_eq, nz_cl, nz_in, nz_sub, nz_m1, pk_mul, set_o, set_ne, up_ne, up_set, n1_1, true_or, or_true, n1_01, n0_01, bI_01, bI_01b, bI_0, isSc1, isSc3, isSc5, ln_2, ln_4, ln_6, ln_8, ln_10, ln_11, ln_12, ln_13, ln_14, ln_16, ln_17, ln_18, ln_19, ln_20, ln_21, ln_23, ln_24, ln_25, ln_27, ln_28, ln_29, ln_31, ln_32, ln_33, ln_35, ln_36, ln_37, d2]
        exact q
    rw [if_neg e6] at q ⊢
    simp (disch := first | assumption | exact isSc1 | exact isSc3 | exact isSc5 | decide | omega) only [iX8_sign_159, iX8_sign_162]
    exact q
  · simp (disch := first | assumption | exact isSc1 | exact isSc3 | exact isSc5 | decide | omega) only [iX8_sign_5, iX8_sign_8, iX8_sign_11, Nat.reduceAdd, Nat.reduceSub, Nat.reduceMul, Nat.reduceLeDiff, mm_rv_s, mm_rv_n, true_and, and_true, if_true, if_false, not_true_eq_false, not_false_eq_true, nI_add, nz_0, nz_lt0, nz_0le, nz_0lt, nz_le0, nz_lt, nz_le, nz_eq, nz_cl, nz_in, nz_sub, nz_m1, pk_mul, set_o, set_ne, up_ne, up_set, n1_1, true_or, or_true, n1_01, n0_01, bI_01, bI_01b, bI_0, isSc1, isSc3, isSc5, ln_2, ln_4, ln_6, ln_8, ln_10, ln_11, ln_12, ln_13, ln_14, ln_16, ln_17, ln_18, ln_19, ln_20, ln_21, ln_23, ln_24, ln_25, ln_27, ln_28, ln_29, ln_31, ln_32, ln_33, ln_35, ln_36, ln_37, hr, decide_false]
    exact h1 hr
theorem pr_sign (hI : Inv M) (a1 a2 : Int32) : lw_pair Inv M 73 124 [.inl a1, .inl a2] := by
  obtain ⟨⟨B, L, n, g, hc⟩, ⟨h, H, hh⟩, ht, hw⟩ := id hI
  obtain ⟨hv, hn, hL, hx, hd⟩ := id hc
  have wr : ∀ k, a1 = nI k → k < n → nI 0 ≤ a1 ∧ a1 ≤ nI n - nI 1 := by
    intro k e hk
    subst e
    rw [sub_one (show 1 ≤ n by omega)]
    exact ⟨(nI_leI (by decide) (by omega)).mpr (by omega), (nI_leI (by omega) (by omega)).mpr (by omega)⟩
  refine p_sign hx hv a1 a2 (fun hr => ⟨_, rfl, ?_⟩) (fun k e hk => ⟨_, rfl, ?_⟩)
  · exact m_sign hd hv a1 a2 (fun _ => ⟨rfl, hI⟩) (fun k e hk => absurd (wr k e hk) hr)
  · refine m_sign hd hv a1 a2 (fun hr => absurd (wr k e hk) hr) (fun k2 e2 hk2 => ⟨?_, hI⟩)
    have : k = k2 := (nI_eq (by omega) (by omega)).mp (e.symm.trans e2)
    rw [this]
def nf (x : Option Nat) : Int32 := match x with
  | some i => nI i
  | none => -1004
theorem oI_cases (x : Option Nat) : (x = none ∧ oI x = -1) ∨ (∃ i, x = some i ∧ oI x = nI i) := by cases x <;> simp [oI]
theorem cv_lt {B n : Nat} {g : Nat → Sg} {c t i : Nat} (h : cv B n g c t = some i) : i < n := by
  unfold cv at h
  cases e : latest g n c t with
  | none => rw [e] at h; simp at h
  | some j =>
    rw [e] at h
    simp only at h
    have := (latest_some e).1
    split at h
    · cases h; exact this
    · cases h
theorem p_signAt (hC : isC M 1 B L n g) (hv : Val B n g) (v w : Int32) (h1 : ¬ ((nI 0 ≤ v ∧ v ≤ nI 6) ∧ (nI 0 ≤ w ∧ w ≤ nI B - nI 1)) → Q (some (-1001)) M) (h2 : ∀ c t, v = nI c → w = nI t → c ≤ 6 → t < B → Q (some (nf (cv B n g c t))) M) : wc 74 [.inr 0, .inl v, .inl w] M Q := by
  obtain ⟨x0, x1, x2, x3⟩ := id hC
  have w2 := hv.2.1
  have w3 := hv.2.2.1
  simp (disch := first | assumption | exact isSc1 | exact isSc3 | exact isSc5 | decide | omega) only [eX7_signAt, iX7_signAt_0, iX7_signAt_1, p_isColumn, mm_rv_s]
  by_cases hr : nI 0 ≤ v ∧ v ≤ nI 6
  · simp (disch := first | assumption | exact isSc1 | exact isSc3 | exact isSc5 | decide | omega) only [iX7_signAt_4, iX7_signAt_7, iX7_signAt_8, iX7_signAt_9, p_isBeat, x0, hr, and_self, decide_true, bI_01, bI_0, Bool.true_eq_false, not_false_eq_true, if_true, if_false, true_and, mm_rv_s]
    by_cases hr2 : nI 0 ≤ w ∧ w ≤ nI B - nI 1
    · obtain ⟨c, rfl, -, hc⟩ := in_nat hr.1 hr.2 (by decide) (by decide)
      obtain ⟨t, rfl, ht⟩ := in_upto (by omega) hr2
      have q := h2 c t rfl rfl hc ht
      simp only [hr2, and_self, decide_true]
      simp (disch := first | assumption | exact isSc1 | exact isSc3 | exact isSc5 | decide | omega) only [iX7_signAt_12, iX7_signAt_15, iX7_signAt_18, iX7_signAt_19, iX7_signAt_20, iX7_signAt_23, iX7_signAt_24, iX7_signAt_25, iX7_signAt_28, iX7_signAt_29, iX7_signAt_30, bI_01, bI_0, Bool.true_eq_false, p_numberCovering isSc1 hC hv, mm_rv_s, not_false_eq_true, if_true, if_false, true_and]
      rcases oI_cases (cv B n g c t) with ⟨e1, e2⟩ | ⟨i, e1, e2⟩
      · rw [e1] at q
        simp (disch := first | assumption | exact isSc1 | exact isSc3 | exact isSc5 | decide | omega) only [e2, iX7_signAt_31, iX7_signAt_34, iX7_signAt_37, iX7_signAt_40, iX7_signAt_41, not_true_eq_false, if_false]
        exact q
      · have := cv_lt e1
        rw [e1] at q
        simp (disch := first | assumption | exact isSc1 | exact isSc3 | exact isSc5 | decide | omega) only [e2, iX7_signAt_31, iX7_signAt_34, iX7_signAt_37, iX7_signAt_40, iX7_signAt_41, Nat.reduceAdd, Nat.reduceSub, Nat.reduceMul, Nat.reduceLeDiff, mm_rv_s, mm_rv_n, true_and, and_true, if_true, if_false, not_true_eq_false, not_false_eq_true, nI_add, nz_0, nz_lt0, nz_0le, nz_0lt, nz_le0, nz_lt, nz_le, nz_eq, nz_cl, nz_in, nz_sub, nz_m1, pk_mul, set_o, set_ne, up_ne, up_set, n1_1, true_or, or_true, n1_01, n0_01, bI_01, bI_01b, bI_0, isSc1, isSc3, isSc5, ln_2, ln_4, ln_6, ln_8, ln_10, ln_11, ln_12, ln_13, ln_14, ln_16, ln_17, ln_18, ln_19, ln_20, ln_21, ln_23, ln_24, ln_25, ln_27, ln_28, ln_29, ln_31, ln_32, ln_33, ln_35, ln_36, ln_37, nz_ne1]
        exact q
    · simp (disch := first | assumption | exact isSc1 | exact isSc3 | exact isSc5 | decide | omega) only [iX7_signAt_12, iX7_signAt_15, iX7_signAt_18, hr2, decide_false, Nat.reduceAdd, Nat.reduceSub, Nat.reduceMul, Nat.reduceLeDiff, mm_rv_s, mm_rv_n, true_and, and_true, if_true, if_false, not_true_eq_false, not_false_eq_true, nI_add, nz_0, nz_lt0, nz_0le, nz_0lt, nz_le0, nz_lt, nz_le, nz_eq, nz_cl, nz_in, nz_sub, nz_m1, pk_mul, set_o, set_ne, up_ne, up_set, n1_1, true_or, or_true, n1_01, n0_01, bI_01, bI_01b, bI_0, isSc1, isSc3, isSc5, ln_2, ln_4, ln_6, ln_8, ln_10, ln_11, ln_12, ln_13, ln_14, ln_16, ln_17, ln_18, ln_19, ln_20, ln_21, ln_23, ln_24, ln_25, ln_27, ln_28, ln_29, ln_31, ln_32, ln_33, ln_35, ln_36, ln_37]
      exact h1 (fun z => hr2 z.2)
  · simp (disch := first | assumption | exact isSc1 | exact isSc3 | exact isSc5 | decide | omega) only [iX7_signAt_4, iX7_signAt_7, iX7_signAt_8, iX7_signAt_9, iX7_signAt_12, iX7_signAt_15, iX7_signAt_18, hr, decide_false, Nat.reduceAdd, Nat.reduceSub, Nat.reduceMul, Nat.reduceLeDiff, mm_rv_s, mm_rv_n, true_and, and_true, if_true, if_false, not_true_eq_false, not_false_eq_true, nI_add, nz_0, nz_lt0, nz_0le, nz_0lt, nz_le0, nz_lt, nz_le, nz_eq, nz_cl, nz_in, nz_sub, nz_m1, pk_mul, set_o, set_ne, up_ne, up_set, n1_1, true_or, or_true, n1_01, n0_01, bI_01, bI_01b, bI_0, isSc1, isSc3, isSc5, ln_2, ln_4, ln_6, ln_8, ln_10, ln_11, ln_12, ln_13, ln_14, ln_16, ln_17, ln_18, ln_19, ln_20, ln_21, ln_23, ln_24, ln_25, ln_27, ln_28, ln_29, ln_31, ln_32, ln_33, ln_35, ln_36, ln_37]
    exact h1 (fun z => hr z.1)
theorem m_signAt (hD : isD (M 31) B L n g) (hv : Val B n g) (v w : Int32) (h1 : ¬ ((nI 0 ≤ v ∧ v ≤ nI 6) ∧ (nI 0 ≤ w ∧ w ≤ nI B - nI 1)) → Q (some (-1001)) M) (h2 : ∀ c t, v = nI c → w = nI t → c ≤ 6 → t < B → ∀ f, Q (some (nf (cv B n g c t))) (mm_set M 37 f)) : wc 125 [.inr 30, .inl v, .inl w] M Q := by
  obtain ⟨x0, x1, x2, x3⟩ := id hD
  have w2 := hv.2.1
  have w3 := hv.2.2.1
  simp (disch := first | assumption | exact isSc1 | exact isSc3 | exact isSc5 | decide | omega) only [eX8_signAt, iX8_signAt_0, iX8_signAt_1, p_isColumnM, mm_rv_s]
  by_cases hr : nI 0 ≤ v ∧ v ≤ nI 6
  · simp (disch := first | assumption | exact isSc1 | exact isSc3 | exact isSc5 | decide | omega) only [iX8_signAt_4, iX8_signAt_7, iX8_signAt_8, iX8_signAt_9, p_isBeatM, x0, hr, and_self, decide_true, bI_01, bI_0, Bool.true_eq_false, not_false_eq_true, if_true, if_false, true_and, mm_rv_s]
    by_cases hr2 : nI 0 ≤ w ∧ w ≤ nI B - nI 1
    · obtain ⟨c, rfl, -, hc⟩ := in_nat hr.1 hr.2 (by decide) (by decide)
      obtain ⟨t, rfl, ht⟩ := in_upto (by omega) hr2
      simp only [hr2, and_self, decide_true]
      simp (disch := first | assumption | exact isSc1 | exact isSc3 | exact isSc5 | decide | omega) only [iX8_signAt_12, iX8_signAt_15, iX8_signAt_18, iX8_signAt_19, iX8_signAt_20, bI_01, bI_0, Bool.true_eq_false, mm_rv_s, not_false_eq_true, if_true, if_false, true_and]
      refine m_fills hD w3 hv.okG w2 (fun f hf => ?_)
      have q := h2 c t rfl rfl hc ht f
      simp (disch := first | assumption | exact isSc1 | exact isSc3 | exact isSc5 | decide | omega) only [mm_rv_n, iX8_signAt_23, iX8_signAt_24, iX8_signAt_25, iX8_signAt_26, iX8_signAt_29, iX8_signAt_30, m_covering (set_o M 37 f) hf, mm_rv_s]
      rcases oI_cases (cv B n g c t) with ⟨e1, e2⟩ | ⟨i, e1, e2⟩
      · rw [e1] at q
        rw [e2]
        simp (disch := first | assumption | exact isSc1 | exact isSc3 | exact isSc5 | decide | omega) only [iX8_signAt_31, iX8_signAt_34, iX8_signAt_37, iX8_signAt_40, iX8_signAt_41, show ¬ (0 : Int32) ≤ -1 by decide, if_false]
        exact q
      · have := cv_lt e1
        rw [e1] at q
        simp (disch := first | assumption | exact isSc1 | exact isSc3 | exact isSc5 | decide | omega) only [e2, iX8_signAt_31, iX8_signAt_34, iX8_signAt_37, iX8_signAt_40, iX8_signAt_41, Nat.reduceAdd, Nat.reduceSub, Nat.reduceMul, Nat.reduceLeDiff, mm_rv_s, mm_rv_n, true_and, and_true, if_true, if_false, not_true_eq_false, not_false_eq_true, nI_add, nz_0, nz_lt0, nz_0le, nz_0lt, nz_le0, nz_lt, nz_le, nz_eq, nz_cl, nz_in, nz_sub, nz_m1, pk_mul, set_o, set_ne, up_ne, up_set, n1_1, true_or, or_true, n1_01, n0_01, bI_01, bI_01b, bI_0, isSc1, isSc3, isSc5, ln_2, ln_4, ln_6, ln_8, ln_10, ln_11, ln_12, ln_13, ln_14, ln_16, ln_17, ln_18, ln_19, ln_20, ln_21, ln_23, ln_24, ln_25, ln_27, ln_28, ln_29, ln_31, ln_32, ln_33, ln_35, ln_36, ln_37]
        exact q
    · simp (disch := first | assumption | exact isSc1 | exact isSc3 | exact isSc5 | decide | omega) only [iX8_signAt_12, iX8_signAt_15, iX8_signAt_18, hr2, decide_false, Nat.reduceAdd, Nat.reduceSub, Nat.reduceMul, Nat.reduceLeDiff, mm_rv_s, mm_rv_n, true_and, and_true, if_true, if_false, not_true_eq_false, not_false_eq_true, nI_add, nz_0, nz_lt0, nz_0le, nz_0lt, nz_le0, nz_lt, nz_le, nz_eq, nz_cl, nz_in, nz_sub, nz_m1, pk_mul, set_o, set_ne, up_ne, up_set, n1_1, true_or, or_true, n1_01, n0_01, bI_01, bI_01b, bI_0, isSc1, isSc3, isSc5, ln_2, ln_4, ln_6, ln_8, ln_10, ln_11, ln_12, ln_13, ln_14, ln_16, ln_17, ln_18, ln_19, ln_20, ln_21, ln_23, ln_24, ln_25, ln_27, ln_28, ln_29, ln_31, ln_32, ln_33, ln_35, ln_36, ln_37]
      exact h1 (fun z => hr2 z.2)
  · simp (disch := first | assumption | exact isSc1 | exact isSc3 | exact isSc5 | decide | omega) only [iX8_signAt_4, iX8_signAt_7, iX8_signAt_8, iX8_signAt_9, iX8_signAt_12, iX8_signAt_15, iX8_signAt_18, hr, decide_false, Nat.reduceAdd, Nat.reduceSub, Nat.reduceMul, Nat.reduceLeDiff, mm_rv_s, mm_rv_n, true_and, and_true, if_true, if_false, not_true_eq_false, not_false_eq_true, nI_add, nz_0, nz_lt0, nz_0le, nz_0lt, nz_le0, nz_lt, nz_le, nz_eq, nz_cl, nz_in, nz_sub, nz_m1, pk_mul, set_o, set_ne, up_ne, up_set, n1_1, true_or, or_true, n1_01, n0_01, bI_01, bI_01b, bI_0, isSc1, isSc3, isSc5, ln_2, ln_4, ln_6, ln_8, ln_10, ln_11, ln_12, ln_13, ln_14, ln_16, ln_17, ln_18, ln_19, ln_20, ln_21, ln_23, ln_24, ln_25, ln_27, ln_28, ln_29, ln_31, ln_32, ln_33, ln_35, ln_36, ln_37]
    exact h1 (fun z => hr z.1)
theorem pr_signAt (hI : Inv M) (a1 a2 : Int32) : lw_pair Inv M 74 125 [.inl a1, .inl a2] := by
  obtain ⟨⟨B, L, n, g, hc⟩, ⟨h, H, hh⟩, ht, hw⟩ := id hI
  obtain ⟨hv, hn, hL, hx, hd⟩ := id hc
  have w2 := hv.2.1
  have w1 := hv.1
  have wr : ∀ c t, a1 = nI c → a2 = nI t → c ≤ 6 → t < B → (nI 0 ≤ a1 ∧ a1 ≤ nI 6) ∧ (nI 0 ≤ a2 ∧ a2 ≤ nI B - nI 1) := by
    intro c t e e2 hc ht
    subst e e2
    rw [sub_one (show 1 ≤ B by omega)]
    exact ⟨⟨(nI_leI (by decide) (by omega)).mpr (by omega), (nI_leI (by omega) (by omega)).mpr (by omega)⟩, ⟨(nI_leI (by decide) (by omega)).mpr (by omega), (nI_leI (by omega) (by omega)).mpr (by omega)⟩⟩
  refine p_signAt hx hv a1 a2 (fun hr => ⟨_, rfl, ?_⟩) (fun c t e e2 hc ht => ⟨_, rfl, ?_⟩)
  · exact m_signAt hd hv a1 a2 (fun _ => ⟨rfl, hI⟩) (fun c t e e2 hc ht => absurd (wr c t e e2 hc ht) hr)
  · refine m_signAt hd hv a1 a2 (fun hr => absurd (wr c t e e2 hc ht) hr) (fun c2 t2 e3 e4 hc2 ht2 f => ⟨?_, hI.kp (Kp.set f (by decide))⟩)
    have h1 : c = c2 := (nI_eq (by omega) (by omega)).mp (e.symm.trans e3)
    have h2 : t = t2 := (nI_eq (by omega) (by omega)).mp (e2.symm.trans e4)
    rw [h1, h2]
end SGN
