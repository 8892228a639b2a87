/-! PAIRS: sign, signAt -/
section SGN
variable {M : mm_M} {Q : mm_Q} {B L n h : Nat} {g : Nat → Sg} {H : Nat → St} {s : Sg}
def signV (B n : Nat) (g : Nat → Sg) (k : Nat) (w : Int32) : Int32 := if w = nI 0 then nI (sC (g k)) else if w = nI 1 then nI (sB (g k)) else if w = nI 2 then nI (endN B n g k) else if w = nI 3 then nI (sK (g k)) else if w = nI 4 then (if sK (g k) = 0 then iZ (sW (g k)) else -1004) else if w = nI 5 then (if sK (g k) = 0 then nI (sV (g k)) else -1004) else if w = nI 6 then (if sK (g k) = 2 then iZ (sW (g k)) else -1004) else -1001
theorem p_sign (hC : isC M 1 B L n g) (hv : Val B n g) (v w : Int32) (h1 : ¬ (nI 0 ≤ v ∧ v ≤ nI n - nI 1) → Q (some (-1001)) M) (h2 : ∀ k, v = nI k → k < n → Q (some (signV B n g k w)) M) : wc 73 [.inr 0, .inl v, .inl w] M Q := by
  obtain ⟨x0, x1, x2, x3⟩ := id hC
  have hg := hv.okG
  have w1 := hv.1
  have w2 := hv.2.1
  have w3 := hv.2.2.1
  simp (disch := first | assumption | exact isSc1 | exact isSc3 | exact isSc5 | decide | omega) only [eX7_sign, iX7_sign_0, iX7_sign_1, iX7_sign_2, iX7_sign_3, iX7_sign_6, iX7_sign_9, iX7_sign_10, iX7_sign_11, p_isWithin, x2, isSc1, ln_2, mm_rv_s, true_and]
  by_cases hr : nI 0 ≤ v ∧ v ≤ nI n - nI 1
  · obtain ⟨k, rfl, hk⟩ := in_upto (by omega) hr
    obtain ⟨b1, b2, b3, b4, b5, b6, b7, b8⟩ := okG_b hg hk
    have q := h2 k rfl hk
    simp (disch := first | assumption | exact isSc1 | exact isSc3 | exact isSc5 | decide | omega) only [iX7_sign_14, iX7_sign_17, iX7_sign_20, iX7_sign_21, iX7_sign_22, iX7_sign_25, iX7_sign_26, iX7_sign_29, iX7_sign_30, iX7_sign_31, Nat.reduceAdd, Nat.reduceSub, Nat.reduceMul, Nat.reduceLeDiff, mm_rv_s, mm_rv_n, true_and, and_true, if_true, if_false, not_true_eq_false, not_false_eq_true, nI_add, nz_0, nz_lt0, nz_0le, nz_0lt, nz_le0, nz_lt, nz_le, nz_eq, nz_cl, nz_in, nz_sub, nz_m1, pk_mul, set_o, set_ne, up_ne, up_set, n1_1, true_or, or_true, n1_01, n0_01, bI_01, bI_01b, bI_0, isSc1, isSc3, isSc5, ln_2, ln_4, ln_6, ln_8, ln_10, ln_11, ln_12, ln_13, ln_14, ln_16, ln_17, ln_18, ln_19, ln_20, ln_21, ln_23, ln_24, ln_25, ln_27, ln_28, ln_29, p_at isSc1 x2, x3 k hk, g_kindOf b1 b2, show 0 ≤ k ∧ k ≤ n - 1 by omega, show k ≤ n - 1 by omega, Nat.zero_le, and_self, decide_true, Bool.true_eq_false]
    simp (disch := first | assumption | exact isSc1 | exact isSc3 | exact isSc5 | decide | omega) only [iX7_sign_34, iX7_sign_36, iX7_sign_37, wsw_n, wsw_c]
    unfold signV at q
    have eD : sK (g k) = 0 → nI (sD (g k)) = iZ (sW (g k)) := fun z => by
      have := b1.2.2.2.1 z
      unfold sD
      rw [if_pos z, ← iZ_nat]
      congr 1
      omega
    have eA : sK (g k) = 2 → iZ (sA (g k)) = iZ (sW (g k)) := fun z => by unfold sA; rw [if_pos z]
    by_cases e0 : w = nI 0
    · rw [if_pos e0] at q ⊢
      simp (disch := first | assumption | exact isSc1 | exact isSc3 | exact isSc5 | decide | omega) only [iX7_sign_80, iX7_sign_81, iX7_sign_84, Nat.reduceAdd, Nat.reduceSub, Nat.reduceMul, Nat.reduceLeDiff, mm_rv_s, mm_rv_n, true_and, and_true, if_true, if_false, not_true_eq_false, not_false_eq_true, nI_add, nz_0, nz_lt0, nz_0le, nz_0lt, nz_le0, nz_lt, nz_le, nz_eq, nz_cl, nz_in, nz_sub, nz_m1, pk_mul, set_o, set_ne, up_ne, up_set, n1_1, true_or, or_true, n1_01, n0_01, bI_01, bI_01b, bI_0, isSc1, isSc3, isSc5, ln_2, ln_4, ln_6, ln_8, ln_10, ln_11, ln_12, ln_13, ln_14, ln_16, ln_17, ln_18, ln_19, ln_20, ln_21, ln_23, ln_24, ln_25, ln_27, ln_28, ln_29, g_columnOf b1 b2]
      exact q
    rw [if_neg e0] at q ⊢
    by_cases e1 : w = nI 1
    · rw [if_pos e1] at q ⊢
      simp (disch := first | assumption | exact isSc1 | exact isSc3 | exact isSc5 | decide | omega) only [iX7_sign_85, iX7_sign_86, iX7_sign_89, Nat.reduceAdd, Nat.reduceSub, Nat.reduceMul, Nat.reduceLeDiff, mm_rv_s, mm_rv_n, true_and, and_true, if_true, if_false, not_true_eq_false, not_false_eq_true, nI_add, nz_0, nz_lt0, nz_0le, nz_0lt, nz_le0, nz_lt, nz_le, nz_eq, nz_cl, nz_in, nz_sub, nz_m1, pk_mul, set_o, set_ne, up_ne, up_set, n1_1, true_or, or_true, n1_01, n0_01, bI_01, bI_01b, bI_0, isSc1, isSc3, isSc5, ln_2, ln_4, ln_6, ln_8, ln_10, ln_11, ln_12, ln_13, ln_14, ln_16, ln_17, ln_18, ln_19, ln_20, ln_21, ln_23, ln_24, ln_25, ln_27, ln_28, ln_29, g_beginOf b1 b2]
      exact q
    rw [if_neg e1] at q ⊢
    by_cases e2 : w = nI 2
    · rw [if_pos e2] at q ⊢
      simp (disch := first | assumption | exact isSc1 | exact isSc3 | exact isSc5 | decide | omega) only [iX7_sign_90, iX7_sign_91, iX7_sign_94, iX7_sign_95, iX7_sign_98, Nat.reduceAdd, Nat.reduceSub, Nat.reduceMul, Nat.reduceLeDiff, mm_rv_s, mm_rv_n, true_and, and_true, if_true, if_false, not_true_eq_false, not_false_eq_true, nI_add, nz_0, nz_lt0, nz_0le, nz_0lt, nz_le0, nz_lt, nz_le, nz_eq, nz_cl, nz_in, nz_sub, nz_m1, pk_mul, set_o, set_ne, up_ne, up_set, n1_1, true_or, or_true, n1_01, n0_01, bI_01, bI_01b, bI_0, isSc1, isSc3, isSc5, ln_2, ln_4, ln_6, ln_8, ln_10, ln_11, ln_12, ln_13, ln_14, ln_16, ln_17, ln_18, ln_19, ln_20, ln_21, ln_23, ln_24, ln_25, ln_27, ln_28, ln_29, p_endOf isSc1 hC w3 hg w2 hk]
      exact q
    rw [if_neg e2] at q ⊢
    by_cases e3 : w = nI 3
    · rw [if_pos e3] at q ⊢
      simp (disch := first | assumption | exact isSc1 | exact isSc3 | exact isSc5 | decide | omega) only [iX7_sign_99, iX7_sign_101, Nat.reduceAdd, Nat.reduceSub, Nat.reduceMul, Nat.reduceLeDiff, mm_rv_s, mm_rv_n, true_and, and_true, if_true, if_false, not_true_eq_false, not_false_eq_true, nI_add, nz_0, nz_lt0, nz_0le, nz_0lt, nz_le0, nz_lt, nz_le, nz_eq, nz_cl, nz_in, nz_sub, nz_m1, pk_mul, set_o, set_ne, up_ne, up_set, n1_1, true_or, or_true, n1_01, n0_01, bI_01, bI_01b, bI_0, isSc1, isSc3, isSc5, ln_2, ln_4, ln_6, ln_8, ln_10, ln_11, ln_12, ln_13, ln_14, ln_16, ln_17, ln_18, ln_19, ln_20, ln_21, ln_23, ln_24, ln_25, ln_27, ln_28, ln_29]
      exact q
    rw [if_neg e3] at q ⊢
    by_cases e4 : w = nI 4
    · rw [if_pos e4] at q ⊢
      by_cases d0 : sK (g k) = 0
      · rw [if_pos d0] at q
        simp (disch := first | assumption | exact isSc1 | exact isSc3 | exact isSc5 | decide | omega) only [iX7_sign_102, iX7_sign_104, iX7_sign_107, iX7_sign_108, iX7_sign_111, iX7_sign_114, iX7_sign_117, Nat.reduceAdd, Nat.reduceSub, Nat.reduceMul, Nat.reduceLeDiff, mm_rv_s, mm_rv_n, true_and, and_true, if_true, if_false, not_true_eq_false, not_false_eq_true, nI_add, nz_0, nz_lt0, nz_0le, nz_0lt, nz_le0, nz_lt, nz_le, nz_eq, nz_cl, nz_in, nz_sub, nz_m1, pk_mul, set_o, set_ne, up_ne, up_set, n1_1, true_or, or_true, n1_01, n0_01, bI_01, bI_01b, bI_0, isSc1, isSc3, isSc5, ln_2, ln_4, ln_6, ln_8, ln_10, ln_11, ln_12, ln_13, ln_14, ln_16, ln_17, ln_18, ln_19, ln_20, ln_21, ln_23, ln_24, ln_25, ln_27, ln_28, ln_29, g_directionOf b1 b2, d0]
        rw [eD d0]
        exact q
      · rw [if_neg d0] at q
        simp (disch := first | assumption | exact isSc1 | exact isSc3 | exact isSc5 | decide | omega) only [iX7_sign_102, iX7_sign_104, iX7_sign_107, iX7_sign_108, iX7_sign_111, iX7_sign_114, iX7_sign_117, Nat.reduceAdd, Nat.reduceSub, Nat.reduceMul, Nat.reduceLeDiff, mm_rv_s, mm_rv_n, true_and, and_true, if_true, if_false, not_true_eq_false, not_false_eq_true, nI_add, nz_0, nz_lt0, nz_0le, nz_0lt, nz_le0, nz_lt, nz_le, nz_eq, nz_cl, nz_in, nz_sub, nz_m1, pk_mul, set_o, set_ne, up_ne, up_set, n1_1, true_or, or_true, n1_01, n0_01, bI_01, bI_01b, bI_0, isSc1, isSc3, isSc5, ln_2, ln_4, ln_6, ln_8, ln_10, ln_11, ln_12, ln_13, ln_14, ln_16, ln_17, ln_18, ln_19, ln_20, ln_21, ln_23, ln_24, ln_25, ln_27, ln_28, ln_29, d0]
        exact q
    rw [if_neg e4] at q ⊢
    by_cases e5 : w = nI 5
    · rw [if_pos e5] at q ⊢
      by_cases d0 : sK (g k) = 0
      · rw [if_pos d0] at q
        simp (disch := first | assumption | exact isSc1 | exact isSc3 | exact isSc5 | decide | omega) only [iX7_sign_118, iX7_sign_120, iX7_sign_123, iX7_sign_124, iX7_sign_127, iX7_sign_130, iX7_sign_133, Nat.reduceAdd, Nat.reduceSub, Nat.reduceMul, Nat.reduceLeDiff, mm_rv_s, mm_rv_n, true_and, and_true, if_true, if_false, not_true_eq_false, not_false_eq_true, nI_add, nz_0, nz_lt0, nz_0le, nz_0lt, nz_le0, nz_lt, nz_le, nz_eq, nz_cl, nz_in, nz_sub, nz_m1, pk_mul, set_o, set_ne, up_ne, up_set, n1_1, true_or, or_true, n1_01, n0_01, bI_01, bI_01b, bI_0, isSc1, isSc3, isSc5, ln_2, ln_4, ln_6, ln_8, ln_10, ln_11, ln_12, ln_13, ln_14, ln_16, ln_17, ln_18, ln_19, ln_20, ln_21, ln_23, ln_24, ln_25, ln_27, ln_28, ln_29, g_levelOf b1 b2, d0]
        exact q
      · rw [if_neg d0] at q
        simp (disch := first | assumption | exact isSc1 | exact isSc3 | exact isSc5 | decide | omega) only [iX7_sign_118, iX7_sign_120, iX7_sign_123, iX7_sign_124, iX7_sign_127, iX7_sign_130, iX7_sign_133, Nat.reduceAdd, Nat.reduceSub, Nat.reduceMul, Nat.reduceLeDiff, mm_rv_s, mm_rv_n, true_and, and_true, if_true, if_false, not_true_eq_false, not_false_eq_true, nI_add, nz_0, nz_lt0, nz_0le, nz_0lt, nz_le0, nz_lt, nz_le, nz_eq, nz_cl, nz_in, nz_sub, nz_m1, pk_mul, set_o, set_ne, up_ne, up_set, n1_1, true_or, or_true, n1_01, n0_01, bI_01, bI_01b, bI_0, isSc1, isSc3, isSc5, ln_2, ln_4, ln_6, ln_8, ln_10, ln_11, ln_12, ln_13, ln_14, ln_16, ln_17, ln_18, ln_19, ln_20, ln_21, ln_23, ln_24, ln_25, ln_27, ln_28, ln_29, d0]
        exact q
    rw [if_neg e5] at q ⊢
    by_cases e6 : w = nI 6
    · rw [if_pos e6] at q ⊢
      by_cases d2 : sK (g k) = 2
      · rw [if_pos d2] at q
        simp (disch := first | assumption | exact isSc1 | exact isSc3 | exact isSc5 | decide | omega) only [iX7_sign_134, iX7_sign_136, iX7_sign_137, iX7_sign_140, iX7_sign_141, iX7_sign_144, iX7_sign_147, iX7_sign_150, Nat.reduceAdd, Nat.reduceSub, Nat.reduceMul, Nat.reduceLeDiff, mm_rv_s, mm_rv_n, true_and, and_true, if_true, if_false, not_true_eq_false, not_false_eq_true, nI_add, nz_0, nz_lt0, nz_0le, nz_0lt, nz_le0, nz_lt, nz_le, nz_eq, nz_cl, nz_in, nz_sub, nz_m1, pk_mul, set_o, set_ne, up_ne, up_set, n1_1, true_or, or_true, n1_01, n0_01, bI_01, bI_01b, bI_0, isSc1, isSc3, isSc5, ln_2, ln_4, ln_6, ln_8, ln_10, ln_11, ln_12, ln_13, ln_14, ln_16, ln_17, ln_18, ln_19, ln_20, ln_21, ln_23, ln_24, ln_25, ln_27, ln_28, ln_29, g_amountOf b1 b2, d2]
        rw [eA d2]
        exact q
      · rw [if_neg d2] at q
        simp (disch := first | assumption | exact isSc1 | exact isSc3 | exact isSc5 | decide | omega) only [iX7_sign_134, iX7_sign_136, iX7_sign_137, iX7_sign_140, iX7_sign_141, iX7_sign_144, iX7_sign_147, iX7_sign_150, Nat.reduceAdd, Nat.reduceSub, Nat.reduceMul, Nat.reduceLeDiff, mm_rv_s, mm_rv_n, true_and, and_true, if_true, if_false, not_true_eq_false, not_false_eq_true, nI_add, nz_0, nz_lt0, nz_0le, nz_0lt, nz_le0, nz_lt, nz_le, nz_eq, nz_cl, nz_in, nz_sub, nz_m1, pk_mul, set_o, set_ne, up_ne, up_set, n1_1, true_or, or_true, n1_01, n0_01, bI_01, bI_01b, bI_0, isSc1, isSc3, isSc5, ln_2, ln_4, ln_6, ln_8, ln_10, ln_11, ln_12, ln_13, ln_14, ln_16, ln_17, ln_18, ln_19, ln_20, ln_21, ln_23, ln_24, ln_25, ln_27, ln_28, ln_29, d2]
        exact q
    rw [if_neg e6] at q ⊢
    simp (disch := first | assumption | exact isSc1 | exact isSc3 | exact isSc5 | decide | omega) only [iX7_sign_151, iX7_sign_154]
    exact q
  · simp (disch := first | assumption | exact isSc1 | exact isSc3 | exact isSc5 | decide | omega) only [iX7_sign_14, iX7_sign_17, iX7_sign_20, Nat.reduceAdd, Nat.reduceSub, Nat.reduceMul, Nat.reduceLeDiff, mm_rv_s, mm_rv_n, true_and, and_true, if_true, if_false, not_true_eq_false, not_false_eq_true, nI_add, nz_0, nz_lt0, nz_0le, nz_0lt, nz_le0, nz_lt, nz_le, nz_eq, nz_cl, nz_in, nz_sub, nz_m1, pk_mul, set_o, set_ne, up_ne, up_set, n1_1, true_or, or_true, n1_01, n0_01, bI_01, bI_01b, bI_0, isSc1, isSc3, isSc5, ln_2, ln_4, ln_6, ln_8, ln_10, ln_11, ln_12, ln_13, ln_14, ln_16, ln_17, ln_18, ln_19, ln_20, ln_21, ln_23, ln_24, ln_25, ln_27, ln_28, ln_29, hr, decide_false]
    exact h1 hr
def nf (x : Option Nat) : Int32 := match x with
  | some i => nI i
  | none => -1004
theorem oI_cases (x : Option Nat) : (x = none ∧ oI x = -1) ∨ (∃ i, x = some i ∧ oI x = nI i) := by cases x <;> simp [oI]
theorem cv_lt {B n : Nat} {g : Nat → Sg} {c t i : Nat} (h : cv B n g c t = some i) : i < n := by
  unfold cv at h
  cases e : latest g n c t with
  | none => rw [e] at h; simp at h
  | some j =>
    rw [e] at h
    simp only at h
    have := (latest_some e).1
    split at h
    · cases h; exact this
    · cases h
theorem p_signAt (hC : isC M 1 B L n g) (hv : Val B n g) (v w : Int32) (h1 : ¬ ((nI 0 ≤ v ∧ v ≤ nI 6) ∧ (nI 0 ≤ w ∧ w ≤ nI B - nI 1)) → Q (some (-1001)) M) (h2 : ∀ c t, v = nI c → w = nI t → c ≤ 6 → t < B → Q (some (nf (cv B n g c t))) M) : wc 74 [.inr 0, .inl v, .inl w] M Q := by
  obtain ⟨x0, x1, x2, x3⟩ := id hC
  have w2 := hv.2.1
  have w3 := hv.2.2.1
  simp (disch := first | assumption | exact isSc1 | exact isSc3 | exact isSc5 | decide | omega) only [eX7_signAt, iX7_signAt_0, iX7_signAt_1, p_isColumn, mm_rv_s]
  by_cases hr : nI 0 ≤ v ∧ v ≤ nI 6
  · simp (disch := first | assumption | exact isSc1 | exact isSc3 | exact isSc5 | decide | omega) only [iX7_signAt_4, iX7_signAt_7, iX7_signAt_8, iX7_signAt_9, p_isBeat, x0, hr, and_self, decide_true, bI_01, bI_0, Bool.true_eq_false, not_false_eq_true, if_true, if_false, true_and, mm_rv_s]
    by_cases hr2 : nI 0 ≤ w ∧ w ≤ nI B - nI 1
    · obtain ⟨c, rfl, -, hc⟩ := in_nat hr.1 hr.2 (by decide) (by decide)
      obtain ⟨t, rfl, ht⟩ := in_upto (by omega) hr2
      have q := h2 c t rfl rfl hc ht
      simp only [hr2, and_self, decide_true]
      simp (disch := first | assumption | exact isSc1 | exact isSc3 | exact isSc5 | decide | omega) only [iX7_signAt_12, iX7_signAt_15, iX7_signAt_18, iX7_signAt_19, iX7_signAt_20, iX7_signAt_23, iX7_signAt_24, iX7_signAt_25, iX7_signAt_28, iX7_signAt_29, iX7_signAt_30, bI_01, bI_0, Bool.true_eq_false, p_numberCovering isSc1 hC hv, mm_rv_s, not_false_eq_true, if_true, if_false, true_and]
      rcases oI_cases (cv B n g c t) with ⟨e1, e2⟩ | ⟨i, e1, e2⟩
      · rw [e1] at q
        simp (disch := first | assumption | exact isSc1 | exact isSc3 | exact isSc5 | decide | omega) only [e2, iX7_signAt_31, iX7_signAt_34, iX7_signAt_37, iX7_signAt_40, iX7_signAt_41, not_true_eq_false, if_false]
        exact q
      · have := cv_lt e1
        rw [e1] at q
        simp (disch := first | assumption | exact isSc1 | exact isSc3 | exact isSc5 | decide | omega) only [e2, iX7_signAt_31, iX7_signAt_34, iX7_signAt_37, iX7_signAt_40, iX7_signAt_41, Nat.reduceAdd, Nat.reduceSub, Nat.reduceMul, Nat.reduceLeDiff, mm_rv_s, mm_rv_n, true_and, and_true, if_true, if_false, not_true_eq_false, not_false_eq_true, nI_add, nz_0, nz_lt0, nz_0le, nz_0lt, nz_le0, nz_lt, nz_le, nz_eq, nz_cl, nz_in, nz_sub, nz_m1, pk_mul, set_o, set_ne, up_ne, up_set, n1_1, true_or, or_true, n1_01, n0_01, bI_01, bI_01b, bI_0, isSc1, isSc3, isSc5, ln_2, ln_4, ln_6, ln_8, ln_10, ln_11, ln_12, ln_13, ln_14, ln_16, ln_17, ln_18, ln_19, ln_20, ln_21, ln_23, ln_24, ln_25, ln_27, ln_28, ln_29, nz_ne1]
        exact q
    · simp (disch := first | assumption | exact isSc1 | exact isSc3 | exact isSc5 | decide | omega) only [iX7_signAt_12, iX7_signAt_15, iX7_signAt_18, hr2, decide_false, Nat.reduceAdd, Nat.reduceSub, Nat.reduceMul, Nat.reduceLeDiff, mm_rv_s, mm_rv_n, true_and, and_true, if_true, if_false, not_true_eq_false, not_false_eq_true, nI_add, nz_0, nz_lt0, nz_0le, nz_0lt, nz_le0, nz_lt, nz_le, nz_eq, nz_cl, nz_in, nz_sub, nz_m1, pk_mul, set_o, set_ne, up_ne, up_set, n1_1, true_or, or_true, n1_01, n0_01, bI_01, bI_01b, bI_0, isSc1, isSc3, isSc5, ln_2, ln_4, ln_6, ln_8, ln_10, ln_11, ln_12, ln_13, ln_14, ln_16, ln_17, ln_18, ln_19, ln_20, ln_21, ln_23, ln_24, ln_25, ln_27, ln_28, ln_29]
      exact h1 (fun z => hr2 z.2)
  · simp (disch := first | assumption | exact isSc1 | exact isSc3 | exact isSc5 | decide | omega) only [iX7_signAt_4, iX7_signAt_7, iX7_signAt_8, iX7_signAt_9, iX7_signAt_12, iX7_signAt_15, iX7_signAt_18, hr, decide_false, Nat.reduceAdd, Nat.reduceSub, Nat.reduceMul, Nat.reduceLeDiff, mm_rv_s, mm_rv_n, true_and, and_true, if_true, if_false, not_true_eq_false, not_false_eq_true, nI_add, nz_0, nz_lt0, nz_0le, nz_0lt, nz_le0, nz_lt, nz_le, nz_eq, nz_cl, nz_in, nz_sub, nz_m1, pk_mul, set_o, set_ne, up_ne, up_set, n1_1, true_or, or_true, n1_01, n0_01, bI_01, bI_01b, bI_0, isSc1, isSc3, isSc5, ln_2, ln_4, ln_6, ln_8, ln_10, ln_11, ln_12, ln_13, ln_14, ln_16, ln_17, ln_18, ln_19, ln_20, ln_21, ln_23, ln_24, ln_25, ln_27, ln_28, ln_29]
    exact h1 (fun z => hr z.1)
end SGN

