/-! PAIRS: count, type, clearText, setLeap, reset, undo -/
section EASY
variable {M : mm_M} {Q : mm_Q}
def cntV (B n L h t : Nat) (a : Int32) : Int32 := if a = nI 0 then nI B else if a = nI 1 then nI n else if a = nI 2 then nI L else if a = nI 3 then nI h else if a = nI 4 then nI t else -1001
theorem p_count {B n L h t : Nat} (x0 : M 1 0 = nI B) (x1 : M 1 1 = nI L) (x2 : M 1 2 = nI n) (z1 : M 7 0 = nI h) (w1 : M 26 0 = nI t) (a1 : Int32) : wc 72 [.inr 0, .inl a1] M Q ↔ Q (some (cntV B n L h t a1)) M := by
  simp (disch := first | assumption | exact isSc1 | exact isSc3 | exact isSc5 | decide | omega) only [eX7_count, iX7_count_0, iX7_count_1, iX7_count_36, iX7_count_37, iX7_count_40, iX7_count_43, iX7_count_44, iX7_count_45, iX7_count_48, iX7_count_51, iX7_count_52, iX7_count_53, iX7_count_56, iX7_count_59, iX7_count_60, iX7_count_61, iX7_count_64, iX7_count_67, iX7_count_68, iX7_count_69, iX7_count_72, iX7_count_75, iX7_count_76, iX7_count_79, wsw_n, wsw_c, Nat.reduceAdd, Nat.reduceSub, Nat.reduceMul, Nat.reduceLeDiff, mm_rv_s, mm_rv_n, true_and, and_true, if_true, if_false, not_true_eq_false, not_false_eq_true, nI_add, nz_0, nz_lt0, nz_0le, nz_0lt, nz_le0, nz_lt, nz_le, nz_eq, nz_cl, nz_in, nz_sub, nz_m1, pk_mul, set_o, set_ne, up_ne, up_set, n1_1, true_or, or_true, n1_01, n0_01, bI_01, bI_01b, bI_0, isSc1, isSc3, isSc5, ln_2, ln_4, ln_6, ln_8, ln_10, ln_11, ln_12, ln_13, ln_14, ln_16, ln_17, ln_18, ln_19, ln_20, ln_21, ln_23, ln_24, ln_25, ln_27, ln_28, ln_29, ln_31, ln_32, ln_33, ln_35, ln_36, ln_37, x0, x1, x2, z1, w1]
  unfold cntV
  repeat' split
  all_goals rfl
theorem m_count {B n L h t : Nat} (x0 : M 31 0 = nI B) (x1 : M 31 1 = nI L) (x2 : M 31 2 = nI n) (z1 : M 30 2 = nI h) (w1 : M 30 5 = nI t) (a1 : Int32) : wc 123 [.inr 30, .inl a1] M Q ↔ Q (some (cntV B n L h t a1)) M := by
  simp (disch := first | assumption | exact isSc1 | exact isSc3 | exact isSc5 | decide | omega) only [eX8_count, iX8_count_0, iX8_count_1, iX8_count_36, iX8_count_37, iX8_count_40, iX8_count_41, iX8_count_42, iX8_count_43, iX8_count_44, iX8_count_47, iX8_count_48, iX8_count_49, iX8_count_50, iX8_count_51, iX8_count_54, iX8_count_55, iX8_count_56, iX8_count_57, iX8_count_58, iX8_count_61, iX8_count_62, iX8_count_63, iX8_count_66, iX8_count_67, iX8_count_70, wsw_n, wsw_c, Nat.reduceAdd, Nat.reduceSub, Nat.reduceMul, Nat.reduceLeDiff, mm_rv_s, mm_rv_n, true_and, and_true, if_true, if_false, not_true_eq_false, not_false_eq_true, nI_add, nz_0, nz_lt0, nz_0le, nz_0lt, nz_le0, nz_lt, nz_le, nz_eq, nz_cl, nz_in, nz_sub, nz_m1, pk_mul, set_o, set_ne, up_ne, up_set, n1_1, true_or, or_true, n1_01, n0_01, bI_01, bI_01b, bI_0, isSc1, isSc3, isSc5, ln_2, ln_4, ln_6, ln_8, ln_10, ln_11, ln_12, ln_13, ln_14, ln_16, ln_17, ln_18, ln_19, ln_20, ln_21, ln_23, ln_24, ln_25, ln_27, ln_28, ln_29, ln_31, ln_32, ln_33, ln_35, ln_36, ln_37, x0, x1, x2, z1, w1]
  unfold cntV
  repeat' split
  all_goals rfl
theorem pr_count (hI : Inv M) (a1 : Int32) : lw_pair Inv M 72 123 [.inl a1] := by
  obtain ⟨⟨B, L, n, g, h1⟩, ⟨hh, H, h2⟩, ⟨t, c, h3⟩, h4⟩ := id hI
  obtain ⟨hv, hn, hL, ⟨x0, x1, x2, x3⟩, ⟨y0, y1, y2, y3⟩⟩ := id h1
  refine pair_q hI (cntV B n L hh t a1) ((p_count x0 x1 x2 h2.2.1 h3.2.1 a1).mpr ⟨rfl, Kp.rf M⟩) (fun M1 hk => ?_)
  have k1 := (h1.kp hk).2.2.2.2
  exact (m_count k1.1 k1.2.1 k1.2.2.1 (h2.kp hk).2.2.1 (h3.kp hk).2.2.1 a1).mpr ⟨rfl, Kp.rf M1⟩
-- the text
theorem p_append {t : Nat} (w1 : M 26 0 = nI t) (ht : t < 120) (v : Int32) : wc 15 [.inr 26, .inl v] M Q ↔ Q none (mm_up (mm_up M 27 t v) 26 0 (nI (t + 1))) := by
  simp (disch := first | assumption | exact isSc1 | exact isSc3 | exact isSc5 | decide | omega) only [eX3_append, iX3_append_0, iX3_append_1, iX3_append_4, iX3_append_6, iX3_append_9, iX3_append_10, iX3_append_13, iX3_append_14, iX3_append_17, iX3_append_18, iX3_append_19, iX3_append_20, iX3_append_21, iX3_append_24, iX3_append_25, iX3_append_26, iX3_append_29, Nat.reduceAdd, Nat.reduceSub, Nat.reduceMul, Nat.reduceLeDiff, mm_rv_s, mm_rv_n, true_and, and_true, if_true, if_false, not_true_eq_false, not_false_eq_true, nI_add, nz_0, nz_lt0, nz_0le, nz_0lt, nz_le0, nz_lt, nz_le, nz_eq, nz_cl, nz_in, nz_sub, nz_m1, pk_mul, set_o, set_ne, up_ne, up_set, n1_1, true_or, or_true, n1_01, n0_01, bI_01, bI_01b, bI_0, isSc1, isSc3, isSc5, ln_2, ln_4, ln_6, ln_8, ln_10, ln_11, ln_12, ln_13, ln_14, ln_16, ln_17, ln_18, ln_19, ln_20, ln_21, ln_23, ln_24, ln_25, ln_27, ln_28, ln_29, ln_31, ln_32, ln_33, ln_35, ln_36, ln_37, w1, show ¬ 120 ≤ t by omega]
theorem p_type {t : Nat} (w1 : M 26 0 = nI t) (ht : t ≤ 120) (v : Int32) (h1 : ¬ (nI 32 ≤ v ∧ v ≤ nI 126) → Q (some (-1001)) M) (h2 : (nI 32 ≤ v ∧ v ≤ nI 126) → t = 120 → Q (some (-1003)) M) (h3 : (nI 32 ≤ v ∧ v ≤ nI 126) → t < 120 → Q (some (nI (t + 1))) (mm_up (mm_up M 27 t v) 26 0 (nI (t + 1)))) : wc 86 [.inr 0, .inl v] M Q := by
  simp (disch := first | assumption | exact isSc1 | exact isSc3 | exact isSc5 | decide | omega) only [eX7_type, iX7_type_0, iX7_type_1, iX7_type_3, iX7_type_5, iX7_type_8, iX7_type_11, iX7_type_14, iX7_type_15, iX7_type_16, iX7_type_19, iX7_type_22, iX7_type_24, iX7_type_27, iX7_type_30, iX7_type_31, iX7_type_32, iX7_type_35, iX7_type_36, iX7_type_39, iX7_type_40, iX7_type_43, iX7_type_46, Nat.reduceAdd, Nat.reduceSub, Nat.reduceMul, Nat.reduceLeDiff, mm_rv_s, mm_rv_n, true_and, and_true, if_true, if_false, not_true_eq_false, not_false_eq_true, nI_add, nz_0, nz_lt0, nz_0le, nz_0lt, nz_le0, nz_lt, nz_le, nz_eq, nz_cl, nz_in, nz_sub, nz_m1, pk_mul, set_o, set_ne, up_ne, up_set, n1_1, true_or, or_true, n1_01, n0_01, bI_01, bI_01b, bI_0, isSc1, isSc3, isSc5, ln_2, ln_4, ln_6, ln_8, ln_10, ln_11, ln_12, ln_13, ln_14, ln_16, ln_17, ln_18, ln_19, ln_20, ln_21, ln_23, ln_24, ln_25, ln_27, ln_28, ln_29, ln_31, ln_32, ln_33, ln_35, ln_36, ln_37, p_isWithin, w1]
  by_cases hr : nI 32 ≤ v ∧ v ≤ nI 126
  · simp only [hr, and_self, decide_true, Bool.true_eq_false, not_false_eq_true, if_true]
    by_cases ht2 : t < 120
    · simp (disch := first | assumption | exact isSc1 | exact isSc3 | exact isSc5 | decide | omega) only [iX7_type_0, iX7_type_1, iX7_type_3, iX7_type_5, iX7_type_8, iX7_type_11, iX7_type_14, iX7_type_15, iX7_type_16, iX7_type_19, iX7_type_22, iX7_type_24, iX7_type_27, iX7_type_30, iX7_type_31, iX7_type_32, iX7_type_35, iX7_type_36, iX7_type_39, iX7_type_40, iX7_type_43, iX7_type_46, Nat.reduceAdd, Nat.reduceSub, Nat.reduceMul, Nat.reduceLeDiff, mm_rv_s, mm_rv_n, true_and, and_true, if_true, if_false, not_true_eq_false, not_false_eq_true, nI_add, nz_0, nz_lt0, nz_0le, nz_0lt, nz_le0, nz_lt, nz_le, nz_eq, nz_cl, nz_in, nz_sub, nz_m1, pk_mul, set_o, set_ne, up_ne, up_set, n1_1, true_or, or_true, n1_01, n0_01, bI_01, bI_01b, bI_0, isSc1, isSc3, isSc5, ln_2, ln_4, ln_6, ln_8, ln_10, ln_11, ln_12, ln_13, ln_14, ln_16, ln_17, ln_18, ln_19, ln_20, ln_21, ln_23, ln_24, ln_25, ln_27, ln_28, ln_29, ln_31, ln_32, ln_33, ln_35, ln_36, ln_37, w1, ht2, p_append w1 ht2, up_o, us]
      exact h3 hr ht2
    · simp (disch := first | assumption | exact isSc1 | exact isSc3 | exact isSc5 | decide | omega) only [iX7_type_0, iX7_type_1, iX7_type_3, iX7_type_5, iX7_type_8, iX7_type_11, iX7_type_14, iX7_type_15, iX7_type_16, iX7_type_19, iX7_type_22, iX7_type_24, iX7_type_27, iX7_type_30, iX7_type_31, iX7_type_32, iX7_type_35, iX7_type_36, iX7_type_39, iX7_type_40, iX7_type_43, iX7_type_46, Nat.reduceAdd, Nat.reduceSub, Nat.reduceMul, Nat.reduceLeDiff, mm_rv_s, mm_rv_n, true_and, and_true, if_true, if_false, not_true_eq_false, not_false_eq_true, nI_add, nz_0, nz_lt0, nz_0le, nz_0lt, nz_le0, nz_lt, nz_le, nz_eq, nz_cl, nz_in, nz_sub, nz_m1, pk_mul, set_o, set_ne, up_ne, up_set, n1_1, true_or, or_true, n1_01, n0_01, bI_01, bI_01b, bI_0, isSc1, isSc3, isSc5, ln_2, ln_4, ln_6, ln_8, ln_10, ln_11, ln_12, ln_13, ln_14, ln_16, ln_17, ln_18, ln_19, ln_20, ln_21, ln_23, ln_24, ln_25, ln_27, ln_28, ln_29, ln_31, ln_32, ln_33, ln_35, ln_36, ln_37, w1, ht2]
      exact h2 hr (by omega)
  · simp only [hr, decide_false, not_true_eq_false, if_false]
    exact h1 hr
theorem m_type {t : Nat} (w1 : M 30 5 = nI t) (ht : t ≤ 120) (v : Int32) (h1 : ¬ (nI 32 ≤ v ∧ v ≤ nI 126) → Q (some (-1001)) M) (h2 : (nI 32 ≤ v ∧ v ≤ nI 126) → t = 120 → Q (some (-1003)) M) (h3 : (nI 32 ≤ v ∧ v ≤ nI 126) → t < 120 → Q (some (nI (t + 1))) (mm_up (mm_up M 34 t (vp_nar .char (v.toUInt32 % 65536).toInt32)) 30 5 (nI (t + 1)))) : wc 149 [.inr 30, .inl v] M Q := by
  simp (disch := first | assumption | exact isSc1 | exact isSc3 | exact isSc5 | decide | omega) only [eX8_type, iX8_type_0, iX8_type_1, iX8_type_3, iX8_type_5, iX8_type_8, iX8_type_11, iX8_type_14, iX8_type_15, iX8_type_16, iX8_type_19, iX8_type_21, iX8_type_24, iX8_type_27, iX8_type_28, iX8_type_29, iX8_type_32, iX8_type_33, iX8_type_36, iX8_type_37, iX8_type_38, iX8_type_39, iX8_type_40, iX8_type_41, iX8_type_44, iX8_type_45, iX8_type_46, iX8_type_49, iX8_type_50, iX8_type_53, Nat.reduceAdd, Nat.reduceSub, Nat.reduceMul, Nat.reduceLeDiff, mm_rv_s, mm_rv_n, true_and, and_true, if_true, if_false, not_true_eq_false, not_false_eq_true, nI_add, nz_0, nz_lt0, nz_0le, nz_0lt, nz_le0, nz_lt, nz_le, nz_eq, nz_cl, nz_in, nz_sub, nz_m1, pk_mul, set_o, set_ne, up_ne, up_set, n1_1, true_or, or_true, n1_01, n0_01, bI_01, bI_01b, bI_0, isSc1, isSc3, isSc5, ln_2, ln_4, ln_6, ln_8, ln_10, ln_11, ln_12, ln_13, ln_14, ln_16, ln_17, ln_18, ln_19, ln_20, ln_21, ln_23, ln_24, ln_25, ln_27, ln_28, ln_29, ln_31, ln_32, ln_33, ln_35, ln_36, ln_37, p_in, w1]
  by_cases hr : nI 32 ≤ v ∧ v ≤ nI 126
  · simp only [hr, and_self, decide_true, Bool.true_eq_false, not_false_eq_true, if_true]
    by_cases ht2 : t < 120
    · simp (disch := first | assumption | exact isSc1 | exact isSc3 | exact isSc5 | decide | omega) only [iX8_type_0, iX8_type_1, iX8_type_3, iX8_type_5, iX8_type_8, iX8_type_11, iX8_type_14, iX8_type_15, iX8_type_16, iX8_type_19, iX8_type_21, iX8_type_24, iX8_type_27, iX8_type_28, iX8_type_29, iX8_type_32, iX8_type_33, iX8_type_36, iX8_type_37, iX8_type_38, iX8_type_39, iX8_type_40, iX8_type_41, iX8_type_44, iX8_type_45, iX8_type_46, iX8_type_49, iX8_type_50, iX8_type_53, Nat.reduceAdd, Nat.reduceSub, Nat.reduceMul, Nat.reduceLeDiff, mm_rv_s, mm_rv_n, true_and, and_true, if_true, if_false, not_true_eq_false, not_false_eq_true, nI_add, nz_0, nz_lt0, nz_0le, nz_0lt, nz_le0, nz_lt, nz_le, nz_eq, nz_cl, nz_in, nz_sub, nz_m1, pk_mul, set_o, set_ne, up_ne, up_set, n1_1, true_or, or_true, n1_01, n0_01, bI_01, bI_01b, bI_0, isSc1, isSc3, isSc5, ln_2, ln_4, ln_6, ln_8, ln_10, ln_11, ln_12, ln_13, ln_14, ln_16, ln_17, ln_18, ln_19, ln_20, ln_21, ln_23, ln_24, ln_25, ln_27, ln_28, ln_29, ln_31, ln_32, ln_33, ln_35, ln_36, ln_37, w1, show ¬ t = 120 by omega, up_o, us]
      exact h3 hr ht2
    · simp (disch := first | assumption | exact isSc1 | exact isSc3 | exact isSc5 | decide | omega) only [iX8_type_0, iX8_type_1, iX8_type_3, iX8_type_5, iX8_type_8, iX8_type_11, iX8_type_14, iX8_type_15, iX8_type_16, iX8_type_19, iX8_type_21, iX8_type_24, iX8_type_27, iX8_type_28, iX8_type_29, iX8_type_32, iX8_type_33, iX8_type_36, iX8_type_37, iX8_type_38, iX8_type_39, iX8_type_40, iX8_type_41, iX8_type_44, iX8_type_45, iX8_type_46, iX8_type_49, iX8_type_50, iX8_type_53, Nat.reduceAdd, Nat.reduceSub, Nat.reduceMul, Nat.reduceLeDiff, mm_rv_s, mm_rv_n, true_and, and_true, if_true, if_false, not_true_eq_false, not_false_eq_true, nI_add, nz_0, nz_lt0, nz_0le, nz_0lt, nz_le0, nz_lt, nz_le, nz_eq, nz_cl, nz_in, nz_sub, nz_m1, pk_mul, set_o, set_ne, up_ne, up_set, n1_1, true_or, or_true, n1_01, n0_01, bI_01, bI_01b, bI_0, isSc1, isSc3, isSc5, ln_2, ln_4, ln_6, ln_8, ln_10, ln_11, ln_12, ln_13, ln_14, ln_16, ln_17, ln_18, ln_19, ln_20, ln_21, ln_23, ln_24, ln_25, ln_27, ln_28, ln_29, ln_31, ln_32, ln_33, ln_35, ln_36, ln_37, w1, show t = 120 by omega]
      exact h2 hr (by omega)
  · simp only [hr, decide_false, not_true_eq_false, if_false]
    exact h1 hr
theorem char_id {n : Nat} (h1 : 32 ≤ n) (h2 : n ≤ 126) : vp_nar .char ((nI n).toUInt32 % 65536).toInt32 = nI n := by
  have key : ∀ n : Nat, n < 127 → vp_nar .char ((nI n).toUInt32 % 65536).toInt32 = nI n := by
    intro n hn
    rw [vp_nar_char]
    revert n
    decide +kernel
  exact key n (by omega)
theorem pr_type (hI : Inv M) (a1 : Int32) : lw_pair Inv M 86 149 [.inl a1] := by
  obtain ⟨hi1, hi2, ⟨t, c, h3⟩, h4⟩ := id hI
  obtain ⟨w0, w1, w2, w3⟩ := id h3
  refine p_type w1 w0 a1 (fun hr => ⟨_, rfl, ?_⟩) (fun hr ht => ⟨_, rfl, ?_⟩) (fun hr ht => ⟨_, rfl, ?_⟩)
  · exact m_type w2 w0 a1 (fun _ => ⟨rfl, hI⟩) (fun h => absurd h hr) (fun h => absurd h hr)
  · exact m_type w2 w0 a1 (fun h => absurd hr h) (fun _ _ => ⟨rfl, hI⟩) (fun _ h => absurd ht (by omega))
  · have e30 : mm_up (mm_up M 27 t a1) 26 0 (nI (t + 1)) 30 5 = nI t := by rw [up_ne _ _ _ (by decide), up_ne _ _ _ (by decide), w2]
    refine m_type e30 w0 a1 (fun h => absurd hr h) (fun _ h => absurd ht (by omega)) (fun _ _ => ⟨rfl, ?_⟩)
    obtain ⟨k, rfl, hk1, hk2⟩ := in_nat hr.1 hr.2 (by decide) (by decide)
    rw [char_id hk1 hk2]
    have ne : ∀ q, q ≠ 26 → q ≠ 27 → q ≠ 34 → q ≠ 30 → mm_up (mm_up (mm_up (mm_up M 27 t (nI k)) 26 0 (nI (t + 1))) 34 t (nI k)) 30 5 (nI (t + 1)) q = M q := fun q q1 q2 q3 q4 => by rw [up_ne _ _ _ q4, up_ne _ _ _ q3, up_ne _ _ _ q1, up_ne _ _ _ q2]
    have e302 : mm_up (mm_up (mm_up (mm_up M 27 t (nI k)) 26 0 (nI (t + 1))) 34 t (nI k)) 30 5 (nI (t + 1)) 30 2 = M 30 2 := by
      rw [up_o, un _ _ _ _ (by decide), up_ne _ _ _ (by decide), up_ne _ _ _ (by decide), up_ne _ _ _ (by decide)]
    obtain ⟨B, L, n, g, hv, hn, hL, hc, hd⟩ := hi1
    obtain ⟨hh, H, z0, z1, z2, z3⟩ := hi2
    refine ⟨⟨B, L, n, g, hv, hn, hL, isC_cong (ne 1 (by decide) (by decide) (by decide) (by decide)) (ne 2 (by decide) (by decide) (by decide) (by decide)) hc, by rw [ne 31 (by decide) (by decide) (by decide) (by decide)]; exact hd⟩, ⟨hh, H, z0, by rw [ne 7 (by decide) (by decide) (by decide) (by decide), z1], by rw [e302, z2], by rw [ne 8 (by decide) (by decide) (by decide) (by decide), ne 32 (by decide) (by decide) (by decide) (by decide)]; exact z3⟩, ⟨t + 1, fun i => if i = t then k else c i, by omega, ?_, ?_, fun i hi => ?_⟩, ?_⟩
    · rw [up_ne _ _ _ (by decide), up_ne _ _ _ (by decide), up_o, us]
    · rw [up_o, us]
    · have e27 : mm_up (mm_up (mm_up (mm_up M 27 t (nI k)) 26 0 (nI (t + 1))) 34 t (nI k)) 30 5 (nI (t + 1)) 27 = upd (M 27) t (nI k) := by rw [up_ne _ _ _ (by decide), up_ne _ _ _ (by decide), up_ne _ _ _ (by decide), up_o]
      have e34 : mm_up (mm_up (mm_up (mm_up M 27 t (nI k)) 26 0 (nI (t + 1))) 34 t (nI k)) 30 5 (nI (t + 1)) 34 = upd (M 34) t (nI k) := by rw [up_ne _ _ _ (by decide), up_o, up_ne _ _ _ (by decide), up_ne _ _ _ (by decide)]
      rw [e27, e34]
      by_cases hit : i = t
      · subst hit
        simp only [us, if_true]
        exact ⟨trivial, trivial, hk1, hk2⟩
      · rw [un _ _ _ _ hit, un _ _ _ _ hit]
        simp only [hit, if_false]
        exact w3 i (by omega)
    · unfold Wlk
      rw [ne 16 (by decide) (by decide) (by decide) (by decide), ne 17 (by decide) (by decide) (by decide) (by decide), ne 18 (by decide) (by decide) (by decide) (by decide)]
      exact h4
theorem pr_clearText (hI : Inv M) : lw_pair Inv M 87 150 [] := by
  obtain ⟨hi1, hi2, ⟨t, c, h3⟩, h4⟩ := id hI
  obtain ⟨w0, w1, w2, w3⟩ := id h3
  have px : ∀ {Q : mm_Q}, wc 87 [.inr 0] M Q ↔ Q (some (nI t)) (mm_up M 26 0 (nI 0)) := by
    intro Q
    simp (disch := first | assumption | exact isSc1 | exact isSc3 | exact isSc5 | decide | omega) only [eX7_clearText, iX7_clearText_0, iX7_clearText_1, iX7_clearText_4, iX7_clearText_7, iX7_clearText_8, iX7_clearText_9, iX7_clearText_12, iX7_clearText_13, iX7_clearText_16, iX7_clearText_17, Nat.reduceAdd, Nat.reduceSub, Nat.reduceMul, Nat.reduceLeDiff, mm_rv_s, mm_rv_n, true_and, and_true, if_true, if_false, not_true_eq_false, not_false_eq_true, nI_add, nz_0, nz_lt0, nz_0le, nz_0lt, nz_le0, nz_lt, nz_le, nz_eq, nz_cl, nz_in, nz_sub, nz_m1, pk_mul, set_o, set_ne, up_ne, up_set, n1_1, true_or, or_true, n1_01, n0_01, bI_01, bI_01b, bI_0, isSc1, isSc3, isSc5, ln_2, ln_4, ln_6, ln_8, ln_10, ln_11, ln_12, ln_13, ln_14, ln_16, ln_17, ln_18, ln_19, ln_20, ln_21, ln_23, ln_24, ln_25, ln_27, ln_28, ln_29, ln_31, ln_32, ln_33, ln_35, ln_36, ln_37, w1]
  refine px.mpr ⟨_, rfl, ?_⟩
  have e30 : mm_up M 26 0 (nI 0) 30 5 = nI t := by rw [up_ne _ _ _ (by decide), w2]
  have pm : ∀ {Q : mm_Q} {M1 : mm_M}, M1 30 5 = nI t → (wc 150 [.inr 30] M1 Q ↔ Q (some (nI t)) (mm_up M1 30 5 (nI 0))) := by
    intro Q M1 e
    simp (disch := first | assumption | exact isSc1 | exact isSc3 | exact isSc5 | decide | omega) only [eX8_clearText, iX8_clearText_0, iX8_clearText_1, iX8_clearText_4, iX8_clearText_5, iX8_clearText_6, iX8_clearText_7, iX8_clearText_10, iX8_clearText_11, Nat.reduceAdd, Nat.reduceSub, Nat.reduceMul, Nat.reduceLeDiff, mm_rv_s, mm_rv_n, true_and, and_true, if_true, if_false, not_true_eq_false, not_false_eq_true, nI_add, nz_0, nz_lt0, nz_0le, nz_0lt, nz_le0, nz_lt, nz_le, nz_eq, nz_cl, nz_in, nz_sub, nz_m1, pk_mul, set_o, set_ne, up_ne, up_set, n1_1, true_or, or_true, n1_01, n0_01, bI_01, bI_01b, bI_0, isSc1, isSc3, isSc5, ln_2, ln_4, ln_6, ln_8, ln_10, ln_11, ln_12, ln_13, ln_14, ln_16, ln_17, ln_18, ln_19, ln_20, ln_21, ln_23, ln_24, ln_25, ln_27, ln_28, ln_29, ln_31, ln_32, ln_33, ln_35, ln_36, ln_37, e]
  refine (pm e30).mpr ⟨rfl, ?_⟩
  have ne : ∀ q, q ≠ 26 → q ≠ 30 → mm_up (mm_up M 26 0 (nI 0)) 30 5 (nI 0) q = M q := fun q q1 q2 => by rw [up_ne _ _ _ q2, up_ne _ _ _ q1]
  obtain ⟨B, L, n, g, hv, hn, hL, hc, hd⟩ := hi1
  obtain ⟨hh, H, z0, z1, z2, z3⟩ := hi2
  refine ⟨⟨B, L, n, g, hv, hn, hL, isC_cong (ne 1 (by decide) (by decide)) (ne 2 (by decide) (by decide)) hc, by rw [ne 31 (by decide) (by decide)]; exact hd⟩, ⟨hh, H, z0, by rw [ne 7 (by decide) (by decide), z1], ?_, by rw [ne 8 (by decide) (by decide), ne 32 (by decide) (by decide)]; exact z3⟩, ⟨0, c, by omega, ?_, ?_, fun i hi => absurd hi (by omega)⟩, ?_⟩
  · rw [up_o, un _ _ _ _ (by decide), up_ne _ _ _ (by decide), z2]
  · rw [up_ne _ _ _ (by decide), up_o, us]
  · rw [up_o, us]
  · unfold Wlk
    rw [ne 16 (by decide) (by decide), ne 17 (by decide) (by decide), ne 18 (by decide) (by decide)]
    exact h4
end EASY
