/-! count, type, clearText -/
section EASY
variable {M : mm_M} {Q : mm_Q}
def cntV (B n L h t : Nat) (a : Int32) : Int32 := if a = nI 0 then nI B else if a = nI 1 then nI n else if a = nI 2 then nI L else if a = nI 3 then nI h else if a = nI 4 then nI t else -1001
theorem p_count {B n L h t : Nat} (x0 : M 1 0 = nI B) (x1 : M 1 1 = nI L) (x2 : M 1 2 = nI n) (z1 : M 7 0 = nI h) (w1 : M 26 0 = nI t) (a1 : Int32) : wc 72 [.inr 0, .inl a1] M Q ↔ Q (some (cntV B n L h t a1)) M := by
  simp (disch := first | assumption | exact isSc1 | exact isSc3 | exact isSc5 | decide | omega) only [eX7_count, iX7_count_0, iX7_count_1, iX7_count_36, iX7_count_37, iX7_count_40, iX7_count_43, iX7_count_44, iX7_count_45, iX7_count_48, iX7_count_51, iX7_count_52, iX7_count_53, iX7_count_56, iX7_count_59, iX7_count_60, iX7_count_61, iX7_count_64, iX7_count_67, iX7_count_68, iX7_count_69, iX7_count_72, iX7_count_75, iX7_count_76, iX7_count_79, wsw_n, wsw_c, Nat.reduceAdd, Nat.reduceSub, Nat.reduceMul, Nat.reduceLeDiff, mm_rv_s, mm_rv_n, true_and, and_true, if_true, if_false, not_true_eq_false, not_false_eq_true, nI_add, nz_0, nz_lt0, nz_0le, nz_0lt, nz_le0, nz_lt, nz_le, nz_eq, nz_cl, nz_in, nz_sub, nz_m1, pk_mul, set_o, set_ne, up_ne, up_set, n1_1, true_or, or_true, n1_01, n0_01, bI_01, bI_01b, bI_0, isSc1, isSc3, isSc5, ln_2, ln_4, ln_6, ln_8, ln_10, ln_11, ln_12, ln_13, ln_14, ln_16, ln_17, ln_18, ln_19, ln_20, ln_21, ln_23, ln_24, ln_25, ln_27, ln_28, ln_29, x0, x1, x2, z1, w1]
  unfold cntV
  repeat' split
  all_goals rfl
-- the text
theorem p_append {t : Nat} (w1 : M 26 0 = nI t) (ht : t < 120) (v : Int32) : wc 15 [.inr 26, .inl v] M Q ↔ Q none (mm_up (mm_up M 27 t v) 26 0 (nI (t + 1))) := by
  simp (disch := first | assumption | exact isSc1 | exact isSc3 | exact isSc5 | decide | omega) only [eX3_append, iX3_append_0, iX3_append_1, iX3_append_4, iX3_append_6, iX3_append_9, iX3_append_10, iX3_append_13, iX3_append_14, iX3_append_17, iX3_append_18, iX3_append_19, iX3_append_20, iX3_append_21, iX3_append_24, iX3_append_25, iX3_append_26, iX3_append_29, Nat.reduceAdd, Nat.reduceSub, Nat.reduceMul, Nat.reduceLeDiff, mm_rv_s, mm_rv_n, true_and, and_true, if_true, if_false, not_true_eq_false, not_false_eq_true, nI_add, nz_0, nz_lt0, nz_0le, nz_0lt, nz_le0, nz_lt, nz_le, nz_eq, nz_cl, nz_in, nz_sub, nz_m1, pk_mul, set_o, set_ne, up_ne, up_set, n1_1, true_or, or_true, n1_01, n0_01, bI_01, bI_01b, bI_0, isSc1, isSc3, isSc5, ln_2, ln_4, ln_6, ln_8, ln_10, ln_11, ln_12, ln_13, ln_14, ln_16, ln_17, ln_18, ln_19, ln_20, ln_21, ln_23, ln_24, ln_25, ln_27, ln_28, ln_29, w1, show ¬ 120 ≤ t by omega]
theorem p_type {t : Nat} (w1 : M 26 0 = nI t) (ht : t ≤ 120) (v : Int32) (h1 : ¬ (nI 32 ≤ v ∧ v ≤ nI 126) → Q (some (-1001)) M) (h2 : (nI 32 ≤ v ∧ v ≤ nI 126) → t = 120 → Q (some (-1003)) M) (h3 : (nI 32 ≤ v ∧ v ≤ nI 126) → t < 120 → Q (some (nI (t + 1))) (mm_up (mm_up M 27 t v) 26 0 (nI (t + 1)))) : wc 86 [.inr 0, .inl v] M Q := by
  simp (disch := first | assumption | exact isSc1 | exact isSc3 | exact isSc5 | decide | omega) only [eX7_type, iX7_type_0, iX7_type_1, iX7_type_3, iX7_type_5, iX7_type_8, iX7_type_11, iX7_type_14, iX7_type_15, iX7_type_16, iX7_type_19, iX7_type_22, iX7_type_24, iX7_type_27, iX7_type_30, iX7_type_31, iX7_type_32, iX7_type_35, iX7_type_36, iX7_type_39, iX7_type_40, iX7_type_43, iX7_type_46, Nat.reduceAdd, Nat.reduceSub, Nat.reduceMul, Nat.reduceLeDiff, mm_rv_s, mm_rv_n, true_and, and_true, if_true, if_false, not_true_eq_false, not_false_eq_true, nI_add, nz_0, nz_lt0, nz_0le, nz_0lt, nz_le0, nz_lt, nz_le, nz_eq, nz_cl, nz_in, nz_sub, nz_m1, pk_mul, set_o, set_ne, up_ne, up_set, n1_1, true_or, or_true, n1_01, n0_01, bI_01, bI_01b, bI_0, isSc1, isSc3, isSc5, ln_2, ln_4, ln_6, ln_8, ln_10, ln_11, ln_12, ln_13, ln_14, ln_16, ln_17, ln_18, ln_19, ln_20, ln_21, ln_23, ln_24, ln_25, ln_27, ln_28, ln_29, p_isWithin, w1]
  by_cases hr : nI 32 ≤ v ∧ v ≤ nI 126
  · simp only [hr, and_self, decide_true, Bool.true_eq_false, not_false_eq_true, if_true]
    by_cases ht2 : t < 120
    · simp (disch := first | assumption | exact isSc1 | exact isSc3 | exact isSc5 | decide | omega) only [iX7_type_0, iX7_type_1, iX7_type_3, iX7_type_5, iX7_type_8, iX7_type_11, iX7_type_14, iX7_type_15, iX7_type_16, iX7_type_19, iX7_type_22, iX7_type_24, iX7_type_27, iX7_type_30, iX7_type_31, iX7_type_32, iX7_type_35, iX7_type_36, iX7_type_39, iX7_type_40, iX7_type_43, iX7_type_46, Nat.reduceAdd, Nat.reduceSub, Nat.reduceMul, Nat.reduceLeDiff, mm_rv_s, mm_rv_n, true_and, and_true, if_true, if_false, not_true_eq_false, not_false_eq_true, nI_add, nz_0, nz_lt0, nz_0le, nz_0lt, nz_le0, nz_lt, nz_le, nz_eq, nz_cl, nz_in, nz_sub, nz_m1, pk_mul, set_o, set_ne, up_ne, up_set, n1_1, true_or, or_true, n1_01, n0_01, bI_01, bI_01b, bI_0, isSc1, isSc3, isSc5, ln_2, ln_4, ln_6, ln_8, ln_10, ln_11, ln_12, ln_13, ln_14, ln_16, ln_17, ln_18, ln_19, ln_20, ln_21, ln_23, ln_24, ln_25, ln_27, ln_28, ln_29, w1, ht2, p_append w1 ht2, up_o, us]
      exact h3 hr ht2
    · simp (disch := first | assumption | exact isSc1 | exact isSc3 | exact isSc5 | decide | omega) only [iX7_type_0, iX7_type_1, iX7_type_3, iX7_type_5, iX7_type_8, iX7_type_11, iX7_type_14, iX7_type_15, iX7_type_16, iX7_type_19, iX7_type_22, iX7_type_24, iX7_type_27, iX7_type_30, iX7_type_31, iX7_type_32, iX7_type_35, iX7_type_36, iX7_type_39, iX7_type_40, iX7_type_43, iX7_type_46, Nat.reduceAdd, Nat.reduceSub, Nat.reduceMul, Nat.reduceLeDiff, mm_rv_s, mm_rv_n, true_and, and_true, if_true, if_false, not_true_eq_false, not_false_eq_true, nI_add, nz_0, nz_lt0, nz_0le, nz_0lt, nz_le0, nz_lt, nz_le, nz_eq, nz_cl, nz_in, nz_sub, nz_m1, pk_mul, set_o, set_ne, up_ne, up_set, n1_1, true_or, or_true, n1_01, n0_01, bI_01, bI_01b, bI_0, isSc1, isSc3, isSc5, ln_2, ln_4, ln_6, ln_8, ln_10, ln_11, ln_12, ln_13, ln_14, ln_16, ln_17, ln_18, ln_19, ln_20, ln_21, ln_23, ln_24, ln_25, ln_27, ln_28, ln_29, w1, ht2]
      exact h2 hr (by omega)
  · simp only [hr, decide_false, not_true_eq_false, if_false]
    exact h1 hr
theorem cnt_0 {B n L h t : Nat} : cntV B n L h t (nI 0) = nI B := by unfold cntV; rw [if_pos rfl]
theorem cnt_1 {B n L h t : Nat} : cntV B n L h t (nI 1) = nI n := by unfold cntV; rw [if_neg (by decide), if_pos rfl]
theorem cnt_2 {B n L h t : Nat} : cntV B n L h t (nI 2) = nI L := by unfold cntV; rw [if_neg (by decide), if_neg (by decide), if_pos rfl]
theorem cnt_3 {B n L h t : Nat} : cntV B n L h t (nI 3) = nI h := by unfold cntV; rw [if_neg (by decide), if_neg (by decide), if_neg (by decide), if_pos rfl]
theorem cnt_4 {B n L h t : Nat} : cntV B n L h t (nI 4) = nI t := by unfold cntV; rw [if_neg (by decide), if_neg (by decide), if_neg (by decide), if_neg (by decide), if_pos rfl]
section EASY2
variable {X V : Nat → Int32} {B L n h t : Nat} {g : Nat → Sg} {H : Nat → St} {c : Nat → Nat}
theorem z_count (s : Ste M X V B L n g h H t c) (a1 : Int32) : wc 72 [.inr 0, .inl a1] M Q ↔ Q (some (cntV B n L h t a1)) M :=
  p_count s.1.2.2.2.1 s.1.2.2.2.2.1 s.1.2.2.2.2.2.1 s.2.1.2.1 s.2.2.1.2.1 a1
def txtP (t k : Nat) (c : Nat → Nat) : Nat → Nat := fun i => if i = t then k else c i
theorem z_type (s : Ste M X V B L n g h H t c) {k : Nat} (hk1 : 32 ≤ k) (hk2 : k ≤ 126) (ht : t < 120) (hQ : ∀ M', Ste M' X V B L n g h H (t + 1) (txtP t k c) → Q (some (nI (t + 1))) M') : wc 86 [.inr 0, .inl (nI k)] M Q := by
  obtain ⟨hcur, hh, ⟨w0, w1, w3⟩, hw, h42, h43⟩ := id s
  have h1 : nI 32 ≤ nI k ∧ nI k ≤ nI 126 := by
    rw [nz_le _ _ (by omega) (by omega), nz_le _ _ (by omega) (by omega)]; omega
  refine p_type w1 w0 (nI k) (fun hr => absurd h1 hr) (fun hr h => absurd h (by omega)) (fun hr h => hQ _ ?_)
  have ne : ∀ q, q ≠ 26 → q ≠ 27 → mm_up (mm_up M 27 t (nI k)) 26 0 (nI (t + 1)) q = M q := fun q q1 q2 => by rw [up_ne _ _ _ q1, up_ne _ _ _ q2]
  obtain ⟨a1, a2, a3, a4⟩ := hcur
  obtain ⟨b1, b2, b3⟩ := hh
  obtain ⟨c1, c2, c3⟩ := hw
  refine ⟨⟨a1, a2, a3, isC_cong (ne 1 (by decide) (by decide)) (ne 2 (by decide) (by decide)) a4⟩, ⟨b1, by rw [ne 7 (by decide) (by decide), b2], by rw [ne 8 (by decide) (by decide)]; exact b3⟩, ⟨by omega, ?_, fun i hi => ?_⟩, ⟨by rw [ne 16 (by decide) (by decide), c1], by rw [ne 17 (by decide) (by decide), c2], by rw [ne 18 (by decide) (by decide), c3]⟩, by rw [ne 42 (by decide) (by decide), h42], by rw [ne 43 (by decide) (by decide), h43]⟩
  · rw [up_o, us]
  · have e27 : mm_up (mm_up M 27 t (nI k)) 26 0 (nI (t + 1)) 27 = upd (M 27) t (nI k) := by rw [up_ne _ _ _ (by decide), up_o]
    rw [e27]
    unfold txtP
    by_cases hit : i = t
    · subst hit
      rw [us, if_pos rfl]
      exact ⟨rfl, hk1, hk2⟩
    · rw [un _ _ _ _ hit, if_neg hit]
      exact w3 i (by omega)
theorem z_clear (s : Ste M X V B L n g h H t c) (hQ : ∀ M', Ste M' X V B L n g h H 0 c → Q (some (nI t)) M') : wc 87 [.inr 0] M Q := by
  obtain ⟨hcur, hh, ⟨w0, w1, w3⟩, hw, h42, h43⟩ := id s
  simp (disch := first | assumption | exact isSc1 | exact isSc3 | exact isSc5 | decide | omega) only [eX7_clearText, iX7_clearText_0, iX7_clearText_1, iX7_clearText_4, iX7_clearText_7, iX7_clearText_8, iX7_clearText_9, iX7_clearText_12, iX7_clearText_13, iX7_clearText_16, iX7_clearText_17, Nat.reduceAdd, Nat.reduceSub, Nat.reduceMul, Nat.reduceLeDiff, mm_rv_s, mm_rv_n, true_and, and_true, if_true, if_false, not_true_eq_false, not_false_eq_true, nI_add, nz_0, nz_lt0, nz_0le, nz_0lt, nz_le0, nz_lt, nz_le, nz_eq, nz_cl, nz_in, nz_sub, nz_m1, pk_mul, set_o, set_ne, up_ne, up_set, n1_1, true_or, or_true, n1_01, n0_01, bI_01, bI_01b, bI_0, isSc1, isSc3, isSc5, ln_2, ln_4, ln_6, ln_8, ln_10, ln_11, ln_12, ln_13, ln_14, ln_16, ln_17, ln_18, ln_19, ln_20, ln_21, ln_23, ln_24, ln_25, ln_27, ln_28, ln_29, w1]
  refine hQ _ ?_
  have ne : ∀ q, q ≠ 26 → mm_up M 26 0 (nI 0) q = M q := fun q q1 => up_ne _ _ _ q1
  obtain ⟨a1, a2, a3, a4⟩ := hcur
  obtain ⟨b1, b2, b3⟩ := hh
  obtain ⟨c1, c2, c3⟩ := hw
  exact ⟨⟨a1, a2, a3, isC_cong (ne 1 (by decide)) (ne 2 (by decide)) a4⟩, ⟨b1, by rw [ne 7 (by decide), b2], by rw [ne 8 (by decide)]; exact b3⟩, ⟨by omega, by rw [up_o, us], fun i hi => absurd hi (by omega)⟩, ⟨by rw [ne 16 (by decide), c1], by rw [ne 17 (by decide), c2], by rw [ne 18 (by decide), c3]⟩, by rw [ne 42 (by decide), h42], by rw [ne 43 (by decide), h43]⟩
end EASY2
end EASY
