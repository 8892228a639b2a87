/-! THE TEXT, by the reference -/
section TM
variable {M : mm_M} {Q : mm_Q} {t B L n : Nat} {c nb : Nat → Nat} {g : Nat → Sg}
def Rm (M : mm_M) (t : Nat) (c : Nat → Nat) : Prop := M 30 5 = nI t ∧ okT t c ∧ ∀ i, i < t → M 34 i = nI (c i)
def atM (M : mm_M) (p : Nat) : mm_M := mm_up M 30 6 (nI p)
theorem atM_k (p : Nat) {k : Nat} (h : k ≠ 6) : atM M p 30 k = M 30 k := by simp [atM, mm_up, upd, h]
theorem atM_6 (p : Nat) : atM M p 30 6 = nI p := by simp [atM, mm_up, upd]
theorem atM_ne {q : Nat} (p : Nat) (h : q ≠ 30) : atM M p q = M q := up_ne _ _ _ h
theorem atM_at (p p' : Nat) : mm_up (atM M p) 30 6 (nI p') = atM M p' := by
  funext q k
  by_cases h : q = 30
  · subst h
    by_cases h2 : k = 6 <;> simp [atM, mm_up, upd, h2]
  · simp [atM, mm_up, h]
theorem atM_self {p : Nat} (h : M 30 6 = nI p) : atM M p = M := by
  funext q k
  by_cases hq : q = 30
  · subst hq
    by_cases h2 : k = 6
    · subst h2; simp [atM, mm_up, upd, h]
    · simp [atM, mm_up, upd, h2]
  · simp [atM, mm_up, hq]
theorem m_here (hR : Rm M t c) {p : Nat} (hp : p ≤ 400) : wc 151 [.inr 30] (atM M p) Q ↔ Q (some (hI t c p)) (atM M p) := by
  obtain ⟨r1, r2, r3⟩ := hR
  have ht := r2.1
  simp (disch := first | assumption | exact isSc1 | exact isSc3 | exact isSc5 | decide | omega) only [eX8_here, iX8_here_0, iX8_here_1, iX8_here_4, iX8_here_5, iX8_here_8, Nat.reduceAdd, Nat.reduceSub, Nat.reduceMul, Nat.reduceLeDiff, mm_rv_s, mm_rv_n, true_and, and_true, if_true, if_false, not_true_eq_false, not_false_eq_true, nI_add, nz_0, nz_lt0, nz_0le, nz_0lt, nz_le0, nz_lt, nz_le, nz_eq, nz_cl, nz_in, nz_sub, nz_m1, pk_mul, set_o, set_ne, up_ne, up_set, n1_1, true_or, or_true, n1_01, n0_01, bI_01, bI_01b, bI_0, isSc1, isSc3, isSc5, ln_2, ln_4, ln_6, ln_8, ln_10, ln_11, ln_12, ln_13, ln_14, ln_16, ln_17, ln_18, ln_19, ln_20, ln_21, ln_23, ln_24, ln_25, ln_27, ln_28, ln_29, ln_31, ln_32, ln_33, ln_35, ln_36, ln_37, atM_k, atM_6, r1]
  unfold hI
  by_cases hqt : p < t
  · have e34 : atM M p 34 p = nI (c p) := by rw [atM_ne _ (by decide), r3 p hqt]
    simp (disch := first | assumption | exact isSc1 | exact isSc3 | exact isSc5 | decide | omega) only [iX8_here_11, iX8_here_12, iX8_here_15, iX8_here_16, iX8_here_19, iX8_here_20, iX8_here_23, iX8_here_24, Nat.reduceAdd, Nat.reduceSub, Nat.reduceMul, Nat.reduceLeDiff, mm_rv_s, mm_rv_n, true_and, and_true, if_true, if_false, not_true_eq_false, not_false_eq_true, nI_add, nz_0, nz_lt0, nz_0le, nz_0lt, nz_le0, nz_lt, nz_le, nz_eq, nz_cl, nz_in, nz_sub, nz_m1, pk_mul, set_o, set_ne, up_ne, up_set, n1_1, true_or, or_true, n1_01, n0_01, bI_01, bI_01b, bI_0, isSc1, isSc3, isSc5, ln_2, ln_4, ln_6, ln_8, ln_10, ln_11, ln_12, ln_13, ln_14, ln_16, ln_17, ln_18, ln_19, ln_20, ln_21, ln_23, ln_24, ln_25, ln_27, ln_28, ln_29, ln_31, ln_32, ln_33, ln_35, ln_36, ln_37, show ¬ t ≤ p by omega, e34, atM_6, hqt]
  · simp (disch := first | assumption | exact isSc1 | exact isSc3 | exact isSc5 | decide | omega) only [iX8_here_11, iX8_here_12, iX8_here_15, iX8_here_16, iX8_here_19, iX8_here_20, iX8_here_23, iX8_here_24, Nat.reduceAdd, Nat.reduceSub, Nat.reduceMul, Nat.reduceLeDiff, mm_rv_s, mm_rv_n, true_and, and_true, if_true, if_false, not_true_eq_false, not_false_eq_true, nI_add, nz_0, nz_lt0, nz_0le, nz_0lt, nz_le0, nz_lt, nz_le, nz_eq, nz_cl, nz_in, nz_sub, nz_m1, pk_mul, set_o, set_ne, up_ne, up_set, n1_1, true_or, or_true, n1_01, n0_01, bI_01, bI_01b, bI_0, isSc1, isSc3, isSc5, ln_2, ln_4, ln_6, ln_8, ln_10, ln_11, ln_12, ln_13, ln_14, ln_16, ln_17, ln_18, ln_19, ln_20, ln_21, ln_23, ln_24, ln_25, ln_27, ln_28, ln_29, ln_31, ln_32, ln_33, ln_35, ln_36, ln_37, show t ≤ p by omega, hqt]
theorem m_passes_t (hR : Rm M t c) {p k : Nat} (hp : p ≤ 400) (hk : 1 ≤ k) (hk2 : k < 200) (h : hcN t c p = k) : wc 152 [.inr 30, .inl (nI k)] (atM M p) Q ↔ Q (some (nI 1)) (atM M (p + 1)) := by
  have e : hI t c p = nI k := by rw [hI_eq hR.2.1 p hk hk2]; exact h
  simp (disch := first | assumption | exact isSc1 | exact isSc3 | exact isSc5 | decide | omega) only [eX8_passes, iX8_passes_0, iX8_passes_1, iX8_passes_4, iX8_passes_5, iX8_passes_8, iX8_passes_9, iX8_passes_12, iX8_passes_13, iX8_passes_14, iX8_passes_15, iX8_passes_16, iX8_passes_19, iX8_passes_20, iX8_passes_23, iX8_passes_24, iX8_passes_27, iX8_passes_28, iX8_passes_29, iX8_passes_32, iX8_passes_33, Nat.reduceAdd, Nat.reduceSub, Nat.reduceMul, Nat.reduceLeDiff, mm_rv_s, mm_rv_n, true_and, and_true, if_true, if_false, not_true_eq_false, not_false_eq_true, nI_add, nz_0, nz_lt0, nz_0le, nz_0lt, nz_le0, nz_lt, nz_le, nz_eq, nz_cl, nz_in, nz_sub, nz_m1, pk_mul, set_o, set_ne, up_ne, up_set, n1_1, true_or, or_true, n1_01, n0_01, bI_01, bI_01b, bI_0, isSc1, isSc3, isSc5, ln_2, ln_4, ln_6, ln_8, ln_10, ln_11, ln_12, ln_13, ln_14, ln_16, ln_17, ln_18, ln_19, ln_20, ln_21, ln_23, ln_24, ln_25, ln_27, ln_28, ln_29, ln_31, ln_32, ln_33, ln_35, ln_36, ln_37, m_here hR hp, e, atM_6, atM_at, Nat.one_ne_zero]
theorem m_passes_f (hR : Rm M t c) {p k : Nat} (hp : p ≤ 400) (hk : 1 ≤ k) (hk2 : k < 200) (h : hcN t c p ≠ k) : wc 152 [.inr 30, .inl (nI k)] (atM M p) Q ↔ Q (some (nI 0)) (atM M p) := by
  have e : ¬ hI t c p = nI k := by rw [hI_eq hR.2.1 p hk hk2]; exact h
  simp (disch := first | assumption | exact isSc1 | exact isSc3 | exact isSc5 | decide | omega) only [eX8_passes, iX8_passes_0, iX8_passes_1, iX8_passes_4, iX8_passes_5, iX8_passes_8, iX8_passes_9, iX8_passes_12, iX8_passes_13, iX8_passes_14, iX8_passes_15, iX8_passes_16, iX8_passes_19, iX8_passes_20, iX8_passes_23, iX8_passes_24, iX8_passes_27, iX8_passes_28, iX8_passes_29, iX8_passes_32, iX8_passes_33, Nat.reduceAdd, Nat.reduceSub, Nat.reduceMul, Nat.reduceLeDiff, mm_rv_s, mm_rv_n, true_and, and_true, if_true, if_false, not_true_eq_false, not_false_eq_true, nI_add, nz_0, nz_lt0, nz_0le, nz_0lt, nz_le0, nz_lt, nz_le, nz_eq, nz_cl, nz_in, nz_sub, nz_m1, pk_mul, set_o, set_ne, up_ne, up_set, n1_1, true_or, or_true, n1_01, n0_01, bI_01, bI_01b, bI_0, isSc1, isSc3, isSc5, ln_2, ln_4, ln_6, ln_8, ln_10, ln_11, ln_12, ln_13, ln_14, ln_16, ln_17, ln_18, ln_19, ln_20, ln_21, ln_23, ln_24, ln_25, ln_27, ln_28, ln_29, ln_31, ln_32, ln_33, ln_35, ln_36, ln_37, m_here hR hp, e, atM_6, atM_at, Nat.add_zero]
theorem m_digit_t (hR : Rm M t c) {p lo hi : Nat} (hp : p ≤ 400) (hh : hi ≤ 9) (h1 : lo ≤ dgN t c p) (h2 : dgN t c p ≤ hi) : wc 153 [.inr 30, .inl (nI lo), .inl (nI hi)] (atM M p) Q ↔ Q (some (nI (dgN t c p))) (atM M (p + 1)) := by
  have h3 : 48 ≤ hcN t c p ∧ hcN t c p ≤ 57 ∧ dgN t c p = hcN t c p - 48 := by
    unfold dgN at h2 ⊢
    split at h2
    · rename_i h
      exact ⟨h.1, h.2, by rw [if_pos h]⟩
    · omega
  have e1 : nI (48 + lo) ≤ hI t c p ∧ hI t c p ≤ nI (48 + hi) := by
    rw [hI_ge hR.2.1 p (by omega) (by omega), hI_le hR.2.1 p (by omega)]
    omega
  have e2 : hI t c p - nI 48 = nI (dgN t c p) := by rw [hI_sub p h3.1, h3.2.2]
  have b := dgN_le t c p
  simp (disch := first | assumption | exact isSc1 | exact isSc3 | exact isSc5 | decide | omega) only [eX8_digit, iX8_digit_0, iX8_digit_1, iX8_digit_4, iX8_digit_6, iX8_digit_7, iX8_digit_8, iX8_digit_10, iX8_digit_11, iX8_digit_12, Nat.reduceAdd, Nat.reduceSub, Nat.reduceMul, Nat.reduceLeDiff, mm_rv_s, mm_rv_n, true_and, and_true, if_true, if_false, not_true_eq_false, not_false_eq_true, nI_add, nz_0, nz_lt0, nz_0le, nz_0lt, nz_le0, nz_lt, nz_le, nz_eq, nz_cl, nz_in, nz_sub, nz_m1, pk_mul, set_o, set_ne, up_ne, up_set, n1_1, true_or, or_true, n1_01, n0_01, bI_01, bI_01b, bI_0, isSc1, isSc3, isSc5, ln_2, ln_4, ln_6, ln_8, ln_10, ln_11, ln_12, ln_13, ln_14, ln_16, ln_17, ln_18, ln_19, ln_20, ln_21, ln_23, ln_24, ln_25, ln_27, ln_28, ln_29, ln_31, ln_32, ln_33, ln_35, ln_36, ln_37, m_here hR hp, p_in]
  simp only [e1, and_self, decide_true]
  simp (disch := first | assumption | exact isSc1 | exact isSc3 | exact isSc5 | decide | omega) only [iX8_digit_15, iX8_digit_18, iX8_digit_19, iX8_digit_22, iX8_digit_24, iX8_digit_25, iX8_digit_28, iX8_digit_29, iX8_digit_30, iX8_digit_31, iX8_digit_32, iX8_digit_35, iX8_digit_36, iX8_digit_39, iX8_digit_40, iX8_digit_43, iX8_digit_44, iX8_digit_45, iX8_digit_48, iX8_digit_49, bI_0, bI_01, Bool.true_eq_false, if_false, mm_rv_s, m_here hR hp, e2, nz_0le, if_true, atM_6, nI_add, atM_at]
theorem m_digit_f (hR : Rm M t c) {p lo hi : Nat} (hp : p ≤ 400) (hh : hi ≤ 9) (h : ¬ (lo ≤ dgN t c p ∧ dgN t c p ≤ hi)) (hl : lo ≤ 9) : wc 153 [.inr 30, .inl (nI lo), .inl (nI hi)] (atM M p) Q ↔ Q (some (-1)) (atM M p) := by
  have e1 : ¬ (nI (48 + lo) ≤ hI t c p ∧ hI t c p ≤ nI (48 + hi)) := by
    rw [hI_ge hR.2.1 p (by omega) (by omega), hI_le hR.2.1 p (by omega)]
    rintro ⟨a, b⟩
    refine h ?_
    unfold dgN
    rw [if_pos (by omega)]
    omega
  have nle : ¬ (0 : Int32) ≤ -1 := by decide
  simp (disch := first | assumption | exact isSc1 | exact isSc3 | exact isSc5 | decide | omega) only [eX8_digit, iX8_digit_0, iX8_digit_1, iX8_digit_4, iX8_digit_6, iX8_digit_7, iX8_digit_8, iX8_digit_10, iX8_digit_11, iX8_digit_12, Nat.reduceAdd, Nat.reduceSub, Nat.reduceMul, Nat.reduceLeDiff, mm_rv_s, mm_rv_n, true_and, and_true, if_true, if_false, not_true_eq_false, not_false_eq_true, nI_add, nz_0, nz_lt0, nz_0le, nz_0lt, nz_le0, nz_lt, nz_le, nz_eq, nz_cl, nz_in, nz_sub, nz_m1, pk_mul, set_o, set_ne, up_ne, up_set, n1_1, true_or, or_true, n1_01, n0_01, bI_01, bI_01b, bI_0, isSc1, isSc3, isSc5, ln_2, ln_4, ln_6, ln_8, ln_10, ln_11, ln_12, ln_13, ln_14, ln_16, ln_17, ln_18, ln_19, ln_20, ln_21, ln_23, ln_24, ln_25, ln_27, ln_28, ln_29, ln_31, ln_32, ln_33, ln_35, ln_36, ln_37, m_here hR hp, p_in]
  simp only [e1, decide_false]
  simp (disch := first | assumption | exact isSc1 | exact isSc3 | exact isSc5 | decide | omega) only [iX8_digit_15, iX8_digit_18, iX8_digit_19, iX8_digit_22, iX8_digit_24, iX8_digit_25, iX8_digit_28, iX8_digit_29, iX8_digit_30, iX8_digit_31, iX8_digit_32, iX8_digit_35, iX8_digit_36, iX8_digit_39, iX8_digit_40, iX8_digit_43, iX8_digit_44, iX8_digit_45, iX8_digit_48, iX8_digit_49, bI_0, if_true, if_false, mm_rv_s, nle, atM_6, nI_add, atM_at, Nat.add_zero]
def lI (t : Nat) (c : Nat → Nat) (p : Nat) : Int32 := if dgN t c p = 10 then -1 else nI (lenV t c p)
theorem m_length (hR : Rm M t c) {p : Nat} (hp : p ≤ 300) : wc 154 [.inr 30] (atM M p) Q ↔ Q (some (lI t c p)) (atM M (lenP t c p)) := by
  have b1 := dgN_le t c p
  have b2 := dgN_le t c (p + 1)
  have lt : (-1 : Int32) < 0 := by decide
  have nle : ¬ (0 : Int32) ≤ -1 := by decide
  unfold lI lenV lenP
  by_cases h1 : dgN t c p = 10
  · simp (disch := first | assumption | exact isSc1 | exact isSc3 | exact isSc5 | decide | omega) only [eX8_length, iX8_length_0, iX8_length_1, iX8_length_2, iX8_length_4, iX8_length_7, iX8_length_8, iX8_length_9, Nat.reduceAdd, Nat.reduceSub, Nat.reduceMul, Nat.reduceLeDiff, mm_rv_s, mm_rv_n, true_and, and_true, if_true, if_false, not_true_eq_false, not_false_eq_true, nI_add, nz_0, nz_lt0, nz_0le, nz_0lt, nz_le0, nz_lt, nz_le, nz_eq, nz_cl, nz_in, nz_sub, nz_m1, pk_mul, set_o, set_ne, up_ne, up_set, n1_1, true_or, or_true, n1_01, n0_01, bI_01, bI_01b, bI_0, isSc1, isSc3, isSc5, ln_2, ln_4, ln_6, ln_8, ln_10, ln_11, ln_12, ln_13, ln_14, ln_16, ln_17, ln_18, ln_19, ln_20, ln_21, ln_23, ln_24, ln_25, ln_27, ln_28, ln_29, ln_31, ln_32, ln_33, ln_35, ln_36, ln_37, m_digit_f hR (p := p) (lo := 0) (hi := 9) (show p ≤ 400 by omega) (show 9 ≤ 9 by decide) (show ¬ (0 ≤ dgN t c p ∧ dgN t c p ≤ 9) by omega) (show 0 ≤ 9 by decide), nle]
    simp (disch := first | assumption | exact isSc1 | exact isSc3 | exact isSc5 | decide | omega) only [iX8_length_12, iX8_length_13, iX8_length_23, iX8_length_24, iX8_length_25, iX8_length_28, iX8_length_29, iX8_length_32, iX8_length_34, iX8_length_35, iX8_length_36, iX8_length_37, iX8_length_38, Nat.reduceAdd, Nat.reduceSub, Nat.reduceMul, Nat.reduceLeDiff, mm_rv_s, mm_rv_n, true_and, and_true, if_true, if_false, not_true_eq_false, not_false_eq_true, nI_add, nz_0, nz_lt0, nz_0le, nz_0lt, nz_le0, nz_lt, nz_le, nz_eq, nz_cl, nz_in, nz_sub, nz_m1, pk_mul, set_o, set_ne, up_ne, up_set, n1_1, true_or, or_true, n1_01, n0_01, bI_01, bI_01b, bI_0, isSc1, isSc3, isSc5, ln_2, ln_4, ln_6, ln_8, ln_10, ln_11, ln_12, ln_13, ln_14, ln_16, ln_17, ln_18, ln_19, ln_20, ln_21, ln_23, ln_24, ln_25, ln_27, ln_28, ln_29, ln_31, ln_32, ln_33, ln_35, ln_36, ln_37, nle, h1]
  · simp (disch := first | assumption | exact isSc1 | exact isSc3 | exact isSc5 | decide | omega) only [eX8_length, iX8_length_0, iX8_length_1, iX8_length_2, iX8_length_4, iX8_length_7, iX8_length_8, iX8_length_9, Nat.reduceAdd, Nat.reduceSub, Nat.reduceMul, Nat.reduceLeDiff, mm_rv_s, mm_rv_n, true_and, and_true, if_true, if_false, not_true_eq_false, not_false_eq_true, nI_add, nz_0, nz_lt0, nz_0le, nz_0lt, nz_le0, nz_lt, nz_le, nz_eq, nz_cl, nz_in, nz_sub, nz_m1, pk_mul, set_o, set_ne, up_ne, up_set, n1_1, true_or, or_true, n1_01, n0_01, bI_01, bI_01b, bI_0, isSc1, isSc3, isSc5, ln_2, ln_4, ln_6, ln_8, ln_10, ln_11, ln_12, ln_13, ln_14, ln_16, ln_17, ln_18, ln_19, ln_20, ln_21, ln_23, ln_24, ln_25, ln_27, ln_28, ln_29, ln_31, ln_32, ln_33, ln_35, ln_36, ln_37, m_digit_t hR (p := p) (lo := 0) (hi := 9) (show p ≤ 400 by omega) (show 9 ≤ 9 by decide) (Nat.zero_le _) (show dgN t c p ≤ 9 by omega)]
    by_cases h2 : dgN t c (p + 1) = 10
    · simp (disch := first | assumption | exact isSc1 | exact isSc3 | exact isSc5 | decide | omega) only [iX8_length_16, iX8_length_17, iX8_length_18, iX8_length_20, iX8_length_23, iX8_length_24, iX8_length_25, iX8_length_28, iX8_length_29, Nat.reduceAdd, Nat.reduceSub, Nat.reduceMul, Nat.reduceLeDiff, mm_rv_s, mm_rv_n, true_and, and_true, if_true, if_false, not_true_eq_false, not_false_eq_true, nI_add, nz_0, nz_lt0, nz_0le, nz_0lt, nz_le0, nz_lt, nz_le, nz_eq, nz_cl, nz_in, nz_sub, nz_m1, pk_mul, set_o, set_ne, up_ne, up_set, n1_1, true_or, or_true, n1_01, n0_01, bI_01, bI_01b, bI_0, isSc1, isSc3, isSc5, ln_2, ln_4, ln_6, ln_8, ln_10, ln_11, ln_12, ln_13, ln_14, ln_16, ln_17, ln_18, ln_19, ln_20, ln_21, ln_23, ln_24, ln_25, ln_27, ln_28, ln_29, ln_31, ln_32, ln_33, ln_35, ln_36, ln_37, m_digit_f hR (p := p + 1) (lo := 0) (hi := 9) (show p + 1 ≤ 400 by omega) (show 9 ≤ 9 by decide) (show ¬ (0 ≤ dgN t c (p + 1) ∧ dgN t c (p + 1) ≤ 9) by omega) (show 0 ≤ 9 by decide), nle]
      simp (disch := first | assumption | exact isSc1 | exact isSc3 | exact isSc5 | decide | omega) only [iX8_length_28, iX8_length_29, iX8_length_32, iX8_length_34, iX8_length_35, iX8_length_36, iX8_length_37, iX8_length_38, Nat.reduceAdd, Nat.reduceSub, Nat.reduceMul, Nat.reduceLeDiff, mm_rv_s, mm_rv_n, true_and, and_true, if_true, if_false, not_true_eq_false, not_false_eq_true, nI_add, nz_0, nz_lt0, nz_0le, nz_0lt, nz_le0, nz_lt, nz_le, nz_eq, nz_cl, nz_in, nz_sub, nz_m1, pk_mul, set_o, set_ne, up_ne, up_set, n1_1, true_or, or_true, n1_01, n0_01, bI_01, bI_01b, bI_0, isSc1, isSc3, isSc5, ln_2, ln_4, ln_6, ln_8, ln_10, ln_11, ln_12, ln_13, ln_14, ln_16, ln_17, ln_18, ln_19, ln_20, ln_21, ln_23, ln_24, ln_25, ln_27, ln_28, ln_29, ln_31, ln_32, ln_33, ln_35, ln_36, ln_37, h1, h2]
    · simp (disch := first | assumption | exact isSc1 | exact isSc3 | exact isSc5 | decide | omega) only [iX8_length_16, iX8_length_17, iX8_length_18, iX8_length_20, iX8_length_23, iX8_length_24, iX8_length_25, iX8_length_28, iX8_length_29, iX8_length_32, iX8_length_34, iX8_length_35, iX8_length_36, iX8_length_37, iX8_length_38, Nat.reduceAdd, Nat.reduceSub, Nat.reduceMul, Nat.reduceLeDiff, mm_rv_s, mm_rv_n, true_and, and_true, if_true, if_false, not_true_eq_false, not_false_eq_true, nI_add, nz_0, nz_lt0, nz_0le, nz_0lt, nz_le0, nz_lt, nz_le, nz_eq, nz_cl, nz_in, nz_sub, nz_m1, pk_mul, set_o, set_ne, up_ne, up_set, n1_1, true_or, or_true, n1_01, n0_01, bI_01, bI_01b, bI_0, isSc1, isSc3, isSc5, ln_2, ln_4, ln_6, ln_8, ln_10, ln_11, ln_12, ln_13, ln_14, ln_16, ln_17, ln_18, ln_19, ln_20, ln_21, ln_23, ln_24, ln_25, ln_27, ln_28, ln_29, ln_31, ln_32, ln_33, ln_35, ln_36, ln_37, m_digit_t hR (p := p + 1) (lo := 0) (hi := 9) (show p + 1 ≤ 400 by omega) (show 9 ≤ 9 by decide) (Nat.zero_le _) (show dgN t c (p + 1) ≤ 9 by omega), h1, h2, Nat.add_assoc]
      rw [Nat.mul_comm]
theorem m_lays {s : Sg} {S : Nat} {lv : Int32} (hD : isD (M 31) B L n g) (hv : Val B n g) (hn : n < 60) (hc : sC s ≤ 6) (hb : sB s ≤ B) (hk : sK s ≤ 3) (h35 : M 35 (sC s) = nI (sB s)) (hS : S < 200)
    (hlv : (sK s = 1 ∧ S = 1 ∧ sN s = 0) ∨ (sK s ≠ 1 ∧ sN s = S ∧ ((lv = -1 ∧ S = 0) ∨ lv = nI S)))
    (hbad : ¬ (1 ≤ S ∧ sB s + S ≤ B) → Q (some (nI 0)) M)
    (hgood : (1 ≤ S ∧ sB s + S ≤ B) → ∀ d2, isD d2 B L (n + 1) (insG g (pos (gtD g s) n) s) → Q (some (nI 1)) (mm_up (mm_set M 31 d2) 35 (sC s) (nI (sB s + S)))) :
    wc 155 [.inr 30, .inl (nI (sC s)), .inl (nI (sK s)), .inl lv, .inl (iZ (sW s)), .inl (nI (sV s))] M Q := by
  obtain ⟨c0, c1, c2, c3⟩ := id hD
  have w2 := hv.2.1
  have lt : (-1 : Int32) < nI 1 := by decide
  have rest : ∀ e : Int32, (sK s = 1 → e = nI 0) → (sK s ≠ 1 → e = nI (sN s)) → (1 ≤ S ∧ sB s + S ≤ B) → wp 155 68 [some (.inr 30), some (.inl (nI (sC s))), some (.inl (nI (sK s))), some (.inl lv), some (.inl (iZ (sW s))), some (.inl (nI (sV s))), some (.inl (nI (sB s))), some (.inl (nI S))] [.inl e, .inl (nI (sK s)), .inl (nI (sB s)), .inl (nI (sC s)), .inr 30] M Q := by
    intro e e1 e2 hSS
    have ee : e = nI (sN s) := by
      by_cases k : sK s = 1
      · rcases hlv with ⟨_, _, z⟩ | ⟨z, _⟩
        · rw [e1 k, z]
        · exact absurd k z
      · exact e2 k
    rw [ee]
    simp (disch := first | assumption | exact isSc1 | exact isSc3 | exact isSc5 | decide | omega) only [iX8_lays_68, iX8_lays_70, Nat.reduceAdd, Nat.reduceSub, Nat.reduceMul, Nat.reduceLeDiff, mm_rv_s, mm_rv_n, true_and, and_true, if_true, if_false, not_true_eq_false, not_false_eq_true, nI_add, nz_0, nz_lt0, nz_0le, nz_0lt, nz_le0, nz_lt, nz_le, nz_eq, nz_cl, nz_in, nz_sub, nz_m1, pk_mul, set_o, set_ne, up_ne, up_set, n1_1, true_or, or_true, n1_01, n0_01, bI_01, bI_01b, bI_0, isSc1, isSc3, isSc5, ln_2, ln_4, ln_6, ln_8, ln_10, ln_11, ln_12, ln_13, ln_14, ln_16, ln_17, ln_18, ln_19, ln_20, ln_21, ln_23, ln_24, ln_25, ln_27, ln_28, ln_29, ln_31, ln_32, ln_33, ln_35, ln_36, ln_37]
    rw [iX8_lays_72]
    refine m_puts (B := B) (L := L) (n := n) (g := g) hD (by omega) (fun i hi => ⟨(okG_b hv.okG hi).2.2.2.1, (okG_b hv.okG hi).2.2.1⟩) ⟨hc, by omega⟩ (fun d2 hd2 => ?_)
    have e35 : mm_set M 31 d2 35 (sC s) = nI (sB s) := by rw [set_ne _ _ (by decide), h35]
    simp (disch := first | assumption | exact isSc1 | exact isSc3 | exact isSc5 | decide | omega) only [iX8_lays_75, iX8_lays_76, iX8_lays_77, iX8_lays_80, iX8_lays_81, iX8_lays_82, iX8_lays_83, iX8_lays_85, iX8_lays_86, iX8_lays_87, iX8_lays_88, Nat.reduceAdd, Nat.reduceSub, Nat.reduceMul, Nat.reduceLeDiff, mm_rv_s, mm_rv_n, true_and, and_true, if_true, if_false, not_true_eq_false, not_false_eq_true, nI_add, nz_0, nz_lt0, nz_0le, nz_0lt, nz_le0, nz_lt, nz_le, nz_eq, nz_cl, nz_in, nz_sub, nz_m1, pk_mul, set_o, set_ne, up_ne, up_set, n1_1, true_or, or_true, n1_01, n0_01, bI_01, bI_01b, bI_0, isSc1, isSc3, isSc5, ln_2, ln_4, ln_6, ln_8, ln_10, ln_11, ln_12, ln_13, ln_14, ln_16, ln_17, ln_18, ln_19, ln_20, ln_21, ln_23, ln_24, ln_25, ln_27, ln_28, ln_29, ln_31, ln_32, ln_33, ln_35, ln_36, ln_37, e35]
    exact hgood hSS d2 hd2
  have mid : ∀ x : Int32, x = nI S ∨ (x = -1 ∧ S = 0) → wp 155 20 [some (.inr 30), some (.inl (nI (sC s))), some (.inl (nI (sK s))), some (.inl lv), some (.inl (iZ (sW s))), some (.inl (nI (sV s))), some (.inl (nI (sB s))), some (.inl x)] [] M Q := by
    intro x hx
    rcases hx with rfl | ⟨rfl, h0⟩
    · simp (disch := first | assumption | exact isSc1 | exact isSc3 | exact isSc5 | decide | omega) only [iX8_lays_20, iX8_lays_22, iX8_lays_23, Nat.reduceAdd, Nat.reduceSub, Nat.reduceMul, Nat.reduceLeDiff, mm_rv_s, mm_rv_n, true_and, and_true, if_true, if_false, not_true_eq_false, not_false_eq_true, nI_add, nz_0, nz_lt0, nz_0le, nz_0lt, nz_le0, nz_lt, nz_le, nz_eq, nz_cl, nz_in, nz_sub, nz_m1, pk_mul, set_o, set_ne, up_ne, up_set, n1_1, true_or, or_true, n1_01, n0_01, bI_01, bI_01b, bI_0, isSc1, isSc3, isSc5, ln_2, ln_4, ln_6, ln_8, ln_10, ln_11, ln_12, ln_13, ln_14, ln_16, ln_17, ln_18, ln_19, ln_20, ln_21, ln_23, ln_24, ln_25, ln_27, ln_28, ln_29, ln_31, ln_32, ln_33, ln_35, ln_36, ln_37]
      by_cases s1 : S < 1
      · simp (disch := first | assumption | exact isSc1 | exact isSc3 | exact isSc5 | decide | omega) only [iX8_lays_51, iX8_lays_52, Nat.reduceAdd, Nat.reduceSub, Nat.reduceMul, Nat.reduceLeDiff, mm_rv_s, mm_rv_n, true_and, and_true, if_true, if_false, not_true_eq_false, not_false_eq_true, nI_add, nz_0, nz_lt0, nz_0le, nz_0lt, nz_le0, nz_lt, nz_le, nz_eq, nz_cl, nz_in, nz_sub, nz_m1, pk_mul, set_o, set_ne, up_ne, up_set, n1_1, true_or, or_true, n1_01, n0_01, bI_01, bI_01b, bI_0, isSc1, isSc3, isSc5, ln_2, ln_4, ln_6, ln_8, ln_10, ln_11, ln_12, ln_13, ln_14, ln_16, ln_17, ln_18, ln_19, ln_20, ln_21, ln_23, ln_24, ln_25, ln_27, ln_28, ln_29, ln_31, ln_32, ln_33, ln_35, ln_36, ln_37, s1]
        exact hbad (by omega)
      · simp (disch := first | assumption | exact isSc1 | exact isSc3 | exact isSc5 | decide | omega) only [iX8_lays_26, iX8_lays_28, iX8_lays_30, iX8_lays_31, iX8_lays_32, iX8_lays_35, iX8_lays_36, iX8_lays_37, Nat.reduceAdd, Nat.reduceSub, Nat.reduceMul, Nat.reduceLeDiff, mm_rv_s, mm_rv_n, true_and, and_true, if_true, if_false, not_true_eq_false, not_false_eq_true, nI_add, nz_0, nz_lt0, nz_0le, nz_0lt, nz_le0, nz_lt, nz_le, nz_eq, nz_cl, nz_in, nz_sub, nz_m1, pk_mul, set_o, set_ne, up_ne, up_set, n1_1, true_or, or_true, n1_01, n0_01, bI_01, bI_01b, bI_0, isSc1, isSc3, isSc5, ln_2, ln_4, ln_6, ln_8, ln_10, ln_11, ln_12, ln_13, ln_14, ln_16, ln_17, ln_18, ln_19, ln_20, ln_21, ln_23, ln_24, ln_25, ln_27, ln_28, ln_29, ln_31, ln_32, ln_33, ln_35, ln_36, ln_37, s1, c0]
        by_cases s2 : B < sB s + S
        · simp (disch := first | assumption | exact isSc1 | exact isSc3 | exact isSc5 | decide | omega) only [iX8_lays_51, iX8_lays_52, Nat.reduceAdd, Nat.reduceSub, Nat.reduceMul, Nat.reduceLeDiff, mm_rv_s, mm_rv_n, true_and, and_true, if_true, if_false, not_true_eq_false, not_false_eq_true, nI_add, nz_0, nz_lt0, nz_0le, nz_0lt, nz_le0, nz_lt, nz_le, nz_eq, nz_cl, nz_in, nz_sub, nz_m1, pk_mul, set_o, set_ne, up_ne, up_set, n1_1, true_or, or_true, n1_01, n0_01, bI_01, bI_01b, bI_0, isSc1, isSc3, isSc5, ln_2, ln_4, ln_6, ln_8, ln_10, ln_11, ln_12, ln_13, ln_14, ln_16, ln_17, ln_18, ln_19, ln_20, ln_21, ln_23, ln_24, ln_25, ln_27, ln_28, ln_29, ln_31, ln_32, ln_33, ln_35, ln_36, ln_37, s2]
          exact hbad (by omega)
        · simp (disch := first | assumption | exact isSc1 | exact isSc3 | exact isSc5 | decide | omega) only [iX8_lays_40, iX8_lays_41, iX8_lays_44, iX8_lays_45, iX8_lays_46, iX8_lays_48, iX8_lays_51, iX8_lays_52, iX8_lays_53, iX8_lays_54, iX8_lays_55, iX8_lays_57, iX8_lays_58, iX8_lays_59, iX8_lays_60, Nat.reduceAdd, Nat.reduceSub, Nat.reduceMul, Nat.reduceLeDiff, mm_rv_s, mm_rv_n, true_and, and_true, if_true, if_false, not_true_eq_false, not_false_eq_true, nI_add, nz_0, nz_lt0, nz_0le, nz_0lt, nz_le0, nz_lt, nz_le, nz_eq, nz_cl, nz_in, nz_sub, nz_m1, pk_mul, set_o, set_ne, up_ne, up_set, n1_1, true_or, or_true, n1_01, n0_01, bI_01, bI_01b, bI_0, isSc1, isSc3, isSc5, ln_2, ln_4, ln_6, ln_8, ln_10, ln_11, ln_12, ln_13, ln_14, ln_16, ln_17, ln_18, ln_19, ln_20, ln_21, ln_23, ln_24, ln_25, ln_27, ln_28, ln_29, ln_31, ln_32, ln_33, ln_35, ln_36, ln_37, s2, c2, show ¬ n = 60 by omega]
          by_cases k : sK s = 1
          · have := rest (nI 0) (fun _ => rfl) (fun z => absurd k z) (by omega)
            simp (disch := first | assumption | exact isSc1 | exact isSc3 | exact isSc5 | decide | omega) only [iX8_lays_63, iX8_lays_64, Nat.reduceAdd, Nat.reduceSub, Nat.reduceMul, Nat.reduceLeDiff, mm_rv_s, mm_rv_n, true_and, and_true, if_true, if_false, not_true_eq_false, not_false_eq_true, nI_add, nz_0, nz_lt0, nz_0le, nz_0lt, nz_le0, nz_lt, nz_le, nz_eq, nz_cl, nz_in, nz_sub, nz_m1, pk_mul, set_o, set_ne, up_ne, up_set, n1_1, true_or, or_true, n1_01, n0_01, bI_01, bI_01b, bI_0, isSc1, isSc3, isSc5, ln_2, ln_4, ln_6, ln_8, ln_10, ln_11, ln_12, ln_13, ln_14, ln_16, ln_17, ln_18, ln_19, ln_20, ln_21, ln_23, ln_24, ln_25, ln_27, ln_28, ln_29, ln_31, ln_32, ln_33, ln_35, ln_36, ln_37, k] at this ⊢
            exact this
          · rcases hlv with ⟨z, _⟩ | ⟨_, z1, z2⟩
            · exact absurd z k
            · have z3 : lv = nI (sN s) := by
                rcases z2 with ⟨_, z4⟩ | z4
                · omega
                · rw [z4, z1]
              have := rest lv (fun z => absurd z k) (fun _ => z3) (by omega)
              simp (disch := first | assumption | exact isSc1 | exact isSc3 | exact isSc5 | decide | omega) only [iX8_lays_67, Nat.reduceAdd, Nat.reduceSub, Nat.reduceMul, Nat.reduceLeDiff, mm_rv_s, mm_rv_n, true_and, and_true, if_true, if_false, not_true_eq_false, not_false_eq_true, nI_add, nz_0, nz_lt0, nz_0le, nz_0lt, nz_le0, nz_lt, nz_le, nz_eq, nz_cl, nz_in, nz_sub, nz_m1, pk_mul, set_o, set_ne, up_ne, up_set, n1_1, true_or, or_true, n1_01, n0_01, bI_01, bI_01b, bI_0, isSc1, isSc3, isSc5, ln_2, ln_4, ln_6, ln_8, ln_10, ln_11, ln_12, ln_13, ln_14, ln_16, ln_17, ln_18, ln_19, ln_20, ln_21, ln_23, ln_24, ln_25, ln_27, ln_28, ln_29, ln_31, ln_32, ln_33, ln_35, ln_36, ln_37, k] at this ⊢
              exact this
    · simp (disch := first | assumption | exact isSc1 | exact isSc3 | exact isSc5 | decide | omega) only [iX8_lays_20, iX8_lays_22, iX8_lays_23, iX8_lays_51, iX8_lays_52, lt, if_true, n0_01, true_and]
      exact hbad (by omega)
  simp (disch := first | assumption | exact isSc1 | exact isSc3 | exact isSc5 | decide | omega) only [eX8_lays, iX8_lays_0, iX8_lays_1, iX8_lays_4, iX8_lays_5, iX8_lays_6, iX8_lays_8, iX8_lays_9, iX8_lays_10, Nat.reduceAdd, Nat.reduceSub, Nat.reduceMul, Nat.reduceLeDiff, mm_rv_s, mm_rv_n, true_and, and_true, if_true, if_false, not_true_eq_false, not_false_eq_true, nI_add, nz_0, nz_lt0, nz_0le, nz_0lt, nz_le0, nz_lt, nz_le, nz_eq, nz_cl, nz_in, nz_sub, nz_m1, pk_mul, set_o, set_ne, up_ne, up_set, n1_1, true_or, or_true, n1_01, n0_01, bI_01, bI_01b, bI_0, isSc1, isSc3, isSc5, ln_2, ln_4, ln_6, ln_8, ln_10, ln_11, ln_12, ln_13, ln_14, ln_16, ln_17, ln_18, ln_19, ln_20, ln_21, ln_23, ln_24, ln_25, ln_27, ln_28, ln_29, ln_31, ln_32, ln_33, ln_35, ln_36, ln_37, h35]
  by_cases k : sK s = 1
  · rcases hlv with ⟨_, z, _⟩ | ⟨z, _⟩
    · have := mid (nI 1) (Or.inl (by rw [z]))
      simp (disch := first | assumption | exact isSc1 | exact isSc3 | exact isSc5 | decide | omega) only [iX8_lays_13, iX8_lays_14, iX8_lays_17, iX8_lays_18, Nat.reduceAdd, Nat.reduceSub, Nat.reduceMul, Nat.reduceLeDiff, mm_rv_s, mm_rv_n, true_and, and_true, if_true, if_false, not_true_eq_false, not_false_eq_true, nI_add, nz_0, nz_lt0, nz_0le, nz_0lt, nz_le0, nz_lt, nz_le, nz_eq, nz_cl, nz_in, nz_sub, nz_m1, pk_mul, set_o, set_ne, up_ne, up_set, n1_1, true_or, or_true, n1_01, n0_01, bI_01, bI_01b, bI_0, isSc1, isSc3, isSc5, ln_2, ln_4, ln_6, ln_8, ln_10, ln_11, ln_12, ln_13, ln_14, ln_16, ln_17, ln_18, ln_19, ln_20, ln_21, ln_23, ln_24, ln_25, ln_27, ln_28, ln_29, ln_31, ln_32, ln_33, ln_35, ln_36, ln_37, k] at this ⊢
      exact this
    · exact absurd k z
  · rcases hlv with ⟨z, _⟩ | ⟨_, z1, z2⟩
    · exact absurd z k
    · have := mid lv (by rcases z2 with z | z; exact Or.inr z; exact Or.inl z)
      simp (disch := first | assumption | exact isSc1 | exact isSc3 | exact isSc5 | decide | omega) only [iX8_lays_17, iX8_lays_18, Nat.reduceAdd, Nat.reduceSub, Nat.reduceMul, Nat.reduceLeDiff, mm_rv_s, mm_rv_n, true_and, and_true, if_true, if_false, not_true_eq_false, not_false_eq_true, nI_add, nz_0, nz_lt0, nz_0le, nz_0lt, nz_le0, nz_lt, nz_le, nz_eq, nz_cl, nz_in, nz_sub, nz_m1, pk_mul, set_o, set_ne, up_ne, up_set, n1_1, true_or, or_true, n1_01, n0_01, bI_01, bI_01b, bI_0, isSc1, isSc3, isSc5, ln_2, ln_4, ln_6, ln_8, ln_10, ln_11, ln_12, ln_13, ln_14, ln_16, ln_17, ln_18, ln_19, ln_20, ln_21, ln_23, ln_24, ln_25, ln_27, ln_28, ln_29, ln_31, ln_32, ln_33, ln_35, ln_36, ln_37, k] at this ⊢
      exact this
end TM
