/-! THE TEXT: characters, digits, lengths -/
def hcN (t : Nat) (c : Nat → Nat) (p : Nat) : Nat := if p < t then c p else 0
def hI (t : Nat) (c : Nat → Nat) (p : Nat) : Int32 := if p < t then nI (c p) else -1
def dgN (t : Nat) (c : Nat → Nat) (p : Nat) : Nat := if 48 ≤ hcN t c p ∧ hcN t c p ≤ 57 then hcN t c p - 48 else 10
def dI (t : Nat) (c : Nat → Nat) (p : Nat) : Int32 := if dgN t c p = 10 then -1 else nI (dgN t c p)
def lenV (t : Nat) (c : Nat → Nat) (p : Nat) : Nat := if dgN t c p = 10 then 0 else if dgN t c (p + 1) = 10 then dgN t c p else dgN t c p * 10 + dgN t c (p + 1)
def lenP (t : Nat) (c : Nat → Nat) (p : Nat) : Nat := if dgN t c p = 10 then p else if dgN t c (p + 1) = 10 then p + 1 else p + 2
def lvN (t : Nat) (c : Nat → Nat) (p : Nat) : Nat := if hcN t c p = 108 then 0 else if hcN t c p = 110 then 1 else if hcN t c p = 104 then 2 else 3
def okT (t : Nat) (c : Nat → Nat) : Prop := t ≤ 120 ∧ ∀ i, i < t → 32 ≤ c i ∧ c i ≤ 126
theorem dgN_le (t : Nat) (c : Nat → Nat) (p : Nat) : dgN t c p ≤ 10 := by unfold dgN; split <;> omega
theorem lvN_le (t : Nat) (c : Nat → Nat) (p : Nat) : lvN t c p ≤ 3 := by unfold lvN; split; omega; split; omega; split <;> omega
theorem dgN_nine (t : Nat) (c : Nat → Nat) (p : Nat) (h : dgN t c p ≠ 10) : dgN t c p ≤ 9 := by have := dgN_le t c p; omega
theorem lenV_le (t : Nat) (c : Nat → Nat) (p : Nat) : lenV t c p ≤ 99 := by
  have a := dgN_nine t c p
  have b := dgN_nine t c (p + 1)
  unfold lenV
  split
  · omega
  · split <;> omega
theorem lenP_le (t : Nat) (c : Nat → Nat) (p : Nat) : p ≤ lenP t c p ∧ lenP t c p ≤ p + 2 := by
  unfold lenP
  split
  · omega
  · split <;> omega
theorem hcN_le {t : Nat} {c : Nat → Nat} (h : okT t c) (p : Nat) : hcN t c p ≤ 126 := by
  unfold hcN
  split
  · exact (h.2 _ (by assumption)).2
  · omega
/-- a character is the wanted one -/
theorem hI_eq {t : Nat} {c : Nat → Nat} (h : okT t c) (p : Nat) {k : Nat} (h1 : 1 ≤ k) (h2 : k < 200) : (hI t c p = nI k) = (hcN t c p = k) := by
  unfold hI hcN
  by_cases hp : p < t
  · have := h.2 p hp
    rw [if_pos hp, if_pos hp]
    exact nz_eq _ _ (by omega) (by omega)
  · rw [if_neg hp, if_neg hp]
    have e : ((-1 : Int32) = nI k) = False := by
      have := nz_ne1 k (by omega)
      simp only [eq_iff_iff, iff_false] at this ⊢
      exact fun z => this z.symm
    rw [e]
    simp
    omega
theorem hI_le {t : Nat} {c : Nat → Nat} (h : okT t c) (p : Nat) {k : Nat} (h2 : k < 200) : (hI t c p ≤ nI k) = (hcN t c p ≤ k) := by
  unfold hI hcN
  by_cases hp : p < t
  · have := h.2 p hp
    rw [if_pos hp, if_pos hp]
    exact nz_le _ _ (by omega) (by omega)
  · rw [if_neg hp, if_neg hp]
    have e : (-1 : Int32) ≤ nI k := by
      rw [Int32.le_iff_toInt_le, nI_toInt (by omega)]
      have : (-1 : Int32).toInt = -1 := by decide
      omega
    simp [e]
theorem hI_ge {t : Nat} {c : Nat → Nat} (h : okT t c) (p : Nat) {k : Nat} (h1 : 1 ≤ k) (h2 : k < 200) : (nI k ≤ hI t c p) = (k ≤ hcN t c p) := by
  unfold hI hcN
  by_cases hp : p < t
  · have := h.2 p hp
    rw [if_pos hp, if_pos hp]
    exact nz_le _ _ (by omega) (by omega)
  · rw [if_neg hp, if_neg hp]
    have e : ¬ nI k ≤ (-1 : Int32) := by
      rw [Int32.le_iff_toInt_le, nI_toInt (by omega)]
      have : (-1 : Int32).toInt = -1 := by decide
      omega
    simp [e]
    omega
theorem hI_sub {t : Nat} {c : Nat → Nat} (p : Nat) (h1 : 48 ≤ hcN t c p) : hI t c p - nI 48 = nI (hcN t c p - 48) := by
  unfold hcN at h1 ⊢
  unfold hI
  by_cases hp : p < t
  · rw [if_pos hp] at h1 ⊢
    rw [if_pos hp]
    exact nz_sub _ _ h1
  · rw [if_neg hp] at h1
    omega
section TX
variable {M : mm_M} {Q : mm_Q} {t : Nat} {c : Nat → Nat}
/-- the class's text -/
def Rx (M : mm_M) (t : Nat) (c : Nat → Nat) : Prop := M 26 0 = nI t ∧ okT t c ∧ ∀ i, i < t → M 27 i = nI (c i)
def atP (M : mm_M) (p : Nat) : mm_M := mm_up M 26 1 (nI p)
theorem atP_0 (p : Nat) : atP M p 26 0 = M 26 0 := by simp [atP, mm_up, upd]
theorem atP_1 (p : Nat) : atP M p 26 1 = nI p := by simp [atP, mm_up, upd]
theorem atP_ne {q : Nat} (p : Nat) (h : q ≠ 26) : atP M p q = M q := up_ne _ _ _ h
theorem atP_at (p p' : Nat) : mm_up (atP M p) 26 1 (nI p') = atP M p' := by
  funext q k
  by_cases h : q = 26
  · subst h
    by_cases h2 : k = 1 <;> simp [atP, mm_up, upd, h2]
  · simp [atP, mm_up, h]
theorem atP_self {p : Nat} (h : M 26 1 = nI p) : atP M p = M := by
  funext q k
  by_cases hq : q = 26
  · subst hq
    by_cases h2 : k = 1
    · subst h2; simp [atP, mm_up, upd, h]
    · simp [atP, mm_up, upd, h2]
  · simp [atP, mm_up, hq]
theorem p_digitAt (hR : Rx M t c) {q : Nat} (p : Nat) (hq : q ≤ 400) : wc 27 [.inr 26, .inl (nI q)] (atP M p) Q ↔ Q (some (dI t c q)) (atP M p) := by
  obtain ⟨r1, r2, r3⟩ := hR
  have ht := r2.1
  have tail : ∀ v, v = hI t c q → (wp 27 18 [some (.inr 26), some (.inl (nI q)), none] [.inl v] (atP M p) Q ↔ Q (some (dI t c q)) (atP M p)) := by
    intro v hv
    subst hv
    simp (disch := first | assumption | exact isSc1 | exact isSc3 | exact isSc5 | decide | omega) only [iX3_digitAt_18, iX3_digitAt_19, iX3_digitAt_20, iX3_digitAt_22, iX3_digitAt_25, iX3_digitAt_26, iX3_digitAt_28, iX3_digitAt_31, iX3_digitAt_32, iX3_digitAt_34, iX3_digitAt_35, iX3_digitAt_38, iX3_digitAt_39, i_lt, hI_ge r2, hI_le r2]
    unfold dI dgN
    by_cases h1 : 48 ≤ hcN t c q
    · by_cases h2 : hcN t c q ≤ 57
      · have : ¬ hcN t c q - 48 = 10 := by omega
        simp [h1, h2, this, hI_sub q h1]
      · simp [h1, h2]
    · simp [h1]
  simp (disch := first | assumption | exact isSc1 | exact isSc3 | exact isSc5 | decide | omega) only [eX3_digitAt, iX3_digitAt_0, iX3_digitAt_1, iX3_digitAt_2, iX3_digitAt_5, Nat.reduceAdd, Nat.reduceSub, Nat.reduceMul, Nat.reduceLeDiff, mm_rv_s, mm_rv_n, true_and, and_true, if_true, if_false, not_true_eq_false, not_false_eq_true, nI_add, nz_0, nz_lt0, nz_0le, nz_0lt, nz_le0, nz_lt, nz_le, nz_eq, nz_cl, nz_in, nz_sub, nz_m1, pk_mul, set_o, set_ne, up_ne, up_set, n1_1, true_or, or_true, n1_01, n0_01, bI_01, bI_01b, bI_0, isSc1, isSc3, isSc5, ln_2, ln_4, ln_6, ln_8, ln_10, ln_11, ln_12, ln_13, ln_14, ln_16, ln_17, ln_18, ln_19, ln_20, ln_21, ln_23, ln_24, ln_25, ln_27, ln_28, ln_29, atP_0, r1]
  by_cases hqt : q < t
  · have e27 : atP M p 27 q = nI (c q) := by rw [atP_ne _ (by decide), r3 q hqt]
    simp (disch := first | assumption | exact isSc1 | exact isSc3 | exact isSc5 | decide | omega) only [iX3_digitAt_8, iX3_digitAt_9, iX3_digitAt_12, iX3_digitAt_13, iX3_digitAt_14, iX3_digitAt_17, Nat.reduceAdd, Nat.reduceSub, Nat.reduceMul, Nat.reduceLeDiff, mm_rv_s, mm_rv_n, true_and, and_true, if_true, if_false, not_true_eq_false, not_false_eq_true, nI_add, nz_0, nz_lt0, nz_0le, nz_0lt, nz_le0, nz_lt, nz_le, nz_eq, nz_cl, nz_in, nz_sub, nz_m1, pk_mul, set_o, set_ne, up_ne, up_set, n1_1, true_or, or_true, n1_01, n0_01, bI_01, bI_01b, bI_0, isSc1, isSc3, isSc5, ln_2, ln_4, ln_6, ln_8, ln_10, ln_11, ln_12, ln_13, ln_14, ln_16, ln_17, ln_18, ln_19, ln_20, ln_21, ln_23, ln_24, ln_25, ln_27, ln_28, ln_29, show ¬ t ≤ q by omega, e27]
    exact tail _ (by unfold hI; rw [if_pos hqt])
  · simp (disch := first | assumption | exact isSc1 | exact isSc3 | exact isSc5 | decide | omega) only [iX3_digitAt_8, iX3_digitAt_9, iX3_digitAt_12, iX3_digitAt_13, iX3_digitAt_14, iX3_digitAt_17, Nat.reduceAdd, Nat.reduceSub, Nat.reduceMul, Nat.reduceLeDiff, mm_rv_s, mm_rv_n, true_and, and_true, if_true, if_false, not_true_eq_false, not_false_eq_true, nI_add, nz_0, nz_lt0, nz_0le, nz_0lt, nz_le0, nz_lt, nz_le, nz_eq, nz_cl, nz_in, nz_sub, nz_m1, pk_mul, set_o, set_ne, up_ne, up_set, n1_1, true_or, or_true, n1_01, n0_01, bI_01, bI_01b, bI_0, isSc1, isSc3, isSc5, ln_2, ln_4, ln_6, ln_8, ln_10, ln_11, ln_12, ln_13, ln_14, ln_16, ln_17, ln_18, ln_19, ln_20, ln_21, ln_23, ln_24, ln_25, ln_27, ln_28, ln_29, show t ≤ q by omega]
    exact tail _ (by unfold hI; rw [if_neg hqt])
theorem p_readCharacter (hR : Rx M t c) {p : Nat} (hp : p ≤ 400) : wc 26 [.inr 26] (atP M p) Q ↔ Q (some (hI t c p)) (atP M (p + 1)) := by
  obtain ⟨r1, r2, r3⟩ := hR
  have ht := r2.1
  simp (disch := first | assumption | exact isSc1 | exact isSc3 | exact isSc5 | decide | omega) only [eX3_readCharacter, iX3_readCharacter_0, iX3_readCharacter_1, iX3_readCharacter_4, iX3_readCharacter_5, iX3_readCharacter_8, Nat.reduceAdd, Nat.reduceSub, Nat.reduceMul, Nat.reduceLeDiff, mm_rv_s, mm_rv_n, true_and, and_true, if_true, if_false, not_true_eq_false, not_false_eq_true, nI_add, nz_0, nz_lt0, nz_0le, nz_0lt, nz_le0, nz_lt, nz_le, nz_eq, nz_cl, nz_in, nz_sub, nz_m1, pk_mul, set_o, set_ne, up_ne, up_set, n1_1, true_or, or_true, n1_01, n0_01, bI_01, bI_01b, bI_0, isSc1, isSc3, isSc5, ln_2, ln_4, ln_6, ln_8, ln_10, ln_11, ln_12, ln_13, ln_14, ln_16, ln_17, ln_18, ln_19, ln_20, ln_21, ln_23, ln_24, ln_25, ln_27, ln_28, ln_29, atP_0, atP_1, r1]
  unfold hI
  by_cases hqt : p < t
  · have e27 : atP M p 27 p = nI (c p) := by rw [atP_ne _ (by decide), r3 p hqt]
    simp (disch := first | assumption | exact isSc1 | exact isSc3 | exact isSc5 | decide | omega) only [iX3_readCharacter_11, iX3_readCharacter_12, iX3_readCharacter_15, iX3_readCharacter_16, iX3_readCharacter_19, iX3_readCharacter_20, iX3_readCharacter_23, iX3_readCharacter_24, iX3_readCharacter_25, iX3_readCharacter_26, iX3_readCharacter_27, iX3_readCharacter_30, iX3_readCharacter_31, iX3_readCharacter_32, iX3_readCharacter_35, iX3_readCharacter_36, Nat.reduceAdd, Nat.reduceSub, Nat.reduceMul, Nat.reduceLeDiff, mm_rv_s, mm_rv_n, true_and, and_true, if_true, if_false, not_true_eq_false, not_false_eq_true, nI_add, nz_0, nz_lt0, nz_0le, nz_0lt, nz_le0, nz_lt, nz_le, nz_eq, nz_cl, nz_in, nz_sub, nz_m1, pk_mul, set_o, set_ne, up_ne, up_set, n1_1, true_or, or_true, n1_01, n0_01, bI_01, bI_01b, bI_0, isSc1, isSc3, isSc5, ln_2, ln_4, ln_6, ln_8, ln_10, ln_11, ln_12, ln_13, ln_14, ln_16, ln_17, ln_18, ln_19, ln_20, ln_21, ln_23, ln_24, ln_25, ln_27, ln_28, ln_29, show ¬ t ≤ p by omega, e27, atP_1, atP_at, hqt]
  · simp (disch := first | assumption | exact isSc1 | exact isSc3 | exact isSc5 | decide | omega) only [iX3_readCharacter_11, iX3_readCharacter_12, iX3_readCharacter_15, iX3_readCharacter_16, iX3_readCharacter_19, iX3_readCharacter_20, iX3_readCharacter_23, iX3_readCharacter_24, iX3_readCharacter_25, iX3_readCharacter_26, iX3_readCharacter_27, iX3_readCharacter_30, iX3_readCharacter_31, iX3_readCharacter_32, iX3_readCharacter_35, iX3_readCharacter_36, Nat.reduceAdd, Nat.reduceSub, Nat.reduceMul, Nat.reduceLeDiff, mm_rv_s, mm_rv_n, true_and, and_true, if_true, if_false, not_true_eq_false, not_false_eq_true, nI_add, nz_0, nz_lt0, nz_0le, nz_0lt, nz_le0, nz_lt, nz_le, nz_eq, nz_cl, nz_in, nz_sub, nz_m1, pk_mul, set_o, set_ne, up_ne, up_set, n1_1, true_or, or_true, n1_01, n0_01, bI_01, bI_01b, bI_0, isSc1, isSc3, isSc5, ln_2, ln_4, ln_6, ln_8, ln_10, ln_11, ln_12, ln_13, ln_14, ln_16, ln_17, ln_18, ln_19, ln_20, ln_21, ln_23, ln_24, ln_25, ln_27, ln_28, ln_29, show t ≤ p by omega, atP_1, atP_at, hqt]
theorem p_readDigit (hR : Rx M t c) {p : Nat} (hp : p ≤ 400) : wc 25 [.inr 26] (atP M p) Q ↔ Q (some (dI t c p)) (atP M (p + 1)) := by
  simp (disch := first | assumption | exact isSc1 | exact isSc3 | exact isSc5 | decide | omega) only [eX3_readDigit, iX3_readDigit_0, iX3_readDigit_1, iX3_readDigit_2, iX3_readDigit_5, iX3_readDigit_8, iX3_readDigit_9, iX3_readDigit_10, iX3_readDigit_11, iX3_readDigit_14, iX3_readDigit_15, iX3_readDigit_16, iX3_readDigit_19, iX3_readDigit_20, Nat.reduceAdd, Nat.reduceSub, Nat.reduceMul, Nat.reduceLeDiff, mm_rv_s, mm_rv_n, true_and, and_true, if_true, if_false, not_true_eq_false, not_false_eq_true, nI_add, nz_0, nz_lt0, nz_0le, nz_0lt, nz_le0, nz_lt, nz_le, nz_eq, nz_cl, nz_in, nz_sub, nz_m1, pk_mul, set_o, set_ne, up_ne, up_set, n1_1, true_or, or_true, n1_01, n0_01, bI_01, bI_01b, bI_0, isSc1, isSc3, isSc5, ln_2, ln_4, ln_6, ln_8, ln_10, ln_11, ln_12, ln_13, ln_14, ln_16, ln_17, ln_18, ln_19, ln_20, ln_21, ln_23, ln_24, ln_25, ln_27, ln_28, ln_29, atP_1, atP_at, p_digitAt hR p hp]
theorem dI_m1 (p : Nat) : (dI t c p = -1) = (dgN t c p = 10) := by
  unfold dI
  by_cases h : dgN t c p = 10
  · simp [h]
  · have := dgN_le t c p
    simp [h, nz_ne1 (dgN t c p) (by omega)]
theorem p_readLength (hR : Rx M t c) {p : Nat} (hp : p ≤ 300) : wc 24 [.inr 26] (atP M p) Q ↔ Q (some (nI (lenV t c p))) (atP M (lenP t c p)) := by
  have b1 := dgN_le t c p
  have b2 := dgN_le t c (p + 1)
  simp (disch := first | assumption | exact isSc1 | exact isSc3 | exact isSc5 | decide | omega) only [eX3_readLength, iX3_readLength_0, iX3_readLength_1, iX3_readLength_2, iX3_readLength_5, iX3_readLength_8, iX3_readLength_9, iX3_readLength_10, iX3_readLength_11, Nat.reduceAdd, Nat.reduceSub, Nat.reduceMul, Nat.reduceLeDiff, mm_rv_s, mm_rv_n, true_and, and_true, if_true, if_false, not_true_eq_false, not_false_eq_true, nI_add, nz_0, nz_lt0, nz_0le, nz_0lt, nz_le0, nz_lt, nz_le, nz_eq, nz_cl, nz_in, nz_sub, nz_m1, pk_mul, set_o, set_ne, up_ne, up_set, n1_1, true_or, or_true, n1_01, n0_01, bI_01, bI_01b, bI_0, isSc1, isSc3, isSc5, ln_2, ln_4, ln_6, ln_8, ln_10, ln_11, ln_12, ln_13, ln_14, ln_16, ln_17, ln_18, ln_19, ln_20, ln_21, ln_23, ln_24, ln_25, ln_27, ln_28, ln_29, atP_1, p_digitAt hR p (show p ≤ 400 by omega), dI_m1]
  unfold lenV lenP
  by_cases h1 : dgN t c p = 10
  · simp (disch := first | assumption | exact isSc1 | exact isSc3 | exact isSc5 | decide | omega) only [iX3_readLength_14, iX3_readLength_15, Nat.reduceAdd, Nat.reduceSub, Nat.reduceMul, Nat.reduceLeDiff, mm_rv_s, mm_rv_n, true_and, and_true, if_true, if_false, not_true_eq_false, not_false_eq_true, nI_add, nz_0, nz_lt0, nz_0le, nz_0lt, nz_le0, nz_lt, nz_le, nz_eq, nz_cl, nz_in, nz_sub, nz_m1, pk_mul, set_o, set_ne, up_ne, up_set, n1_1, true_or, or_true, n1_01, n0_01, bI_01, bI_01b, bI_0, isSc1, isSc3, isSc5, ln_2, ln_4, ln_6, ln_8, ln_10, ln_11, ln_12, ln_13, ln_14, ln_16, ln_17, ln_18, ln_19, ln_20, ln_21, ln_23, ln_24, ln_25, ln_27, ln_28, ln_29, h1]
  · simp (disch := first | assumption | exact isSc1 | exact isSc3 | exact isSc5 | decide | omega) only [iX3_readLength_16, iX3_readLength_17, iX3_readLength_18, iX3_readLength_21, iX3_readLength_22, iX3_readLength_23, iX3_readLength_26, iX3_readLength_27, iX3_readLength_28, iX3_readLength_31, iX3_readLength_34, iX3_readLength_35, iX3_readLength_36, iX3_readLength_37, Nat.reduceAdd, Nat.reduceSub, Nat.reduceMul, Nat.reduceLeDiff, mm_rv_s, mm_rv_n, true_and, and_true, if_true, if_false, not_true_eq_false, not_false_eq_true, nI_add, nz_0, nz_lt0, nz_0le, nz_0lt, nz_le0, nz_lt, nz_le, nz_eq, nz_cl, nz_in, nz_sub, nz_m1, pk_mul, set_o, set_ne, up_ne, up_set, n1_1, true_or, or_true, n1_01, n0_01, bI_01, bI_01b, bI_0, isSc1, isSc3, isSc5, ln_2, ln_4, ln_6, ln_8, ln_10, ln_11, ln_12, ln_13, ln_14, ln_16, ln_17, ln_18, ln_19, ln_20, ln_21, ln_23, ln_24, ln_25, ln_27, ln_28, ln_29, h1, atP_1, atP_at, p_digitAt hR (p + 1) (show p + 1 ≤ 400 by omega), dI_m1]
    by_cases h2 : dgN t c (p + 1) = 10
    · simp (disch := first | assumption | exact isSc1 | exact isSc3 | exact isSc5 | decide | omega) only [iX3_readLength_40, iX3_readLength_41, Nat.reduceAdd, Nat.reduceSub, Nat.reduceMul, Nat.reduceLeDiff, mm_rv_s, mm_rv_n, true_and, and_true, if_true, if_false, not_true_eq_false, not_false_eq_true, nI_add, nz_0, nz_lt0, nz_0le, nz_0lt, nz_le0, nz_lt, nz_le, nz_eq, nz_cl, nz_in, nz_sub, nz_m1, pk_mul, set_o, set_ne, up_ne, up_set, n1_1, true_or, or_true, n1_01, n0_01, bI_01, bI_01b, bI_0, isSc1, isSc3, isSc5, ln_2, ln_4, ln_6, ln_8, ln_10, ln_11, ln_12, ln_13, ln_14, ln_16, ln_17, ln_18, ln_19, ln_20, ln_21, ln_23, ln_24, ln_25, ln_27, ln_28, ln_29, h2]
      unfold dI
      rw [if_neg h1]
    · simp (disch := first | assumption | exact isSc1 | exact isSc3 | exact isSc5 | decide | omega) only [iX3_readLength_42, iX3_readLength_43, iX3_readLength_44, iX3_readLength_47, iX3_readLength_48, iX3_readLength_49, iX3_readLength_52, iX3_readLength_53, iX3_readLength_55, iX3_readLength_56, iX3_readLength_57, iX3_readLength_58, Nat.reduceAdd, Nat.reduceSub, Nat.reduceMul, Nat.reduceLeDiff, mm_rv_s, mm_rv_n, true_and, and_true, if_true, if_false, not_true_eq_false, not_false_eq_true, nI_add, nz_0, nz_lt0, nz_0le, nz_0lt, nz_le0, nz_lt, nz_le, nz_eq, nz_cl, nz_in, nz_sub, nz_m1, pk_mul, set_o, set_ne, up_ne, up_set, n1_1, true_or, or_true, n1_01, n0_01, bI_01, bI_01b, bI_0, isSc1, isSc3, isSc5, ln_2, ln_4, ln_6, ln_8, ln_10, ln_11, ln_12, ln_13, ln_14, ln_16, ln_17, ln_18, ln_19, ln_20, ln_21, ln_23, ln_24, ln_25, ln_27, ln_28, ln_29, h2, atP_1, atP_at]
      unfold dI
      rw [if_neg h1, if_neg h2]
      simp (disch := first | assumption | exact isSc1 | exact isSc3 | exact isSc5 | decide | omega) only [Nat.reduceAdd, Nat.reduceSub, Nat.reduceMul, Nat.reduceLeDiff, mm_rv_s, mm_rv_n, true_and, and_true, if_true, if_false, not_true_eq_false, not_false_eq_true, nI_add, nz_0, nz_lt0, nz_0le, nz_0lt, nz_le0, nz_lt, nz_le, nz_eq, nz_cl, nz_in, nz_sub, nz_m1, pk_mul, set_o, set_ne, up_ne, up_set, n1_1, true_or, or_true, n1_01, n0_01, bI_01, bI_01b, bI_0, isSc1, isSc3, isSc5, ln_2, ln_4, ln_6, ln_8, ln_10, ln_11, ln_12, ln_13, ln_14, ln_16, ln_17, ln_18, ln_19, ln_20, ln_21, ln_23, ln_24, ln_25, ln_27, ln_28, ln_29, Nat.add_assoc]
theorem p_levelNamed (h : okT t c) (p : Nat) : wc 23 [.inl (hI t c p)] M Q ↔ Q (some (if lvN t c p = 3 then -1 else nI (lvN t c p))) M := by
  simp (disch := first | assumption | exact isSc1 | exact isSc3 | exact isSc5 | decide | omega) only [eX3_levelNamed, iX3_levelNamed_0, iX3_levelNamed_1, wsw_n, wsw_c, hI_eq h]
  unfold lvN
  by_cases a1 : hcN t c p = 104
  · simp (disch := first | assumption | exact isSc1 | exact isSc3 | exact isSc5 | decide | omega) only [iX3_levelNamed_0, iX3_levelNamed_1, iX3_levelNamed_36, iX3_levelNamed_37, iX3_levelNamed_38, iX3_levelNamed_39, iX3_levelNamed_40, iX3_levelNamed_41, iX3_levelNamed_42, iX3_levelNamed_43, Nat.reduceAdd, Nat.reduceSub, Nat.reduceMul, Nat.reduceLeDiff, mm_rv_s, mm_rv_n, true_and, and_true, if_true, if_false, not_true_eq_false, not_false_eq_true, nI_add, nz_0, nz_lt0, nz_0le, nz_0lt, nz_le0, nz_lt, nz_le, nz_eq, nz_cl, nz_in, nz_sub, nz_m1, pk_mul, set_o, set_ne, up_ne, up_set, n1_1, true_or, or_true, n1_01, n0_01, bI_01, bI_01b, bI_0, isSc1, isSc3, isSc5, ln_2, ln_4, ln_6, ln_8, ln_10, ln_11, ln_12, ln_13, ln_14, ln_16, ln_17, ln_18, ln_19, ln_20, ln_21, ln_23, ln_24, ln_25, ln_27, ln_28, ln_29, a1, Nat.reduceEqDiff]
  · by_cases a2 : hcN t c p = 108
    · simp (disch := first | assumption | exact isSc1 | exact isSc3 | exact isSc5 | decide | omega) only [iX3_levelNamed_0, iX3_levelNamed_1, iX3_levelNamed_36, iX3_levelNamed_37, iX3_levelNamed_38, iX3_levelNamed_39, iX3_levelNamed_40, iX3_levelNamed_41, iX3_levelNamed_42, iX3_levelNamed_43, Nat.reduceAdd, Nat.reduceSub, Nat.reduceMul, Nat.reduceLeDiff, mm_rv_s, mm_rv_n, true_and, and_true, if_true, if_false, not_true_eq_false, not_false_eq_true, nI_add, nz_0, nz_lt0, nz_0le, nz_0lt, nz_le0, nz_lt, nz_le, nz_eq, nz_cl, nz_in, nz_sub, nz_m1, pk_mul, set_o, set_ne, up_ne, up_set, n1_1, true_or, or_true, n1_01, n0_01, bI_01, bI_01b, bI_0, isSc1, isSc3, isSc5, ln_2, ln_4, ln_6, ln_8, ln_10, ln_11, ln_12, ln_13, ln_14, ln_16, ln_17, ln_18, ln_19, ln_20, ln_21, ln_23, ln_24, ln_25, ln_27, ln_28, ln_29, a2, Nat.reduceEqDiff, show ¬ 0 = 3 by decide]
    · by_cases a3 : hcN t c p = 110
      · simp (disch := first | assumption | exact isSc1 | exact isSc3 | exact isSc5 | decide | omega) only [iX3_levelNamed_0, iX3_levelNamed_1, iX3_levelNamed_36, iX3_levelNamed_37, iX3_levelNamed_38, iX3_levelNamed_39, iX3_levelNamed_40, iX3_levelNamed_41, iX3_levelNamed_42, iX3_levelNamed_43, Nat.reduceAdd, Nat.reduceSub, Nat.reduceMul, Nat.reduceLeDiff, mm_rv_s, mm_rv_n, true_and, and_true, if_true, if_false, not_true_eq_false, not_false_eq_true, nI_add, nz_0, nz_lt0, nz_0le, nz_0lt, nz_le0, nz_lt, nz_le, nz_eq, nz_cl, nz_in, nz_sub, nz_m1, pk_mul, set_o, set_ne, up_ne, up_set, n1_1, true_or, or_true, n1_01, n0_01, bI_01, bI_01b, bI_0, isSc1, isSc3, isSc5, ln_2, ln_4, ln_6, ln_8, ln_10, ln_11, ln_12, ln_13, ln_14, ln_16, ln_17, ln_18, ln_19, ln_20, ln_21, ln_23, ln_24, ln_25, ln_27, ln_28, ln_29, a3, Nat.reduceEqDiff, show ¬ 1 = 3 by decide]
      · simp (disch := first | assumption | exact isSc1 | exact isSc3 | exact isSc5 | decide | omega) only [iX3_levelNamed_0, iX3_levelNamed_1, iX3_levelNamed_36, iX3_levelNamed_37, iX3_levelNamed_38, iX3_levelNamed_39, iX3_levelNamed_40, iX3_levelNamed_41, iX3_levelNamed_42, iX3_levelNamed_43, Nat.reduceAdd, Nat.reduceSub, Nat.reduceMul, Nat.reduceLeDiff, mm_rv_s, mm_rv_n, true_and, and_true, if_true, if_false, not_true_eq_false, not_false_eq_true, nI_add, nz_0, nz_lt0, nz_0le, nz_0lt, nz_le0, nz_lt, nz_le, nz_eq, nz_cl, nz_in, nz_sub, nz_m1, pk_mul, set_o, set_ne, up_ne, up_set, n1_1, true_or, or_true, n1_01, n0_01, bI_01, bI_01b, bI_0, isSc1, isSc3, isSc5, ln_2, ln_4, ln_6, ln_8, ln_10, ln_11, ln_12, ln_13, ln_14, ln_16, ln_17, ln_18, ln_19, ln_20, ln_21, ln_23, ln_24, ln_25, ln_27, ln_28, ln_29, a1, a2, a3]
end TX

