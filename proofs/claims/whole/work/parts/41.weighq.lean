/-! WHAT IS ASKED OF THE WEIGHT -/
def wrB (B L n : Nat) (g : Nat → Sg) (t : Nat) : Bool := decide (twN B n g t ≠ 0 ∨ L < flN (ftN B n g) B t)
section WQ
variable {B L n : Nat} {g : Nat → Sg} {M : mm_M} {Q : mm_Q}
theorem x_isWrong (hW : Wgt M B L n g) (hB : B ≤ 48) (hL : L ≤ 8) {t : Nat} (ht : t < B) : wc 56 [.inr 9, .inl (nI t)] M Q ↔ Q (some (bI (wrB B L n g t))) M := by
  obtain ⟨h0, h1, h2, h3, h4⟩ := hW
  have e3 := h3 t ht
  have e4 := h4 t ht
  have b3 := twN_le B n g t
  have b4 := flN_le (ftN B n g) ht
  simp (disch := first | assumption | exact isSc1 | exact isSc3 | exact isSc5 | decide | omega) only [eX6_isWrong, iX6_isWrong_0, iX6_isWrong_1, iX6_isWrong_4, iX6_isWrong_5, iX6_isWrong_6, iX6_isWrong_9, iX6_isWrong_10, iX6_isWrong_13, iX6_isWrong_14, iX6_isWrong_15, iX6_isWrong_16, iX6_isWrong_19, iX6_isWrong_22, iX6_isWrong_23, iX6_isWrong_26, iX6_isWrong_27, Nat.reduceAdd, Nat.reduceSub, Nat.reduceMul, Nat.reduceLeDiff, mm_rv_s, mm_rv_n, true_and, and_true, if_true, if_false, not_true_eq_false, not_false_eq_true, nI_add, nz_0, nz_lt0, nz_0le, nz_0lt, nz_le0, nz_lt, nz_le, nz_eq, nz_cl, nz_in, nz_sub, nz_m1, pk_mul, set_o, set_ne, up_ne, up_set, n1_1, true_or, or_true, n1_01, n0_01, bI_01, bI_01b, bI_0, isSc1, isSc3, isSc5, ln_2, ln_4, ln_6, ln_8, ln_10, ln_11, ln_12, ln_13, ln_14, ln_16, ln_17, ln_18, ln_19, ln_20, ln_21, ln_23, ln_24, ln_25, ln_27, ln_28, ln_29, ln_31, ln_32, ln_33, ln_35, ln_36, ln_37, e3, e4, h1]
  unfold wrB
  by_cases k1 : twN B n g t = 0
  · by_cases k2 : L < flN (ftN B n g) B t
    · simp [k1, k2, Nat.not_le.mpr k2, bI]
    · simp [k1, k2, Nat.not_lt.mp k2, bI]
  · simp [k1, bI]
-- the reference
theorem m_isBearing (hD : isD (M 31) B L n g) (hv : Val B n g) (hf : isCov (M 37) B n g) {c t : Nat} (hc : c ≤ 6) (ht : t < B) : wc 126 [.inr 30, .inl (nI c), .inl (nI t)] M Q ↔ Q (some (bI (brB B n g c t))) M := by
  have w2 := hv.2.1
  have w3 := hv.2.2.1
  simp (disch := first | assumption | exact isSc1 | exact isSc3 | exact isSc5 | decide | omega) only [eX8_isBearing, iX8_isBearing_0, iX8_isBearing_1, iX8_isBearing_2, iX8_isBearing_3, iX8_isBearing_6, iX8_isBearing_7, Nat.reduceAdd, Nat.reduceSub, Nat.reduceMul, Nat.reduceLeDiff, mm_rv_s, mm_rv_n, true_and, and_true, if_true, if_false, not_true_eq_false, not_false_eq_true, nI_add, nz_0, nz_lt0, nz_0le, nz_0lt, nz_le0, nz_lt, nz_le, nz_eq, nz_cl, nz_in, nz_sub, nz_m1, pk_mul, set_o, set_ne, up_ne, up_set, n1_1, true_or, or_true, n1_01, n0_01, bI_01, bI_01b, bI_0, isSc1, isSc3, isSc5, ln_2, ln_4, ln_6, ln_8, ln_10, ln_11, ln_12, ln_13, ln_14, ln_16, ln_17, ln_18, ln_19, ln_20, ln_21, ln_23, ln_24, ln_25, ln_27, ln_28, ln_29, ln_31, ln_32, ln_33, ln_35, ln_36, ln_37, m_covering rfl hf hc ht w2]
  unfold brB
  cases hx : cv B n g c t with
  | none =>
    have lt : (-1 : Int32) < 0 := by decide
    simp (disch := first | assumption | exact isSc1 | exact isSc3 | exact isSc5 | decide | omega) only [oI, lt, iX8_isBearing_0, iX8_isBearing_1, iX8_isBearing_2, iX8_isBearing_3, iX8_isBearing_6, iX8_isBearing_7, iX8_isBearing_8, iX8_isBearing_11, iX8_isBearing_12, iX8_isBearing_15, iX8_isBearing_18, iX8_isBearing_19, iX8_isBearing_20, iX8_isBearing_21, iX8_isBearing_22, iX8_isBearing_25, iX8_isBearing_26, iX8_isBearing_29, iX8_isBearing_30, Nat.reduceAdd, Nat.reduceSub, Nat.reduceMul, Nat.reduceLeDiff, mm_rv_s, mm_rv_n, true_and, and_true, if_true, if_false, not_true_eq_false, not_false_eq_true, nI_add, nz_0, nz_lt0, nz_0le, nz_0lt, nz_le0, nz_lt, nz_le, nz_eq, nz_cl, nz_in, nz_sub, nz_m1, pk_mul, set_o, set_ne, up_ne, up_set, n1_1, true_or, or_true, n1_01, n0_01, bI_01, bI_01b, bI_0, isSc1, isSc3, isSc5, ln_2, ln_4, ln_6, ln_8, ln_10, ln_11, ln_12, ln_13, ln_14, ln_16, ln_17, ln_18, ln_19, ln_20, ln_21, ln_23, ln_24, ln_25, ln_27, ln_28, ln_29, ln_31, ln_32, ln_33, ln_35, ln_36, ln_37, brO, bI]
    simp
  | some i =>
    have hi := cv_lt hx
    obtain ⟨f1, f2, f3, f4, f5, f6⟩ := hD.2.2.2 i hi
    have hk := (okG_b hv.okG hi).2.2.2.2.1
    simp (disch := first | assumption | exact isSc1 | exact isSc3 | exact isSc5 | decide | omega) only [oI, iX8_isBearing_0, iX8_isBearing_1, iX8_isBearing_2, iX8_isBearing_3, iX8_isBearing_6, iX8_isBearing_7, iX8_isBearing_8, iX8_isBearing_11, iX8_isBearing_12, iX8_isBearing_15, iX8_isBearing_18, iX8_isBearing_19, iX8_isBearing_20, iX8_isBearing_21, iX8_isBearing_22, iX8_isBearing_25, iX8_isBearing_26, iX8_isBearing_29, iX8_isBearing_30, Nat.reduceAdd, Nat.reduceSub, Nat.reduceMul, Nat.reduceLeDiff, mm_rv_s, mm_rv_n, true_and, and_true, if_true, if_false, not_true_eq_false, not_false_eq_true, nI_add, nz_0, nz_lt0, nz_0le, nz_0lt, nz_le0, nz_lt, nz_le, nz_eq, nz_cl, nz_in, nz_sub, nz_m1, pk_mul, set_o, set_ne, up_ne, up_set, n1_1, true_or, or_true, n1_01, n0_01, bI_01, bI_01b, bI_0, isSc1, isSc3, isSc5, ln_2, ln_4, ln_6, ln_8, ln_10, ln_11, ln_12, ln_13, ln_14, ln_16, ln_17, ln_18, ln_19, ln_20, ln_21, ln_23, ln_24, ln_25, ln_27, ln_28, ln_29, ln_31, ln_32, ln_33, ln_35, ln_36, ln_37, f3, brO]
    by_cases k1 : sK (g i) ≤ 1
    · simp [k1, Nat.not_lt.mpr k1, bI]
    · simp [k1, Nat.not_le.mp k1, bI]
theorem m_feet (hD : isD (M 31) B L n g) (hv : Val B n g) (hf : isCov (M 37) B n g) {t : Nat} (ht : t < B) : wc 127 [.inr 30, .inl (nI t)] M Q ↔ Q (some (nI (ftN B n g t))) M := by
  simp (disch := first | assumption | exact isSc1 | exact isSc3 | exact isSc5 | decide | omega) only [eX8_feet, iX8_feet_0, iX8_feet_1, iX8_feet_2, iX8_feet_3, iX8_feet_6, iX8_feet_9, iX8_feet_10, iX8_feet_13, iX8_feet_14, iX8_feet_15, iX8_feet_16, iX8_feet_17, iX8_feet_20, iX8_feet_23, iX8_feet_24, iX8_feet_27, iX8_feet_28, iX8_feet_29, Nat.reduceAdd, Nat.reduceSub, Nat.reduceMul, Nat.reduceLeDiff, mm_rv_s, mm_rv_n, true_and, and_true, if_true, if_false, not_true_eq_false, not_false_eq_true, nI_add, nz_0, nz_lt0, nz_0le, nz_0lt, nz_le0, nz_lt, nz_le, nz_eq, nz_cl, nz_in, nz_sub, nz_m1, pk_mul, set_o, set_ne, up_ne, up_set, n1_1, true_or, or_true, n1_01, n0_01, bI_01, bI_01b, bI_0, isSc1, isSc3, isSc5, ln_2, ln_4, ln_6, ln_8, ln_10, ln_11, ln_12, ln_13, ln_14, ln_16, ln_17, ln_18, ln_19, ln_20, ln_21, ln_23, ln_24, ln_25, ln_27, ln_28, ln_29, ln_31, ln_32, ln_33, ln_35, ln_36, ln_37, m_isBearing hD hv hf (show 0 ≤ 6 by decide) ht, m_isBearing hD hv hf (show 1 ≤ 6 by decide) ht]
  unfold ftN
  by_cases k1 : brB B n g 0 t = true <;> by_cases k2 : brB B n g 1 t = true <;> simp [k1, k2]
theorem m_isTwice (hD : isD (M 31) B L n g) (hv : Val B n g) (hf : isCov (M 37) B n g) {c t : Nat} (hc : c ≤ 1) (ht : t < B) : wc 128 [.inr 30, .inl (nI c), .inl (nI t)] M Q ↔ Q (some (bI (lgB B n g (2 + c) t && brB B n g c t))) M := by
  have w2 := hv.2.1
  have w3 := hv.2.2.1
  simp (disch := first | assumption | exact isSc1 | exact isSc3 | exact isSc5 | decide | omega) only [eX8_isTwice, iX8_isTwice_0, iX8_isTwice_1, iX8_isTwice_2, iX8_isTwice_3, iX8_isTwice_4, iX8_isTwice_5, iX8_isTwice_8, iX8_isTwice_9, Nat.reduceAdd, Nat.reduceSub, Nat.reduceMul, Nat.reduceLeDiff, mm_rv_s, mm_rv_n, true_and, and_true, if_true, if_false, not_true_eq_false, not_false_eq_true, nI_add, nz_0, nz_lt0, nz_0le, nz_0lt, nz_le0, nz_lt, nz_le, nz_eq, nz_cl, nz_in, nz_sub, nz_m1, pk_mul, set_o, set_ne, up_ne, up_set, n1_1, true_or, or_true, n1_01, n0_01, bI_01, bI_01b, bI_0, isSc1, isSc3, isSc5, ln_2, ln_4, ln_6, ln_8, ln_10, ln_11, ln_12, ln_13, ln_14, ln_16, ln_17, ln_18, ln_19, ln_20, ln_21, ln_23, ln_24, ln_25, ln_27, ln_28, ln_29, ln_31, ln_32, ln_33, ln_35, ln_36, ln_37, m_covering rfl hf (show 2 + c ≤ 6 by omega) ht w2]
  unfold lgB
  cases hx : cv B n g (2 + c) t with
  | none =>
    have lt : (-1 : Int32) < 0 := by decide
    simp (disch := first | assumption | exact isSc1 | exact isSc3 | exact isSc5 | decide | omega) only [oI, lt, iX8_isTwice_0, iX8_isTwice_1, iX8_isTwice_2, iX8_isTwice_3, iX8_isTwice_4, iX8_isTwice_5, iX8_isTwice_8, iX8_isTwice_9, iX8_isTwice_10, iX8_isTwice_13, iX8_isTwice_14, iX8_isTwice_17, iX8_isTwice_20, iX8_isTwice_21, iX8_isTwice_22, iX8_isTwice_23, iX8_isTwice_26, iX8_isTwice_27, iX8_isTwice_28, iX8_isTwice_29, iX8_isTwice_32, iX8_isTwice_35, iX8_isTwice_36, iX8_isTwice_39, iX8_isTwice_40, Nat.reduceAdd, Nat.reduceSub, Nat.reduceMul, Nat.reduceLeDiff, mm_rv_s, mm_rv_n, true_and, and_true, if_true, if_false, not_true_eq_false, not_false_eq_true, nI_add, nz_0, nz_lt0, nz_0le, nz_0lt, nz_le0, nz_lt, nz_le, nz_eq, nz_cl, nz_in, nz_sub, nz_m1, pk_mul, set_o, set_ne, up_ne, up_set, n1_1, true_or, or_true, n1_01, n0_01, bI_01, bI_01b, bI_0, isSc1, isSc3, isSc5, ln_2, ln_4, ln_6, ln_8, ln_10, ln_11, ln_12, ln_13, ln_14, ln_16, ln_17, ln_18, ln_19, ln_20, ln_21, ln_23, ln_24, ln_25, ln_27, ln_28, ln_29, ln_31, ln_32, ln_33, ln_35, ln_36, ln_37, lgO, bI]
    simp
  | some i =>
    have hi := cv_lt hx
    obtain ⟨f1, f2, f3, f4, f5, f6⟩ := hD.2.2.2 i hi
    have hk := (okG_b hv.okG hi).2.2.2.2.1
    simp (disch := first | assumption | exact isSc1 | exact isSc3 | exact isSc5 | decide | omega) only [oI, iX8_isTwice_0, iX8_isTwice_1, iX8_isTwice_2, iX8_isTwice_3, iX8_isTwice_4, iX8_isTwice_5, iX8_isTwice_8, iX8_isTwice_9, iX8_isTwice_10, iX8_isTwice_13, iX8_isTwice_14, iX8_isTwice_17, iX8_isTwice_20, iX8_isTwice_21, iX8_isTwice_22, iX8_isTwice_23, iX8_isTwice_26, iX8_isTwice_27, iX8_isTwice_28, iX8_isTwice_29, iX8_isTwice_32, iX8_isTwice_35, iX8_isTwice_36, iX8_isTwice_39, iX8_isTwice_40, Nat.reduceAdd, Nat.reduceSub, Nat.reduceMul, Nat.reduceLeDiff, mm_rv_s, mm_rv_n, true_and, and_true, if_true, if_false, not_true_eq_false, not_false_eq_true, nI_add, nz_0, nz_lt0, nz_0le, nz_0lt, nz_le0, nz_lt, nz_le, nz_eq, nz_cl, nz_in, nz_sub, nz_m1, pk_mul, set_o, set_ne, up_ne, up_set, n1_1, true_or, or_true, n1_01, n0_01, bI_01, bI_01b, bI_0, isSc1, isSc3, isSc5, ln_2, ln_4, ln_6, ln_8, ln_10, ln_11, ln_12, ln_13, ln_14, ln_16, ln_17, ln_18, ln_19, ln_20, ln_21, ln_23, ln_24, ln_25, ln_27, ln_28, ln_29, ln_31, ln_32, ln_33, ln_35, ln_36, ln_37, f3, lgO, m_isBearing hD hv hf (show c ≤ 6 by omega) ht]
    by_cases k1 : sK (g i) = 0
    · by_cases k2 : brB B n g c t = true
      · simp [k1, k2, bI]
      · simp [k1, k2, bI]
    · simp [k1, bI]
theorem m_twice (hD : isD (M 31) B L n g) (hv : Val B n g) (hf : isCov (M 37) B n g) {t : Nat} (ht : t < B) : wc 129 [.inr 30, .inl (nI t)] M Q ↔ Q (some (nI (twN B n g t))) M := by
  simp (disch := first | assumption | exact isSc1 | exact isSc3 | exact isSc5 | decide | omega) only [eX8_twice, iX8_twice_0, iX8_twice_1, iX8_twice_2, iX8_twice_3, iX8_twice_6, iX8_twice_9, iX8_twice_10, iX8_twice_13, iX8_twice_14, iX8_twice_15, iX8_twice_16, iX8_twice_17, iX8_twice_20, iX8_twice_23, iX8_twice_24, iX8_twice_27, iX8_twice_28, iX8_twice_29, Nat.reduceAdd, Nat.reduceSub, Nat.reduceMul, Nat.reduceLeDiff, mm_rv_s, mm_rv_n, true_and, and_true, if_true, if_false, not_true_eq_false, not_false_eq_true, nI_add, nz_0, nz_lt0, nz_0le, nz_0lt, nz_le0, nz_lt, nz_le, nz_eq, nz_cl, nz_in, nz_sub, nz_m1, pk_mul, set_o, set_ne, up_ne, up_set, n1_1, true_or, or_true, n1_01, n0_01, bI_01, bI_01b, bI_0, isSc1, isSc3, isSc5, ln_2, ln_4, ln_6, ln_8, ln_10, ln_11, ln_12, ln_13, ln_14, ln_16, ln_17, ln_18, ln_19, ln_20, ln_21, ln_23, ln_24, ln_25, ln_27, ln_28, ln_29, ln_31, ln_32, ln_33, ln_35, ln_36, ln_37, m_isTwice hD hv hf (show 0 ≤ 1 by decide) ht, m_isTwice hD hv hf (show 1 ≤ 1 by decide) ht]
  unfold twN
  by_cases k1 : (lgB B n g 2 t && brB B n g 0 t) = true <;> by_cases k2 : (lgB B n g 3 t && brB B n g 1 t) = true <;> simp [k1, k2]
def mlI (k : Nat) : Int32 := match k with
  | 0 => -1
  | k + 1 => nI k
theorem m_flight (hD : isD (M 31) B L n g) (hv : Val B n g) (hf : isCov (M 37) B n g) {t : Nat} (ht : t < B) : wc 130 [.inr 30, .inl (nI t)] M Q ↔ Q (some (nI (flN (ftN B n g) B t))) M := by
  have w2 := hv.2.1
  have x0 := hD.1
  have b0 := ftN_le B n g t
  have down : ∀ k cnt : Nat, k ≤ t → cnt + k ≤ 100 → ∃ l3, (wp 130 16 [some (.inr 30), some (.inl (nI t)), some (.inl (nI cnt)), some (.inl (mlI k))] [] M Q ↔ wp 130 37 [some (.inr 30), some (.inl (nI t)), some (.inl (nI (cnt + upN (ftN B n g) k))), some (.inl l3)] [] M Q) := by
    intro k
    induction k with
    | zero =>
      intro cnt _ _
      refine ⟨-1, ?_⟩
      rw [iX8_flight_16]
      have lt : (-1 : Int32) < 0 := by decide
      simp (disch := first | assumption | exact isSc1 | exact isSc3 | exact isSc5 | decide | omega) only [mlI, iX8_flight_17, lt, if_true, upN, Nat.add_zero]
    | succ k ih =>
      intro cnt hk hc
      have bk := ftN_le B n g k
      rw [iX8_flight_16]
      simp (disch := first | assumption | exact isSc1 | exact isSc3 | exact isSc5 | decide | omega) only [mlI, iX8_flight_17, iX8_flight_20, iX8_flight_21, iX8_flight_22, iX8_flight_25, Nat.reduceAdd, Nat.reduceSub, Nat.reduceMul, Nat.reduceLeDiff, mm_rv_s, mm_rv_n, true_and, and_true, if_true, if_false, not_true_eq_false, not_false_eq_true, nI_add, nz_0, nz_lt0, nz_0le, nz_0lt, nz_le0, nz_lt, nz_le, nz_eq, nz_cl, nz_in, nz_sub, nz_m1, pk_mul, set_o, set_ne, up_ne, up_set, n1_1, true_or, or_true, n1_01, n0_01, bI_01, bI_01b, bI_0, isSc1, isSc3, isSc5, ln_2, ln_4, ln_6, ln_8, ln_10, ln_11, ln_12, ln_13, ln_14, ln_16, ln_17, ln_18, ln_19, ln_20, ln_21, ln_23, ln_24, ln_25, ln_27, ln_28, ln_29, ln_31, ln_32, ln_33, ln_35, ln_36, ln_37, m_feet hD hv hf (show k < B by omega)]
      by_cases h0 : ftN B n g k = 0
      · obtain ⟨l3, e⟩ := ih (cnt + 1) (by omega) (by omega)
        refine ⟨l3, ?_⟩
        have em : nI k + (-1 : Int32) = mlI k := by
          cases k with
          | zero => decide
          | succ k => exact nz_m1 (k + 1) (by omega)
        have eu : cnt + 1 + upN (ftN B n g) k = cnt + upN (ftN B n g) (k + 1) := by simp only [upN, h0, if_true]; omega
        rw [eu] at e
        simp (disch := first | decide | omega) only [h0, iX8_flight_28, iX8_flight_31, iX8_flight_34, nI_add, em, not_true_eq_false, if_false, if_true]
        exact e
      · refine ⟨nI k, ?_⟩
        have eu : cnt + upN (ftN B n g) (k + 1) = cnt := by simp only [upN, h0, if_false, Nat.add_zero]
        rw [eu]
        simp only [h0, not_false_eq_true, if_true, if_false]
  have up : ∀ d b cnt : Nat, b + d = B → cnt + d ≤ 200 → (wp 130 41 [some (.inr 30), some (.inl (nI t)), some (.inl (nI cnt)), some (.inl (nI b))] [] M Q ↔ Q (some (nI (cnt + dnN (ftN B n g) d b))) M) := by
    intro d
    induction d with
    | zero =>
      intro b cnt hb _
      have hb : b = B := by omega
      subst hb
      rw [iX8_flight_41]
      simp (disch := first | assumption | exact isSc1 | exact isSc3 | exact isSc5 | decide | omega) only [iX8_flight_42, iX8_flight_43, iX8_flight_46, iX8_flight_47, iX8_flight_48, iX8_flight_68, iX8_flight_69, Nat.reduceAdd, Nat.reduceSub, Nat.reduceMul, Nat.reduceLeDiff, mm_rv_s, mm_rv_n, true_and, and_true, if_true, if_false, not_true_eq_false, not_false_eq_true, nI_add, nz_0, nz_lt0, nz_0le, nz_0lt, nz_le0, nz_lt, nz_le, nz_eq, nz_cl, nz_in, nz_sub, nz_m1, pk_mul, set_o, set_ne, up_ne, up_set, n1_1, true_or, or_true, n1_01, n0_01, bI_01, bI_01b, bI_0, isSc1, isSc3, isSc5, ln_2, ln_4, ln_6, ln_8, ln_10, ln_11, ln_12, ln_13, ln_14, ln_16, ln_17, ln_18, ln_19, ln_20, ln_21, ln_23, ln_24, ln_25, ln_27, ln_28, ln_29, ln_31, ln_32, ln_33, ln_35, ln_36, ln_37, x0, Nat.le_refl, dnN, Nat.add_zero]
    | succ d ih =>
      intro b cnt hb hc
      have bk := ftN_le B n g b
      rw [iX8_flight_41]
      simp (disch := first | assumption | exact isSc1 | exact isSc3 | exact isSc5 | decide | omega) only [iX8_flight_42, iX8_flight_43, iX8_flight_46, iX8_flight_47, iX8_flight_48, iX8_flight_51, iX8_flight_52, iX8_flight_53, iX8_flight_56, Nat.reduceAdd, Nat.reduceSub, Nat.reduceMul, Nat.reduceLeDiff, mm_rv_s, mm_rv_n, true_and, and_true, if_true, if_false, not_true_eq_false, not_false_eq_true, nI_add, nz_0, nz_lt0, nz_0le, nz_0lt, nz_le0, nz_lt, nz_le, nz_eq, nz_cl, nz_in, nz_sub, nz_m1, pk_mul, set_o, set_ne, up_ne, up_set, n1_1, true_or, or_true, n1_01, n0_01, bI_01, bI_01b, bI_0, isSc1, isSc3, isSc5, ln_2, ln_4, ln_6, ln_8, ln_10, ln_11, ln_12, ln_13, ln_14, ln_16, ln_17, ln_18, ln_19, ln_20, ln_21, ln_23, ln_24, ln_25, ln_27, ln_28, ln_29, ln_31, ln_32, ln_33, ln_35, ln_36, ln_37, x0, show ¬ B ≤ b by omega, m_feet hD hv hf (show b < B by omega)]
      by_cases h0 : ftN B n g b = 0
      · have e := ih (b + 1) (cnt + 1) (by omega) (by omega)
        have eu : cnt + 1 + dnN (ftN B n g) d (b + 1) = cnt + dnN (ftN B n g) (d + 1) b := by simp only [dnN, h0, if_true]; omega
        rw [eu] at e
        simp (disch := first | assumption | exact isSc1 | exact isSc3 | exact isSc5 | decide | omega) only [h0, iX8_flight_59, iX8_flight_62, iX8_flight_65, Nat.reduceAdd, Nat.reduceSub, Nat.reduceMul, Nat.reduceLeDiff, mm_rv_s, mm_rv_n, true_and, and_true, if_true, if_false, not_true_eq_false, not_false_eq_true, nI_add, nz_0, nz_lt0, nz_0le, nz_0lt, nz_le0, nz_lt, nz_le, nz_eq, nz_cl, nz_in, nz_sub, nz_m1, pk_mul, set_o, set_ne, up_ne, up_set, n1_1, true_or, or_true, n1_01, n0_01, bI_01, bI_01b, bI_0, isSc1, isSc3, isSc5, ln_2, ln_4, ln_6, ln_8, ln_10, ln_11, ln_12, ln_13, ln_14, ln_16, ln_17, ln_18, ln_19, ln_20, ln_21, ln_23, ln_24, ln_25, ln_27, ln_28, ln_29, ln_31, ln_32, ln_33, ln_35, ln_36, ln_37]
        exact e
      · have eu : cnt + dnN (ftN B n g) (d + 1) b = cnt := by simp only [dnN, h0, if_false, Nat.add_zero]
        rw [eu]
        simp (disch := first | assumption | exact isSc1 | exact isSc3 | exact isSc5 | decide | omega) only [h0, iX8_flight_68, iX8_flight_69, Nat.reduceAdd, Nat.reduceSub, Nat.reduceMul, Nat.reduceLeDiff, mm_rv_s, mm_rv_n, true_and, and_true, if_true, if_false, not_true_eq_false, not_false_eq_true, nI_add, nz_0, nz_lt0, nz_0le, nz_0lt, nz_le0, nz_lt, nz_le, nz_eq, nz_cl, nz_in, nz_sub, nz_m1, pk_mul, set_o, set_ne, up_ne, up_set, n1_1, true_or, or_true, n1_01, n0_01, bI_01, bI_01b, bI_0, isSc1, isSc3, isSc5, ln_2, ln_4, ln_6, ln_8, ln_10, ln_11, ln_12, ln_13, ln_14, ln_16, ln_17, ln_18, ln_19, ln_20, ln_21, ln_23, ln_24, ln_25, ln_27, ln_28, ln_29, ln_31, ln_32, ln_33, ln_35, ln_36, ln_37]
  simp (disch := first | assumption | exact isSc1 | exact isSc3 | exact isSc5 | decide | omega) only [eX8_flight, iX8_flight_0, iX8_flight_1, iX8_flight_2, iX8_flight_5, Nat.reduceAdd, Nat.reduceSub, Nat.reduceMul, Nat.reduceLeDiff, mm_rv_s, mm_rv_n, true_and, and_true, if_true, if_false, not_true_eq_false, not_false_eq_true, nI_add, nz_0, nz_lt0, nz_0le, nz_0lt, nz_le0, nz_lt, nz_le, nz_eq, nz_cl, nz_in, nz_sub, nz_m1, pk_mul, set_o, set_ne, up_ne, up_set, n1_1, true_or, or_true, n1_01, n0_01, bI_01, bI_01b, bI_0, isSc1, isSc3, isSc5, ln_2, ln_4, ln_6, ln_8, ln_10, ln_11, ln_12, ln_13, ln_14, ln_16, ln_17, ln_18, ln_19, ln_20, ln_21, ln_23, ln_24, ln_25, ln_27, ln_28, ln_29, ln_31, ln_32, ln_33, ln_35, ln_36, ln_37, m_feet hD hv hf ht]
  by_cases h0 : ftN B n g t = 0
  · have em : nI t - nI 1 = mlI t := by
      cases t with
      | zero => decide
      | succ t => exact nz_sub _ _ (by omega)
    obtain ⟨l3, e⟩ := down t 1 (Nat.le_refl t) (by omega)
    have e2 := up (B - t - 1) (t + 1) (1 + upN (ftN B n g) t) (by omega) (by have := upN_le (ftN B n g) t; omega)
    have ed : dnN (ftN B n g) (B - t) t = dnN (ftN B n g) (B - t - 1) (t + 1) + 1 := by
      obtain ⟨d, hd⟩ : ∃ d, B - t = d + 1 := ⟨B - t - 1, by omega⟩
      rw [hd, Nat.add_sub_cancel]
      simp only [dnN, h0, if_true]
    have ef : flN (ftN B n g) B t = 1 + upN (ftN B n g) t + dnN (ftN B n g) (B - t - 1) (t + 1) := by
      unfold flN
      rw [if_pos h0, ed]
      omega
    rw [ef]
    simp (disch := first | decide | omega) only [h0, if_true, iX8_flight_10, iX8_flight_11, iX8_flight_12, iX8_flight_13, iX8_flight_14, iX8_flight_15, em]
    rw [e]
    simp (disch := first | decide | omega) only [iX8_flight_37, iX8_flight_38, iX8_flight_39, iX8_flight_40, nI_add]
    exact e2
  · have ef : flN (ftN B n g) B t = 0 := by unfold flN; rw [if_neg h0]
    rw [ef]
    simp (disch := first | assumption | exact isSc1 | exact isSc3 | exact isSc5 | decide | omega) only [h0, iX8_flight_8, iX8_flight_9, Nat.reduceAdd, Nat.reduceSub, Nat.reduceMul, Nat.reduceLeDiff, mm_rv_s, mm_rv_n, true_and, and_true, if_true, if_false, not_true_eq_false, not_false_eq_true, nI_add, nz_0, nz_lt0, nz_0le, nz_0lt, nz_le0, nz_lt, nz_le, nz_eq, nz_cl, nz_in, nz_sub, nz_m1, pk_mul, set_o, set_ne, up_ne, up_set, n1_1, true_or, or_true, n1_01, n0_01, bI_01, bI_01b, bI_0, isSc1, isSc3, isSc5, ln_2, ln_4, ln_6, ln_8, ln_10, ln_11, ln_12, ln_13, ln_14, ln_16, ln_17, ln_18, ln_19, ln_20, ln_21, ln_23, ln_24, ln_25, ln_27, ln_28, ln_29, ln_31, ln_32, ln_33, ln_35, ln_36, ln_37]
theorem m_isWrong (hD : isD (M 31) B L n g) (hv : Val B n g) (hf : isCov (M 37) B n g) (hL : L ≤ 8) {t : Nat} (ht : t < B) : wc 131 [.inr 30, .inl (nI t)] M Q ↔ Q (some (bI (wrB B L n g t))) M := by
  have w2 := hv.2.1
  have x1 := hD.2.1
  have b3 := twN_le B n g t
  have b4 := flN_le (ftN B n g) ht
  simp (disch := first | assumption | exact isSc1 | exact isSc3 | exact isSc5 | decide | omega) only [eX8_isWrong, iX8_isWrong_0, iX8_isWrong_1, iX8_isWrong_2, iX8_isWrong_5, iX8_isWrong_8, iX8_isWrong_9, iX8_isWrong_10, iX8_isWrong_13, iX8_isWrong_14, iX8_isWrong_17, iX8_isWrong_18, iX8_isWrong_19, iX8_isWrong_22, iX8_isWrong_23, iX8_isWrong_26, iX8_isWrong_27, Nat.reduceAdd, Nat.reduceSub, Nat.reduceMul, Nat.reduceLeDiff, mm_rv_s, mm_rv_n, true_and, and_true, if_true, if_false, not_true_eq_false, not_false_eq_true, nI_add, nz_0, nz_lt0, nz_0le, nz_0lt, nz_le0, nz_lt, nz_le, nz_eq, nz_cl, nz_in, nz_sub, nz_m1, pk_mul, set_o, set_ne, up_ne, up_set, n1_1, true_or, or_true, n1_01, n0_01, bI_01, bI_01b, bI_0, isSc1, isSc3, isSc5, ln_2, ln_4, ln_6, ln_8, ln_10, ln_11, ln_12, ln_13, ln_14, ln_16, ln_17, ln_18, ln_19, ln_20, ln_21, ln_23, ln_24, ln_25, ln_27, ln_28, ln_29, ln_31, ln_32, ln_33, ln_35, ln_36, ln_37, m_twice hD hv hf ht, m_flight hD hv hf ht, x1]
  unfold wrB
  by_cases k1 : twN B n g t = 0
  · by_cases k2 : L < flN (ftN B n g) B t
    · simp [k1, k2, Nat.not_le.mpr k2, bI]
    · simp [k1, k2, Nat.not_lt.mp k2, bI]
  · simp [k1, bI]
end WQ
