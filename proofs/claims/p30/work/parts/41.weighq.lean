/-! WHAT IS ASKED OF THE WEIGHT -/
def wrB (B L n : Nat) (g : Nat → Sg) (t : Nat) : Bool := decide (twN B n g t ≠ 0 ∨ L < flN (ftN B n g) B t)
section WQ
variable {B L n : Nat} {g : Nat → Sg} {M : mm_M} {Q : mm_Q}
theorem x_isWrong (hW : Wgt M B L n g) (hB : B ≤ 48) (hL : L ≤ 8) {t : Nat} (ht : t < B) : wc 56 [.inr 9, .inl (nI t)] M Q ↔ Q (some (bI (wrB B L n g t))) M := by
  obtain ⟨h0, h1, h2, h3, h4⟩ := hW
  have e3 := h3 t ht
  have e4 := h4 t ht
  have b3 := twN_le B n g t
  have b4 := flN_le (ftN B n g) ht
  simp (disch := first | assumption | exact isSc1 | exact isSc3 | exact isSc5 | decide | omega) only [eX6_isWrong, iX6_isWrong_0, iX6_isWrong_1, iX6_isWrong_4, iX6_isWrong_5, iX6_isWrong_6, iX6_isWrong_9, iX6_isWrong_10, iX6_isWrong_13, iX6_isWrong_14, iX6_isWrong_15, iX6_isWrong_16, iX6_isWrong_19, iX6_isWrong_22, iX6_isWrong_23, iX6_isWrong_26, iX6_isWrong_27, Nat.reduceAdd, Nat.reduceSub, Nat.reduceMul, Nat.reduceLeDiff, mm_rv_s, mm_rv_n, true_and, and_true, if_true, if_false, not_true_eq_false, not_false_eq_true, nI_add, nz_0, nz_lt0, nz_0le, nz_0lt, nz_le0, nz_lt, nz_le, nz_eq, nz_cl, nz_in, nz_sub, nz_m1, pk_mul, set_o, set_ne, up_ne, up_set, n1_1, true_or, or_true, n1_01, n0_01, bI_01, bI_01b, bI_0, isSc1, isSc3, isSc5, ln_2, ln_4, ln_6, ln_8, ln_10, ln_11, ln_12, ln_13, ln_14, ln_16, ln_17, ln_18, ln_19, ln_20, ln_21, ln_23, ln_24, ln_25, ln_27, ln_28, ln_29, e3, e4, h1]
  unfold wrB
  by_cases k1 : twN B n g t = 0
  · by_cases k2 : L < flN (ftN B n g) B t
    · simp [k1, k2, Nat.not_le.mpr k2, bI]
    · simp [k1, k2, Nat.not_lt.mp k2, bI]
  · simp [k1, bI]
-- the reference
def mlI (k : Nat) : Int32 := match k with
  | 0 => -1
  | k + 1 => nI k
end WQ

