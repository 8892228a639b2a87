/-! PAIRS: beats, leastLeap, covered -/
def cntF (p : Nat → Bool) : Nat → Nat
  | 0 => 0
  | b + 1 => cntF p b + (if p b = true then 1 else 0)
def mxF (f : Nat → Nat) : Nat → Nat
  | 0 => 0
  | b + 1 => if mxF f b < f b then f b else mxF f b
def prv (f : Nat → Nat) : Nat → Nat
  | 0 => 0
  | b + 1 => f b
def fcF (f : Nat → Nat) : Nat → Nat
  | 0 => 0
  | b + 1 => fcF f b + (if 0 < f b ∧ prv f b = 0 then 1 else 0)
def anF (p : Nat → Bool) : Nat → Nat → Bool
  | 0, _ => false
  | d + 1, t => if p t = true then true else anF p d (t + 1)
theorem cntF_s (p : Nat → Bool) (b : Nat) : cntF p (b + 1) = cntF p b + (if p b = true then 1 else 0) := rfl
theorem fcF_s (f : Nat → Nat) (b : Nat) : fcF f (b + 1) = fcF f b + (if 0 < f b ∧ prv f b = 0 then 1 else 0) := rfl
theorem cntF_le (p : Nat → Bool) : ∀ b, cntF p b ≤ b := by
  intro b
  induction b with
  | zero => exact Nat.le_refl 0
  | succ b ih => unfold cntF; split <;> omega
theorem fcF_le (f : Nat → Nat) : ∀ b, fcF f b ≤ b := by
  intro b
  induction b with
  | zero => exact Nat.le_refl 0
  | succ b ih => unfold fcF; split <;> omega
theorem mxF_le (f : Nat → Nat) {m : Nat} : ∀ b, (∀ t, t < b → f t ≤ m) → mxF f b ≤ m := by
  intro b
  induction b with
  | zero => intro _; exact Nat.zero_le m
  | succ b ih =>
    intro h
    have := ih (fun t ht => h t (by omega))
    have := h b (by omega)
    unfold mxF
    split <;> omega
section BT
variable {B L n : Nat} {g : Nat → Sg} {M : mm_M} {Q : mm_Q}
theorem x_wrongBeats (hW : Wgt M B L n g) (hB : B ≤ 48) (hL : L ≤ 8) : wc 57 [.inr 9] M Q ↔ Q (some (nI (cntF (wrB B L n g) B))) M := by
  have h0 := hW.1
  have loop : ∀ d b : Nat, b + d = B → (wp 57 4 [some (.inr 9), some (.inl (nI (cntF (wrB B L n g) b))), some (.inl (nI b))] [] M Q ↔ Q (some (nI (cntF (wrB B L n g) B))) M) := by
    intro d
    induction d with
    | zero =>
      intro b hb
      have hb : b = B := by omega
      subst hb
      rw [iX6_wrongBeats_4]
      simp (disch := first | assumption | exact isSc1 | exact isSc3 | exact isSc5 | decide | omega) only [iX6_wrongBeats_5, iX6_wrongBeats_6, iX6_wrongBeats_9, iX6_wrongBeats_29, iX6_wrongBeats_30, Nat.reduceAdd, Nat.reduceSub, Nat.reduceMul, Nat.reduceLeDiff, mm_rv_s, mm_rv_n, true_and, and_true, if_true, if_false, not_true_eq_false, not_false_eq_true, nI_add, nz_0, nz_lt0, nz_0le, nz_0lt, nz_le0, nz_lt, nz_le, nz_eq, nz_cl, nz_in, nz_sub, nz_m1, pk_mul, set_o, set_ne, up_ne, up_set, n1_1, true_or, or_true, n1_01, n0_01, bI_01, bI_01b, bI_0, isSc1, isSc3, isSc5, ln_2, ln_4, ln_6, ln_8, ln_10, ln_11, ln_12, ln_13, ln_14, ln_16, ln_17, ln_18, ln_19, ln_20, ln_21, ln_23, ln_24, ln_25, ln_27, ln_28, ln_29, h0, Nat.le_refl]
    | succ d ih =>
      intro b hb
      have := ih (b + 1) (by omega)
      rw [cntF_s] at this
      rw [iX6_wrongBeats_4]
      simp (disch := first | assumption | exact isSc1 | exact isSc3 | exact isSc5 | decide | omega) only [iX6_wrongBeats_5, iX6_wrongBeats_6, iX6_wrongBeats_9, iX6_wrongBeats_12, iX6_wrongBeats_13, iX6_wrongBeats_14, Nat.reduceAdd, Nat.reduceSub, Nat.reduceMul, Nat.reduceLeDiff, mm_rv_s, mm_rv_n, true_and, and_true, if_true, if_false, not_true_eq_false, not_false_eq_true, nI_add, nz_0, nz_lt0, nz_0le, nz_0lt, nz_le0, nz_lt, nz_le, nz_eq, nz_cl, nz_in, nz_sub, nz_m1, pk_mul, set_o, set_ne, up_ne, up_set, n1_1, true_or, or_true, n1_01, n0_01, bI_01, bI_01b, bI_0, isSc1, isSc3, isSc5, ln_2, ln_4, ln_6, ln_8, ln_10, ln_11, ln_12, ln_13, ln_14, ln_16, ln_17, ln_18, ln_19, ln_20, ln_21, ln_23, ln_24, ln_25, ln_27, ln_28, ln_29, h0, show ¬ B ≤ b by omega, x_isWrong hW hB hL (show b < B by omega)]
      cases hw : wrB B L n g b
      · rw [hw] at this
        simp (disch := first | assumption | exact isSc1 | exact isSc3 | exact isSc5 | decide | omega) only [iX6_wrongBeats_17, iX6_wrongBeats_20, iX6_wrongBeats_23, iX6_wrongBeats_26, Nat.reduceAdd, Nat.reduceSub, Nat.reduceMul, Nat.reduceLeDiff, mm_rv_s, mm_rv_n, true_and, and_true, if_true, if_false, not_true_eq_false, not_false_eq_true, nI_add, nz_0, nz_lt0, nz_0le, nz_0lt, nz_le0, nz_lt, nz_le, nz_eq, nz_cl, nz_in, nz_sub, nz_m1, pk_mul, set_o, set_ne, up_ne, up_set, n1_1, true_or, or_true, n1_01, n0_01, bI_01, bI_01b, bI_0, isSc1, isSc3, isSc5, ln_2, ln_4, ln_6, ln_8, ln_10, ln_11, ln_12, ln_13, ln_14, ln_16, ln_17, ln_18, ln_19, ln_20, ln_21, ln_23, ln_24, ln_25, ln_27, ln_28, ln_29, bI, Bool.false_eq_true, Nat.add_zero] at this ⊢
        exact this
      · rw [hw] at this
        simp (disch := first | assumption | exact isSc1 | exact isSc3 | exact isSc5 | decide | omega) only [iX6_wrongBeats_17, iX6_wrongBeats_20, iX6_wrongBeats_23, iX6_wrongBeats_26, Nat.reduceAdd, Nat.reduceSub, Nat.reduceMul, Nat.reduceLeDiff, mm_rv_s, mm_rv_n, true_and, and_true, if_true, if_false, not_true_eq_false, not_false_eq_true, nI_add, nz_0, nz_lt0, nz_0le, nz_0lt, nz_le0, nz_lt, nz_le, nz_eq, nz_cl, nz_in, nz_sub, nz_m1, pk_mul, set_o, set_ne, up_ne, up_set, n1_1, true_or, or_true, n1_01, n0_01, bI_01, bI_01b, bI_0, isSc1, isSc3, isSc5, ln_2, ln_4, ln_6, ln_8, ln_10, ln_11, ln_12, ln_13, ln_14, ln_16, ln_17, ln_18, ln_19, ln_20, ln_21, ln_23, ln_24, ln_25, ln_27, ln_28, ln_29, bI] at this ⊢
        exact this
  simp (disch := first | assumption | exact isSc1 | exact isSc3 | exact isSc5 | decide | omega) only [eX6_wrongBeats, iX6_wrongBeats_0, iX6_wrongBeats_1, iX6_wrongBeats_2, iX6_wrongBeats_3]
  exact loop B 0 (by omega)
theorem x_beatsOn (hW : Wgt M B L n g) (hB : B ≤ 48) {w : Nat} (hw : w ≤ 9) : wc 58 [.inr 9, .inl (nI w)] M Q ↔ Q (some (nI (cntF (fun t => decide (ftN B n g t = w)) B))) M := by
  have h0 := hW.1
  have loop : ∀ d b : Nat, b + d = B → (wp 58 4 [some (.inr 9), some (.inl (nI w)), some (.inl (nI (cntF (fun t => decide (ftN B n g t = w)) b))), some (.inl (nI b))] [] M Q ↔ Q (some (nI (cntF (fun t => decide (ftN B n g t = w)) B))) M) := by
    intro d
    induction d with
    | zero =>
      intro b hb
      have hb : b = B := by omega
      subst hb
      rw [iX6_beatsOn_4]
      simp (disch := first | assumption | exact isSc1 | exact isSc3 | exact isSc5 | decide | omega) only [iX6_beatsOn_5, iX6_beatsOn_6, iX6_beatsOn_9, iX6_beatsOn_31, iX6_beatsOn_32, Nat.reduceAdd, Nat.reduceSub, Nat.reduceMul, Nat.reduceLeDiff, mm_rv_s, mm_rv_n, true_and, and_true, if_true, if_false, not_true_eq_false, not_false_eq_true, nI_add, nz_0, nz_lt0, nz_0le, nz_0lt, nz_le0, nz_lt, nz_le, nz_eq, nz_cl, nz_in, nz_sub, nz_m1, pk_mul, set_o, set_ne, up_ne, up_set, n1_1, true_or, or_true, n1_01, n0_01, bI_01, bI_01b, bI_0, isSc1, isSc3, isSc5, ln_2, ln_4, ln_6, ln_8, ln_10, ln_11, ln_12, ln_13, ln_14, ln_16, ln_17, ln_18, ln_19, ln_20, ln_21, ln_23, ln_24, ln_25, ln_27, ln_28, ln_29, h0, Nat.le_refl]
    | succ d ih =>
      intro b hb
      have := ih (b + 1) (by omega)
      rw [cntF_s] at this
      have e := hW.2.2.1 b (by omega)
      have b3 := ftN_le B n g b
      rw [iX6_beatsOn_4]
      simp (disch := first | assumption | exact isSc1 | exact isSc3 | exact isSc5 | decide | omega) only [iX6_beatsOn_5, iX6_beatsOn_6, iX6_beatsOn_9, iX6_beatsOn_12, iX6_beatsOn_13, iX6_beatsOn_16, iX6_beatsOn_17, iX6_beatsOn_18, iX6_beatsOn_19, Nat.reduceAdd, Nat.reduceSub, Nat.reduceMul, Nat.reduceLeDiff, mm_rv_s, mm_rv_n, true_and, and_true, if_true, if_false, not_true_eq_false, not_false_eq_true, nI_add, nz_0, nz_lt0, nz_0le, nz_0lt, nz_le0, nz_lt, nz_le, nz_eq, nz_cl, nz_in, nz_sub, nz_m1, pk_mul, set_o, set_ne, up_ne, up_set, n1_1, true_or, or_true, n1_01, n0_01, bI_01, bI_01b, bI_0, isSc1, isSc3, isSc5, ln_2, ln_4, ln_6, ln_8, ln_10, ln_11, ln_12, ln_13, ln_14, ln_16, ln_17, ln_18, ln_19, ln_20, ln_21, ln_23, ln_24, ln_25, ln_27, ln_28, ln_29, h0, show ¬ B ≤ b by omega, e]
      by_cases hw : ftN B n g b = w
      · simp (disch := first | assumption | exact isSc1 | exact isSc3 | exact isSc5 | decide | omega) only [iX6_beatsOn_22, iX6_beatsOn_25, iX6_beatsOn_28, Nat.reduceAdd, Nat.reduceSub, Nat.reduceMul, Nat.reduceLeDiff, mm_rv_s, mm_rv_n, true_and, and_true, if_true, if_false, not_true_eq_false, not_false_eq_true, nI_add, nz_0, nz_lt0, nz_0le, nz_0lt, nz_le0, nz_lt, nz_le, nz_eq, nz_cl, nz_in, nz_sub, nz_m1, pk_mul, set_o, set_ne, up_ne, up_set, n1_1, true_or, or_true, n1_01, n0_01, bI_01, bI_01b, bI_0, isSc1, isSc3, isSc5, ln_2, ln_4, ln_6, ln_8, ln_10, ln_11, ln_12, ln_13, ln_14, ln_16, ln_17, ln_18, ln_19, ln_20, ln_21, ln_23, ln_24, ln_25, ln_27, ln_28, ln_29, hw, decide_true] at this ⊢
        exact this
      · simp (disch := first | assumption | exact isSc1 | exact isSc3 | exact isSc5 | decide | omega) only [iX6_beatsOn_22, iX6_beatsOn_25, iX6_beatsOn_28, Nat.reduceAdd, Nat.reduceSub, Nat.reduceMul, Nat.reduceLeDiff, mm_rv_s, mm_rv_n, true_and, and_true, if_true, if_false, not_true_eq_false, not_false_eq_true, nI_add, nz_0, nz_lt0, nz_0le, nz_0lt, nz_le0, nz_lt, nz_le, nz_eq, nz_cl, nz_in, nz_sub, nz_m1, pk_mul, set_o, set_ne, up_ne, up_set, n1_1, true_or, or_true, n1_01, n0_01, bI_01, bI_01b, bI_0, isSc1, isSc3, isSc5, ln_2, ln_4, ln_6, ln_8, ln_10, ln_11, ln_12, ln_13, ln_14, ln_16, ln_17, ln_18, ln_19, ln_20, ln_21, ln_23, ln_24, ln_25, ln_27, ln_28, ln_29, hw, decide_false, Bool.false_eq_true, Nat.add_zero] at this ⊢
        exact this
  simp (disch := first | assumption | exact isSc1 | exact isSc3 | exact isSc5 | decide | omega) only [eX6_beatsOn, iX6_beatsOn_0, iX6_beatsOn_1, iX6_beatsOn_2, iX6_beatsOn_3]
  exact loop B 0 (by omega)
theorem x_longestFlight (hW : Wgt M B L n g) (hB : B ≤ 48) : wc 59 [.inr 9] M Q ↔ Q (some (nI (mxF (flN (ftN B n g) B) B))) M := by
  have h0 := hW.1
  have loop : ∀ d b : Nat, b + d = B → (wp 59 4 [some (.inr 9), some (.inl (nI (mxF (flN (ftN B n g) B) b))), some (.inl (nI b))] [] M Q ↔ Q (some (nI (mxF (flN (ftN B n g) B) B))) M) := by
    intro d
    induction d with
    | zero =>
      intro b hb
      have hb : b = B := by omega
      subst hb
      rw [iX6_longestFlight_4]
      simp (disch := first | assumption | exact isSc1 | exact isSc3 | exact isSc5 | decide | omega) only [iX6_longestFlight_5, iX6_longestFlight_6, iX6_longestFlight_9, iX6_longestFlight_29, iX6_longestFlight_30, Nat.reduceAdd, Nat.reduceSub, Nat.reduceMul, Nat.reduceLeDiff, mm_rv_s, mm_rv_n, true_and, and_true, if_true, if_false, not_true_eq_false, not_false_eq_true, nI_add, nz_0, nz_lt0, nz_0le, nz_0lt, nz_le0, nz_lt, nz_le, nz_eq, nz_cl, nz_in, nz_sub, nz_m1, pk_mul, set_o, set_ne, up_ne, up_set, n1_1, true_or, or_true, n1_01, n0_01, bI_01, bI_01b, bI_0, isSc1, isSc3, isSc5, ln_2, ln_4, ln_6, ln_8, ln_10, ln_11, ln_12, ln_13, ln_14, ln_16, ln_17, ln_18, ln_19, ln_20, ln_21, ln_23, ln_24, ln_25, ln_27, ln_28, ln_29, h0, Nat.le_refl]
    | succ d ih =>
      intro b hb
      have := ih (b + 1) (by omega)
      have e := hW.2.2.2.2 b (by omega)
      have b3 := flN_le (ftN B n g) (show b < B by omega)
      have b4 := mxF_le (flN (ftN B n g) B) (m := B) b (fun t ht => flN_le (ftN B n g) (show t < B by omega))
      have em : (if nI (mxF (flN (ftN B n g) B) b) < nI (flN (ftN B n g) B b) then nI (flN (ftN B n g) B b) else nI (mxF (flN (ftN B n g) B) b)) = nI (mxF (flN (ftN B n g) B) (b + 1)) := by
        simp (disch := omega) only [nz_lt, mxF]
        split <;> rfl
      rw [iX6_longestFlight_4]
      simp (disch := first | assumption | exact isSc1 | exact isSc3 | exact isSc5 | decide | omega) only [iX6_longestFlight_5, iX6_longestFlight_6, iX6_longestFlight_9, iX6_longestFlight_12, iX6_longestFlight_13, iX6_longestFlight_14, iX6_longestFlight_17, iX6_longestFlight_18, Nat.reduceAdd, Nat.reduceSub, Nat.reduceMul, Nat.reduceLeDiff, mm_rv_s, mm_rv_n, true_and, and_true, if_true, if_false, not_true_eq_false, not_false_eq_true, nI_add, nz_0, nz_lt0, nz_0le, nz_0lt, nz_le0, nz_lt, nz_le, nz_eq, nz_cl, nz_in, nz_sub, nz_m1, pk_mul, set_o, set_ne, up_ne, up_set, n1_1, true_or, or_true, n1_01, n0_01, bI_01, bI_01b, bI_0, isSc1, isSc3, isSc5, ln_2, ln_4, ln_6, ln_8, ln_10, ln_11, ln_12, ln_13, ln_14, ln_16, ln_17, ln_18, ln_19, ln_20, ln_21, ln_23, ln_24, ln_25, ln_27, ln_28, ln_29, h0, show ¬ B ≤ b by omega, e]
      rw [iX6_longestFlight_19, p_max, em]
      simp (disch := first | assumption | exact isSc1 | exact isSc3 | exact isSc5 | decide | omega) only [iX6_longestFlight_22, iX6_longestFlight_23, iX6_longestFlight_26, Nat.reduceAdd, Nat.reduceSub, Nat.reduceMul, Nat.reduceLeDiff, mm_rv_s, mm_rv_n, true_and, and_true, if_true, if_false, not_true_eq_false, not_false_eq_true, nI_add, nz_0, nz_lt0, nz_0le, nz_0lt, nz_le0, nz_lt, nz_le, nz_eq, nz_cl, nz_in, nz_sub, nz_m1, pk_mul, set_o, set_ne, up_ne, up_set, n1_1, true_or, or_true, n1_01, n0_01, bI_01, bI_01b, bI_0, isSc1, isSc3, isSc5, ln_2, ln_4, ln_6, ln_8, ln_10, ln_11, ln_12, ln_13, ln_14, ln_16, ln_17, ln_18, ln_19, ln_20, ln_21, ln_23, ln_24, ln_25, ln_27, ln_28, ln_29]
      exact this
  simp (disch := first | assumption | exact isSc1 | exact isSc3 | exact isSc5 | decide | omega) only [eX6_longestFlight, iX6_longestFlight_0, iX6_longestFlight_1, iX6_longestFlight_2, iX6_longestFlight_3]
  exact loop B 0 (by omega)
theorem x_flightCount (hW : Wgt M B L n g) (hB : B ≤ 48) : wc 60 [.inr 9] M Q ↔ Q (some (nI (fcF (flN (ftN B n g) B) B))) M := by
  have h0 := hW.1
  have loop : ∀ d b : Nat, b + d = B → (wp 60 6 [some (.inr 9), some (.inl (nI (fcF (flN (ftN B n g) B) b))), some (.inl (nI (prv (flN (ftN B n g) B) b))), some (.inl (nI b))] [] M Q ↔ Q (some (nI (fcF (flN (ftN B n g) B) B))) M) := by
    intro d
    induction d with
    | zero =>
      intro b hb
      have hb : b = B := by omega
      subst hb
      rw [iX6_flightCount_6]
      simp (disch := first | assumption | exact isSc1 | exact isSc3 | exact isSc5 | decide | omega) only [iX6_flightCount_7, iX6_flightCount_8, iX6_flightCount_11, iX6_flightCount_43, iX6_flightCount_44, Nat.reduceAdd, Nat.reduceSub, Nat.reduceMul, Nat.reduceLeDiff, mm_rv_s, mm_rv_n, true_and, and_true, if_true, if_false, not_true_eq_false, not_false_eq_true, nI_add, nz_0, nz_lt0, nz_0le, nz_0lt, nz_le0, nz_lt, nz_le, nz_eq, nz_cl, nz_in, nz_sub, nz_m1, pk_mul, set_o, set_ne, up_ne, up_set, n1_1, true_or, or_true, n1_01, n0_01, bI_01, bI_01b, bI_0, isSc1, isSc3, isSc5, ln_2, ln_4, ln_6, ln_8, ln_10, ln_11, ln_12, ln_13, ln_14, ln_16, ln_17, ln_18, ln_19, ln_20, ln_21, ln_23, ln_24, ln_25, ln_27, ln_28, ln_29, h0, Nat.le_refl]
    | succ d ih =>
      intro b hb
      have := ih (b + 1) (by omega)
      have e := hW.2.2.2.2 b (by omega)
      have b3 := flN_le (ftN B n g) (show b < B by omega)
      have b5 : prv (flN (ftN B n g) B) b ≤ B := by
        cases b with
        | zero => exact Nat.zero_le _
        | succ b => exact flN_le (ftN B n g) (show b < B by omega)
      have ep : prv (flN (ftN B n g) B) (b + 1) = flN (ftN B n g) B b := rfl
      rw [ep] at this
      rw [fcF_s] at this
      rw [iX6_flightCount_6]
      simp (disch := first | assumption | exact isSc1 | exact isSc3 | exact isSc5 | decide | omega) only [iX6_flightCount_7, iX6_flightCount_8, iX6_flightCount_11, iX6_flightCount_14, iX6_flightCount_15, iX6_flightCount_18, iX6_flightCount_19, iX6_flightCount_20, Nat.reduceAdd, Nat.reduceSub, Nat.reduceMul, Nat.reduceLeDiff, mm_rv_s, mm_rv_n, true_and, and_true, if_true, if_false, not_true_eq_false, not_false_eq_true, nI_add, nz_0, nz_lt0, nz_0le, nz_0lt, nz_le0, nz_lt, nz_le, nz_eq, nz_cl, nz_in, nz_sub, nz_m1, pk_mul, set_o, set_ne, up_ne, up_set, n1_1, true_or, or_true, n1_01, n0_01, bI_01, bI_01b, bI_0, isSc1, isSc3, isSc5, ln_2, ln_4, ln_6, ln_8, ln_10, ln_11, ln_12, ln_13, ln_14, ln_16, ln_17, ln_18, ln_19, ln_20, ln_21, ln_23, ln_24, ln_25, ln_27, ln_28, ln_29, h0, show ¬ B ≤ b by omega, e]
      by_cases k1 : flN (ftN B n g) B b = 0
      · rw [k1] at this e
        simp (disch := first | assumption | exact isSc1 | exact isSc3 | exact isSc5 | decide | omega) only [iX6_flightCount_30, iX6_flightCount_31, iX6_flightCount_34, iX6_flightCount_35, iX6_flightCount_36, iX6_flightCount_37, iX6_flightCount_40, Nat.reduceAdd, Nat.reduceSub, Nat.reduceMul, Nat.reduceLeDiff, mm_rv_s, mm_rv_n, true_and, and_true, if_true, if_false, not_true_eq_false, not_false_eq_true, nI_add, nz_0, nz_lt0, nz_0le, nz_0lt, nz_le0, nz_lt, nz_le, nz_eq, nz_cl, nz_in, nz_sub, nz_m1, pk_mul, set_o, set_ne, up_ne, up_set, n1_1, true_or, or_true, n1_01, n0_01, bI_01, bI_01b, bI_0, isSc1, isSc3, isSc5, ln_2, ln_4, ln_6, ln_8, ln_10, ln_11, ln_12, ln_13, ln_14, ln_16, ln_17, ln_18, ln_19, ln_20, ln_21, ln_23, ln_24, ln_25, ln_27, ln_28, ln_29, k1, e, Nat.lt_irrefl, false_and, Nat.add_zero] at this ⊢
        exact this
      · by_cases k2 : prv (flN (ftN B n g) B) b = 0
        · simp (disch := first | assumption | exact isSc1 | exact isSc3 | exact isSc5 | decide | omega) only [iX6_flightCount_23, iX6_flightCount_24, iX6_flightCount_27, iX6_flightCount_30, iX6_flightCount_31, iX6_flightCount_34, iX6_flightCount_35, iX6_flightCount_36, iX6_flightCount_37, iX6_flightCount_40, Nat.reduceAdd, Nat.reduceSub, Nat.reduceMul, Nat.reduceLeDiff, mm_rv_s, mm_rv_n, true_and, and_true, if_true, if_false, not_true_eq_false, not_false_eq_true, nI_add, nz_0, nz_lt0, nz_0le, nz_0lt, nz_le0, nz_lt, nz_le, nz_eq, nz_cl, nz_in, nz_sub, nz_m1, pk_mul, set_o, set_ne, up_ne, up_set, n1_1, true_or, or_true, n1_01, n0_01, bI_01, bI_01b, bI_0, isSc1, isSc3, isSc5, ln_2, ln_4, ln_6, ln_8, ln_10, ln_11, ln_12, ln_13, ln_14, ln_16, ln_17, ln_18, ln_19, ln_20, ln_21, ln_23, ln_24, ln_25, ln_27, ln_28, ln_29, k1, k2, e, show 0 < flN (ftN B n g) B b by omega, and_self] at this ⊢
          exact this
        · simp (disch := first | assumption | exact isSc1 | exact isSc3 | exact isSc5 | decide | omega) only [iX6_flightCount_23, iX6_flightCount_24, iX6_flightCount_27, iX6_flightCount_30, iX6_flightCount_31, iX6_flightCount_34, iX6_flightCount_35, iX6_flightCount_36, iX6_flightCount_37, iX6_flightCount_40, Nat.reduceAdd, Nat.reduceSub, Nat.reduceMul, Nat.reduceLeDiff, mm_rv_s, mm_rv_n, true_and, and_true, if_true, if_false, not_true_eq_false, not_false_eq_true, nI_add, nz_0, nz_lt0, nz_0le, nz_0lt, nz_le0, nz_lt, nz_le, nz_eq, nz_cl, nz_in, nz_sub, nz_m1, pk_mul, set_o, set_ne, up_ne, up_set, n1_1, true_or, or_true, n1_01, n0_01, bI_01, bI_01b, bI_0, isSc1, isSc3, isSc5, ln_2, ln_4, ln_6, ln_8, ln_10, ln_11, ln_12, ln_13, ln_14, ln_16, ln_17, ln_18, ln_19, ln_20, ln_21, ln_23, ln_24, ln_25, ln_27, ln_28, ln_29, k1, k2, e, and_false, Nat.add_zero] at this ⊢
          exact this
  simp (disch := first | assumption | exact isSc1 | exact isSc3 | exact isSc5 | decide | omega) only [eX6_flightCount, iX6_flightCount_0, iX6_flightCount_1, iX6_flightCount_2, iX6_flightCount_3, iX6_flightCount_4, iX6_flightCount_5]
  exact loop B 0 (by omega)
theorem x_isAnyLegTold (hW : Wgt M B L n g) (hB : B ≤ 48) : wc 61 [.inr 9] M Q ↔ Q (some (bI (anF (fun t => decide (twN B n g t ≠ 0)) B 0))) M := by
  have h0 := hW.1
  have loop : ∀ d b : Nat, b + d = B → (wp 61 2 [some (.inr 9), some (.inl (nI b))] [] M Q ↔ Q (some (bI (anF (fun t => decide (twN B n g t ≠ 0)) d b))) M) := by
    intro d
    induction d with
    | zero =>
      intro b hb
      have hb : b = B := by omega
      subst hb
      rw [iX6_isAnyLegTold_2]
      simp (disch := first | assumption | exact isSc1 | exact isSc3 | exact isSc5 | decide | omega) only [iX6_isAnyLegTold_3, iX6_isAnyLegTold_4, iX6_isAnyLegTold_7, iX6_isAnyLegTold_27, iX6_isAnyLegTold_28, Nat.reduceAdd, Nat.reduceSub, Nat.reduceMul, Nat.reduceLeDiff, mm_rv_s, mm_rv_n, true_and, and_true, if_true, if_false, not_true_eq_false, not_false_eq_true, nI_add, nz_0, nz_lt0, nz_0le, nz_0lt, nz_le0, nz_lt, nz_le, nz_eq, nz_cl, nz_in, nz_sub, nz_m1, pk_mul, set_o, set_ne, up_ne, up_set, n1_1, true_or, or_true, n1_01, n0_01, bI_01, bI_01b, bI_0, isSc1, isSc3, isSc5, ln_2, ln_4, ln_6, ln_8, ln_10, ln_11, ln_12, ln_13, ln_14, ln_16, ln_17, ln_18, ln_19, ln_20, ln_21, ln_23, ln_24, ln_25, ln_27, ln_28, ln_29, h0, Nat.le_refl, anF, bI, Bool.false_eq_true]
    | succ d ih =>
      intro b hb
      have := ih (b + 1) (by omega)
      have e := hW.2.2.2.1 b (by omega)
      have b3 := twN_le B n g b
      rw [iX6_isAnyLegTold_2]
      unfold anF
      simp (disch := first | assumption | exact isSc1 | exact isSc3 | exact isSc5 | decide | omega) only [iX6_isAnyLegTold_3, iX6_isAnyLegTold_4, iX6_isAnyLegTold_7, iX6_isAnyLegTold_10, iX6_isAnyLegTold_11, iX6_isAnyLegTold_14, iX6_isAnyLegTold_15, iX6_isAnyLegTold_16, Nat.reduceAdd, Nat.reduceSub, Nat.reduceMul, Nat.reduceLeDiff, mm_rv_s, mm_rv_n, true_and, and_true, if_true, if_false, not_true_eq_false, not_false_eq_true, nI_add, nz_0, nz_lt0, nz_0le, nz_0lt, nz_le0, nz_lt, nz_le, nz_eq, nz_cl, nz_in, nz_sub, nz_m1, pk_mul, set_o, set_ne, up_ne, up_set, n1_1, true_or, or_true, n1_01, n0_01, bI_01, bI_01b, bI_0, isSc1, isSc3, isSc5, ln_2, ln_4, ln_6, ln_8, ln_10, ln_11, ln_12, ln_13, ln_14, ln_16, ln_17, ln_18, ln_19, ln_20, ln_21, ln_23, ln_24, ln_25, ln_27, ln_28, ln_29, h0, show ¬ B ≤ b by omega, e, ne_eq]
      by_cases k : twN B n g b = 0
      · simp (disch := first | assumption | exact isSc1 | exact isSc3 | exact isSc5 | decide | omega) only [iX6_isAnyLegTold_19, iX6_isAnyLegTold_20, iX6_isAnyLegTold_21, iX6_isAnyLegTold_24, Nat.reduceAdd, Nat.reduceSub, Nat.reduceMul, Nat.reduceLeDiff, mm_rv_s, mm_rv_n, true_and, and_true, if_true, if_false, not_true_eq_false, not_false_eq_true, nI_add, nz_0, nz_lt0, nz_0le, nz_0lt, nz_le0, nz_lt, nz_le, nz_eq, nz_cl, nz_in, nz_sub, nz_m1, pk_mul, set_o, set_ne, up_ne, up_set, n1_1, true_or, or_true, n1_01, n0_01, bI_01, bI_01b, bI_0, isSc1, isSc3, isSc5, ln_2, ln_4, ln_6, ln_8, ln_10, ln_11, ln_12, ln_13, ln_14, ln_16, ln_17, ln_18, ln_19, ln_20, ln_21, ln_23, ln_24, ln_25, ln_27, ln_28, ln_29, k, decide_false, Bool.false_eq_true]
        exact this
      · simp (disch := first | assumption | exact isSc1 | exact isSc3 | exact isSc5 | decide | omega) only [iX6_isAnyLegTold_19, iX6_isAnyLegTold_20, iX6_isAnyLegTold_21, iX6_isAnyLegTold_24, Nat.reduceAdd, Nat.reduceSub, Nat.reduceMul, Nat.reduceLeDiff, mm_rv_s, mm_rv_n, true_and, and_true, if_true, if_false, not_true_eq_false, not_false_eq_true, nI_add, nz_0, nz_lt0, nz_0le, nz_0lt, nz_le0, nz_lt, nz_le, nz_eq, nz_cl, nz_in, nz_sub, nz_m1, pk_mul, set_o, set_ne, up_ne, up_set, n1_1, true_or, or_true, n1_01, n0_01, bI_01, bI_01b, bI_0, isSc1, isSc3, isSc5, ln_2, ln_4, ln_6, ln_8, ln_10, ln_11, ln_12, ln_13, ln_14, ln_16, ln_17, ln_18, ln_19, ln_20, ln_21, ln_23, ln_24, ln_25, ln_27, ln_28, ln_29, k, decide_true, bI]
  simp (disch := first | assumption | exact isSc1 | exact isSc3 | exact isSc5 | decide | omega) only [eX6_isAnyLegTold, iX6_isAnyLegTold_0, iX6_isAnyLegTold_1]
  exact loop B 0 (by omega)
def bpB (B L n : Nat) (g : Nat → Sg) (w b : Nat) : Bool := if w = 0 then wrB B L n g b else decide (w < 5 ∧ ftN B n g b = w - 1)
def btV (B L n : Nat) (g : Nat → Sg) (w : Nat) : Int32 := if w = 5 then nI (mxF (flN (ftN B n g) B) B) else if w = 6 then nI (fcF (flN (ftN B n g) B) B) else nI (cntF (bpB B L n g w) B)
end BT

