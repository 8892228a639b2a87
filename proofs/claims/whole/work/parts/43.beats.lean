/-! PAIRS: beats, leastLeap, covered -/
def cntF (p : Nat → Bool) : Nat → Nat
  | 0 => 0
  | b + 1 => cntF p b + (if p b = true then 1 else 0)
def mxF (f : Nat → Nat) : Nat → Nat
  | 0 => 0
  | b + 1 => if mxF f b < f b then f b else mxF f b
def prv (f : Nat → Nat) : Nat → Nat
  | 0 => 0
  | b + 1 => f b
def fcF (f : Nat → Nat) : Nat → Nat
  | 0 => 0
  | b + 1 => fcF f b + (if 0 < f b ∧ prv f b = 0 then 1 else 0)
def anF (p : Nat → Bool) : Nat → Nat → Bool
  | 0, _ => false
  | d + 1, t => if p t = true then true else anF p d (t + 1)
theorem cntF_s (p : Nat → Bool) (b : Nat) : cntF p (b + 1) = cntF p b + (if p b = true then 1 else 0) := rfl
theorem fcF_s (f : Nat → Nat) (b : Nat) : fcF f (b + 1) = fcF f b + (if 0 < f b ∧ prv f b = 0 then 1 else 0) := rfl
theorem cntF_le (p : Nat → Bool) : ∀ b, cntF p b ≤ b := by
  intro b
  induction b with
  | zero => exact Nat.le_refl 0
  | succ b ih => unfold cntF; split <;> omega
theorem fcF_le (f : Nat → Nat) : ∀ b, fcF f b ≤ b := by
  intro b
  induction b with
  | zero => exact Nat.le_refl 0
  | succ b ih => unfold fcF; split <;> omega
theorem mxF_le (f : Nat → Nat) {m : Nat} : ∀ b, (∀ t, t < b → f t ≤ m) → mxF f b ≤ m := by
  intro b
  induction b with
  | zero => intro _; exact Nat.zero_le m
  | succ b ih =>
    intro h
    have := ih (fun t ht => h t (by omega))
    have := h b (by omega)
    unfold mxF
    split <;> omega
section BT
variable {B L n : Nat} {g : Nat → Sg} {M : mm_M} {Q : mm_Q}
theorem x_wrongBeats (hW : Wgt M B L n g) (hB : B ≤ 48) (hL : L ≤ 8) : wc 57 [.inr 9] M Q ↔ Q (some (nI (cntF (wrB B L n g) B))) M := by
  have h0 := hW.1
  have loop : ∀ d b : Nat, b + d = B → (wp 57 4 [some (.inr 9), some (.inl (nI (cntF (wrB B L n g) b))), some (.inl (nI b))] [] M Q ↔ Q (some (nI (cntF (wrB B L n g) B))) M) := by
    intro d
    induction d with
    | zero =>
      intro b hb
      have hb : b = B := by omega
      subst hb
      rw [iX6_wrongBeats_4]
      simp (disch := first | assumption | exact isSc1 | exact isSc3 | exact isSc5 | decide | omega) only [iX6_wrongBeats_5, iX6_wrongBeats_6, iX6_wrongBeats_9, iX6_wrongBeats_29, iX6_wrongBeats_30, Nat.reduceAdd, Nat.reduceSub, Nat.reduceMul, Nat.reduceLeDiff, mm_rv_s, mm_rv_n, true_and, and_true, if_true, if_false, not_true_eq_false, not_false_eq_true, nI_add, nz_0, nz_lt0, nz_0le, nz_0lt, nz_le0, nz_lt, nz_le, nz_eq, nz_cl, nz_in, nz_sub, nz_m1, pk_mul, set_o, set_ne, up_ne, up_set, n1_1, true_or, or_true, n1_01, n0_01, bI_01, bI_01b, bI_0, isSc1, isSc3, isSc5, ln_2, ln_4, ln_6, ln_8, ln_10, ln_11, ln_12, ln_13, ln_14, ln_16, ln_17, ln_18, ln_19, ln_20, ln_21, ln_23, ln_24, ln_25, ln_27, ln_28, ln_29, ln_31, ln_32, ln_33, ln_35, ln_36, ln_37, h0, Nat.le_refl]
    | succ d ih =>
      intro b hb
      have := ih (b + 1) (by omega)
      rw [cntF_s] at this
      rw [iX6_wrongBeats_4]
      simp (disch := first | assumption | exact isSc1 | exact isSc3 | exact isSc5 | decide | omega) only [iX6_wrongBeats_5, iX6_wrongBeats_6, iX6_wrongBeats_9, iX6_wrongBeats_12, iX6_wrongBeats_13, iX6_wrongBeats_14, Nat.reduceAdd, Nat.reduceSub, Nat.reduceMul, Nat.reduceLeDiff, mm_rv_s, mm_rv_n, true_and, and_true, if_true, if_false, not_true_eq_false, not_false_eq_true, nI_add, nz_0, nz_lt0, nz_0le, nz_0lt, nz_le0, nz_lt, nz_le, nz_eq, nz_cl, nz_in, nz_sub, nz_m1, pk_mul, set_o, set_ne, up_ne, up_set, n1_1, true_or, or_true, n1_01, n0_01, bI_01, bI_01b, bI_0, isSc1, isSc3, isSc5, ln_2, ln_4, ln_6, ln_8, ln_10, ln_11, ln_12, ln_13, ln_14, ln_16, ln_17, ln_18, ln_19, ln_20, ln_21, ln_23, ln_24, ln_25, ln_27, ln_28, ln_29, ln_31, ln_32, ln_33, ln_35, ln_36, ln_37, h0, show ¬ B ≤ b by omega, x_isWrong hW hB hL (show b < B by omega)]
      cases hw : wrB B L n g b
      · rw [hw] at this
        simp (disch := first | assumption | exact isSc1 | exact isSc3 | exact isSc5 | decide | omega) only [iX6_wrongBeats_17, iX6_wrongBeats_20, iX6_wrongBeats_23, iX6_wrongBeats_26, Nat.reduceAdd, Nat.reduceSub, Nat.reduceMul, Nat.reduceLeDiff, mm_rv_s, mm_rv_n, true_and, and_true, if_true, if_false, not_true_eq_false, not_false_eq_true, nI_add, nz_0, nz_lt0, nz_0le, nz_0lt, nz_le0, nz_lt, nz_le, nz_eq, nz_cl, nz_in, nz_sub, nz_m1, pk_mul, set_o, set_ne, up_ne, up_set, n1_1, true_or, or_true, n1_01, n0_01, bI_01, bI_01b, bI_0, isSc1, isSc3, isSc5, ln_2, ln_4, ln_6, ln_8, ln_10, ln_11, ln_12, ln_13, ln_14, ln_16, ln_17, ln_18, ln_19, ln_20, ln_21, ln_23, ln_24, ln_25, ln_27, ln_28, ln_29, ln_31, ln_32, ln_33, ln_35, ln_36, ln_37, bI, Bool.false_eq_true, Nat.add_zero] at this ⊢
        exact this
      · rw [hw] at this
        simp (disch := first | assumption | exact isSc1 | exact isSc3 | exact isSc5 | decide | omega) only [iX6_wrongBeats_17, iX6_wrongBeats_20, iX6_wrongBeats_23, iX6_wrongBeats_26, Nat.reduceAdd, Nat.reduceSub, Nat.reduceMul, Nat.reduceLeDiff, mm_rv_s, mm_rv_n, true_and, and_true, if_true, if_false, not_true_eq_false, not_false_eq_true, nI_add, nz_0, nz_lt0, nz_0le, nz_0lt, nz_le0, nz_lt, nz_le, nz_eq, nz_cl, nz_in, nz_sub, nz_m1, pk_mul, set_o, set_ne, up_ne, up_set, n1_1, true_or, or_true, n1_01, n0_01, bI_01, bI_01b, bI_0, isSc1, isSc3, isSc5, ln_2, ln_4, ln_6, ln_8, ln_10, ln_11, ln_12, ln_13, ln_14, ln_16, ln_17, ln_18, ln_19, ln_20, ln_21, ln_23, ln_24, ln_25, ln_27, ln_28, ln_29, ln_31, ln_32, ln_33, ln_35, ln_36, ln_37, bI] at this ⊢
        exact this
  simp (disch := first | assumption | exact isSc1 | exact isSc3 | exact isSc5 | decide | omega) only [eX6_wrongBeats, iX6_wrongBeats_0, iX6_wrongBeats_1, iX6_wrongBeats_2, iX6_wrongBeats_3]
  exact loop B 0 (by omega)
theorem x_beatsOn (hW : Wgt M B L n g) (hB : B ≤ 48) {w : Nat} (hw : w ≤ 9) : wc 58 [.inr 9, .inl (nI w)] M Q ↔ Q (some (nI (cntF (fun t => decide (ftN B n g t = w)) B))) M := by
  have h0 := hW.1
  have loop : ∀ d b : Nat, b + d = B → (wp 58 4 [some (.inr 9), some (.inl (nI w)), some (.inl (nI (cntF (fun t => decide (ftN B n g t = w)) b))), some (.inl (nI b))] [] M Q ↔ Q (some (nI (cntF (fun t => decide (ftN B n g t = w)) B))) M) := by
    intro d
    induction d with
    | zero =>
      intro b hb
      have hb : b = B := by omega
      subst hb
      rw [iX6_beatsOn_4]
      simp (disch := first | assumption | exact isSc1 | exact isSc3 | exact isSc5 | decide | omega) only [iX6_beatsOn_5, iX6_beatsOn_6, iX6_beatsOn_9, iX6_beatsOn_31, iX6_beatsOn_32, Nat.reduceAdd, Nat.reduceSub, Nat.reduceMul, Nat.reduceLeDiff, mm_rv_s, mm_rv_n, true_and, and_true, if_true, if_false, not_true_eq_false, not_false_eq_true, nI_add, nz_0, nz_lt0, nz_0le, nz_0lt, nz_le0, nz_lt, nz_le, nz_eq, nz_cl, nz_in, nz_sub, nz_m1, pk_mul, set_o, set_ne, up_ne, up_set, n1_1, true_or, or_true, n1_01, n0_01, bI_01, bI_01b, bI_0, isSc1, isSc3, isSc5, ln_2, ln_4, ln_6, ln_8, ln_10, ln_11, ln_12, ln_13, ln_14, ln_16, ln_17, ln_18, ln_19, ln_20, ln_21, ln_23, ln_24, ln_25, ln_27, ln_28, ln_29, ln_31, ln_32, ln_33, ln_35, ln_36, ln_37, h0, Nat.le_refl]
    | succ d ih =>
      intro b hb
      have := ih (b + 1) (by omega)
      rw [cntF_s] at this
      have e := hW.2.2.1 b (by omega)
      have b3 := ftN_le B n g b
      rw [iX6_beatsOn_4]
      simp (disch := first | assumption | exact isSc1 | exact isSc3 | exact isSc5 | decide | omega) only [iX6_beatsOn_5, iX6_beatsOn_6, iX6_beatsOn_9, iX6_beatsOn_12, iX6_beatsOn_13, iX6_beatsOn_16, iX6_beatsOn_17, iX6_beatsOn_18, iX6_beatsOn_19, Nat.reduceAdd, Nat.reduceSub, Nat.reduceMul, Nat.reduceLeDiff, mm_rv_s, mm_rv_n, true_and, and_true, if_true, if_false, not_true_eq_false, not_false_eq_true, nI_add, nz_0, nz_lt0, nz_0le, nz_0lt, nz_le0, nz_lt, nz_le, nz_eq, nz_cl, nz_in, nz_sub, nz_m1, pk_mul, set_o, set_ne, up_ne, up_set, n1_1, true_or, or_true, n1_01, n0_01, bI_01, bI_01b, bI_0, isSc1, isSc3, isSc5, ln_2, ln_4, ln_6, ln_8, ln_10, ln_11, ln_12, ln_13, ln_14, ln_16, ln_17, ln_18, ln_19, ln_20, ln_21, ln_23, ln_24, ln_25, ln_27, ln_28, ln_29, ln_31, ln_32, ln_33, ln_35, ln_36, ln_37, h0, show ¬ B ≤ b by omega, e]
      by_cases hw : ftN B n g b = w
      · simp (disch := first | assumption | exact isSc1 | exact isSc3 | exact isSc5 | decide | omega) only [iX6_beatsOn_22, iX6_beatsOn_25, iX6_beatsOn_28, Nat.reduceAdd, Nat.reduceSub, Nat.reduceMul, Nat.reduceLeDiff, mm_rv_s, mm_rv_n, true_and, and_true, if_true, if_false, not_true_eq_false, not_false_eq_true, nI_add, nz_0, nz_lt0, nz_0le, nz_0lt, nz_le0, nz_lt, nz_le, nz_eq, nz_cl, nz_in, nz_sub, nz_m1, pk_mul, set_o, set_ne, up_ne, up_set, n1_1, true_or, or_true, n1_01, n0_01, bI_01, bI_01b, bI_0, isSc1, isSc3, isSc5, ln_2, ln_4, ln_6, ln_8, ln_10, ln_11, ln_12, ln_13, ln_14, ln_16, ln_17, ln_18, ln_19, ln_20, ln_21, ln_23, ln_24, ln_25, ln_27, ln_28, ln_29, ln_31, ln_32, ln_33, ln_35, ln_36, ln_37, hw, decide_true] at this ⊢
        exact this
      · simp (disch := first | assumption | exact isSc1 | exact isSc3 | exact isSc5 | decide | omega) only [iX6_beatsOn_22, iX6_beatsOn_25, iX6_beatsOn_28, Nat.reduceAdd, Nat.reduceSub, Nat.reduceMul, Nat.reduceLeDiff, mm_rv_s, mm_rv_n, true_and, and_true, if_true, if_false, not_true_eq_false, not_false_eq_true, nI_add, nz_0, nz_lt0, nz_0le, nz_0lt, nz_le0, nz_lt, nz_le, nz_eq, nz_cl, nz_in, nz_sub, nz_m1, pk_mul, set_o, set_ne, up_ne, up_set, n1_1, true_or, or_true, n1_01, n0_01, bI_01, bI_01b, bI_0, isSc1, isSc3, isSc5, ln_2, ln_4, ln_6, ln_8, ln_10, ln_11, ln_12, ln_13, ln_14, ln_16, ln_17, ln_18, ln_19, ln_20, ln_21, ln_23, ln_24, ln_25, ln_27, ln_28, ln_29, ln_31, ln_32, ln_33, ln_35, ln_36, ln_37, hw, decide_false, Bool.false_eq_true, Nat.add_zero] at this ⊢
        exact this
  simp (disch := first | assumption | exact isSc1 | exact isSc3 | exact isSc5 | decide | omega) only [eX6_beatsOn, iX6_beatsOn_0, iX6_beatsOn_1, iX6_beatsOn_2, iX6_beatsOn_3]
  exact loop B 0 (by omega)
theorem x_longestFlight (hW : Wgt M B L n g) (hB : B ≤ 48) : wc 59 [.inr 9] M Q ↔ Q (some (nI (mxF (flN (ftN B n g) B) B))) M := by
  have h0 := hW.1
  have loop : ∀ d b : Nat, b + d = B → (wp 59 4 [some (.inr 9), some (.inl (nI (mxF (flN (ftN B n g) B) b))), some (.inl (nI b))] [] M Q ↔ Q (some (nI (mxF (flN (ftN B n g) B) B))) M) := by
    intro d
    induction d with
    | zero =>
      intro b hb
      have hb : b = B := by omega
      subst hb
      rw [iX6_longestFlight_4]
      simp (disch := first | assumption | exact isSc1 | exact isSc3 | exact isSc5 | decide | omega) only [iX6_longestFlight_5, iX6_longestFlight_6, iX6_longestFlight_9, iX6_longestFlight_29, iX6_longestFlight_30, Nat.reduceAdd, Nat.reduceSub, Nat.reduceMul, Nat.reduceLeDiff, mm_rv_s, mm_rv_n, true_and, and_true, if_true, if_false, not_true_eq_false, not_false_eq_true, nI_add, nz_0, nz_lt0, nz_0le, nz_0lt, nz_le0, nz_lt, nz_le, nz_eq, nz_cl, nz_in, nz_sub, nz_m1, pk_mul, set_o, set_ne, up_ne, up_set, n1_1, true_or, or_true, n1_01, n0_01, bI_01, bI_01b, bI_0, isSc1, isSc3, isSc5, ln_2, ln_4, ln_6, ln_8, ln_10, ln_11, ln_12, ln_13, ln_14, ln_16, ln_17, ln_18, ln_19, ln_20, ln_21, ln_23, ln_24, ln_25, ln_27, ln_28, ln_29, ln_31, ln_32, ln_33, ln_35, ln_36, ln_37, h0, Nat.le_refl]
    | succ d ih =>
      intro b hb
      have := ih (b + 1) (by omega)
      have e := hW.2.2.2.2 b (by omega)
      have b3 := flN_le (ftN B n g) (show b < B by omega)
      have b4 := mxF_le (flN (ftN B n g) B) (m := B) b (fun t ht => flN_le (ftN B n g) (show t < B by omega))
      have em : (if nI (mxF (flN (ftN B n g) B) b) < nI (flN (ftN B n g) B b) then nI (flN (ftN B n g) B b) else nI (mxF (flN (ftN B n g) B) b)) = nI (mxF (flN (ftN B n g) B) (b + 1)) := by
        simp (disch := omega) only [nz_lt, mxF]
        split <;> rfl
      rw [iX6_longestFlight_4]
      simp (disch := first | assumption | exact isSc1 | exact isSc3 | exact isSc5 | decide | omega) only [iX6_longestFlight_5, iX6_longestFlight_6, iX6_longestFlight_9, iX6_longestFlight_12, iX6_longestFlight_13, iX6_longestFlight_14, iX6_longestFlight_17, iX6_longestFlight_18, Nat.reduceAdd, Nat.reduceSub, Nat.reduceMul, Nat.reduceLeDiff, mm_rv_s, mm_rv_n, true_and, and_true, if_true, if_false, not_true_eq_false, not_false_eq_true, nI_add, nz_0, nz_lt0, nz_0le, nz_0lt, nz_le0, nz_lt, nz_le, nz_eq, nz_cl, nz_in, nz_sub, nz_m1, pk_mul, set_o, set_ne, up_ne, up_set, n1_1, true_or, or_true, n1_01, n0_01, bI_01, bI_01b, bI_0, isSc1, isSc3, isSc5, ln_2, ln_4, ln_6, ln_8, ln_10, ln_11, ln_12, ln_13, ln_14, ln_16, ln_17, ln_18, ln_19, ln_20, ln_21, ln_23, ln_24, ln_25, ln_27, ln_28, ln_29, ln_31, ln_32, ln_33, ln_35, ln_36, ln_37, h0, show ¬ B ≤ b by omega, e]
      rw [iX6_longestFlight_19, p_max, em]
      simp (disch := first | assumption | exact isSc1 | exact isSc3 | exact isSc5 | decide | omega) only [iX6_longestFlight_22, iX6_longestFlight_23, iX6_longestFlight_26, Nat.reduceAdd, Nat.reduceSub, Nat.reduceMul, Nat.reduceLeDiff, mm_rv_s, mm_rv_n, true_and, and_true, if_true, if_false, not_true_eq_false, not_false_eq_true, nI_add, nz_0, nz_lt0, nz_0le, nz_0lt, nz_le0, nz_lt, nz_le, nz_eq, nz_cl, nz_in, nz_sub, nz_m1, pk_mul, set_o, set_ne, up_ne, up_set, n1_1, true_or, or_true, n1_01, n0_01, bI_01, bI_01b, bI_0, isSc1, isSc3, isSc5, ln_2, ln_4, ln_6, ln_8, ln_10, ln_11, ln_12, ln_13, ln_14, ln_16, ln_17, ln_18, ln_19, ln_20, ln_21, ln_23, ln_24, ln_25, ln_27, ln_28, ln_29, ln_31, ln_32, ln_33, ln_35, ln_36, ln_37]
      exact this
  simp (disch := first | assumption | exact isSc1 | exact isSc3 | exact isSc5 | decide | omega) only [eX6_longestFlight, iX6_longestFlight_0, iX6_longestFlight_1, iX6_longestFlight_2, iX6_longestFlight_3]
  exact loop B 0 (by omega)
theorem x_flightCount (hW : Wgt M B L n g) (hB : B ≤ 48) : wc 60 [.inr 9] M Q ↔ Q (some (nI (fcF (flN (ftN B n g) B) B))) M := by
  have h0 := hW.1
  have loop : ∀ d b : Nat, b + d = B → (wp 60 6 [some (.inr 9), some (.inl (nI (fcF (flN (ftN B n g) B) b))), some (.inl (nI (prv (flN (ftN B n g) B) b))), some (.inl (nI b))] [] M Q ↔ Q (some (nI (fcF (flN (ftN B n g) B) B))) M) := by
    intro d
    induction d with
    | zero =>
      intro b hb
      have hb : b = B := by omega
      subst hb
      rw [iX6_flightCount_6]
      simp (disch := first | assumption | exact isSc1 | exact isSc3 | exact isSc5 | decide | omega) only [iX6_flightCount_7, iX6_flightCount_8, iX6_flightCount_11, iX6_flightCount_43, iX6_flightCount_44, Nat.reduceAdd, Nat.reduceSub, Nat.reduceMul, Nat.reduceLeDiff, mm_rv_s, mm_rv_n, true_and, and_true, if_true, if_false, not_true_eq_false, not_false_eq_true, nI_add, nz_0, nz_lt0, nz_0le, nz_0lt, nz_le0, nz_lt, nz_le, nz_eq, nz_cl, nz_in, nz_sub, nz_m1, pk_mul, set_o, set_ne, up_ne, up_set, n1_1, true_or, or_true, n1_01, n0_01, bI_01, bI_01b, bI_0, isSc1, isSc3, isSc5, ln_2, ln_4, ln_6, ln_8, ln_10, ln_11, ln_12, ln_13, ln_14, ln_16, ln_17, ln_18, ln_19, ln_20, ln_21, ln_23, ln_24, ln_25, ln_27, ln_28, ln_29, ln_31, ln_32, ln_33, ln_35, ln_36, ln_37, h0, Nat.le_refl]
    | succ d ih =>
      intro b hb
      have := ih (b + 1) (by omega)
      have e := hW.2.2.2.2 b (by omega)
      have b3 := flN_le (ftN B n g) (show b < B by omega)
      have b5 : prv (flN (ftN B n g) B) b ≤ B := by
        cases b with
        | zero => exact Nat.zero_le _
        | succ b => exact flN_le (ftN B n g) (show b < B by omega)
      have ep : prv (flN (ftN B n g) B) (b + 1) = flN (ftN B n g) B b := rfl
      rw [ep] at this
      rw [fcF_s] at this
      rw [iX6_flightCount_6]
      simp (disch := first | assumption | exact isSc1 | exact isSc3 | exact isSc5 | decide | omega) only [iX6_flightCount_7, iX6_flightCount_8, iX6_flightCount_11, iX6_flightCount_14, iX6_flightCount_15, iX6_flightCount_18, iX6_flightCount_19, iX6_flightCount_20, Nat.reduceAdd, Nat.reduceSub, Nat.reduceMul, Nat.reduceLeDiff, mm_rv_s, mm_rv_n, true_and, and_true, if_true, if_false, not_true_eq_false, not_false_eq_true, nI_add, nz_0, nz_lt0, nz_0le, nz_0lt, nz_le0, nz_lt, nz_le, nz_eq, nz_cl, nz_in, nz_sub, nz_m1, pk_mul, set_o, set_ne, up_ne, up_set, n1_1, true_or, or_true, n1_01, n0_01, bI_01, bI_01b, bI_0, isSc1, isSc3, isSc5, ln_2, ln_4, ln_6, ln_8, ln_10, ln_11, ln_12, ln_13, ln_14, ln_16, ln_17, ln_18, ln_19, ln_20, ln_21, ln_23, ln_24, ln_25, ln_27, ln_28, ln_29, ln_31, ln_32, ln_33, ln_35, ln_36, ln_37, h0, show ¬ B ≤ b by omega, e]
      by_cases k1 : flN (ftN B n g) B b = 0
      · rw [k1] at this e
        simp (disch := first | assumption | exact isSc1 | exact isSc3 | exact isSc5 | decide | omega) only [iX6_flightCount_30, iX6_flightCount_31, iX6_flightCount_34, iX6_flightCount_35, iX6_flightCount_36, iX6_flightCount_37, iX6_flightCount_40, Nat.reduceAdd, Nat.reduceSub, Nat.reduceMul, Nat.reduceLeDiff, mm_rv_s, mm_rv_n, true_and, and_true, if_true, if_false, not_true_eq_false, not_false_eq_true, nI_add, nz_0, nz_lt0, nz_0le, nz_0lt, nz_le0, nz_lt, nz_le, nz_eq, nz_cl, nz_in, nz_sub, nz_m1, pk_mul, set_o, set_ne, up_ne, up_set, n1_1, true_or, or_true, n1_01, n0_01, bI_01, bI_01b, bI_0, isSc1, isSc3, isSc5, ln_2, ln_4, ln_6, ln_8, ln_10, ln_11, ln_12, ln_13, ln_14, ln_16, ln_17, ln_18, ln_19, ln_20, ln_21, ln_23, ln_24, ln_25, ln_27, ln_28, ln_29, ln_31, ln_32, ln_33, ln_35, ln_36, ln_37, k1, e, Nat.lt_irrefl, false_and, Nat.add_zero] at this ⊢
        exact this
      · by_cases k2 : prv (flN (ftN B n g) B) b = 0
        · simp (disch := first | assumption | exact isSc1 | exact isSc3 | exact isSc5 | decide | omega) only [iX6_flightCount_23, iX6_flightCount_24, iX6_flightCount_27, iX6_flightCount_30, iX6_flightCount_31, iX6_flightCount_34, iX6_flightCount_35, iX6_flightCount_36, iX6_flightCount_37, iX6_flightCount_40, Nat.reduceAdd, Nat.reduceSub, Nat.reduceMul, Nat.reduceLeDiff, mm_rv_s, mm_rv_n, true_and, and_true, if_true, if_false, not_true_eq_false, not_false_eq_true, nI_add, nz_0, nz_lt0, nz_0le, nz_0lt, nz_le0, nz_lt, nz_le, nz_eq, nz_cl, nz_in, nz_sub, nz_m1, pk_mul, set_o, set_ne, up_ne, up_set, n1_1, true_or, or_true, n1_01, n0_01, bI_01, bI_01b, bI_0, isSc1, isSc3, isSc5, ln_2, ln_4, ln_6, ln_8, ln_10, ln_11, ln_12, ln_13, ln_14, ln_16, ln_17, ln_18, ln_19, ln_20, ln_21, ln_23, ln_24, ln_25, ln_27, ln_28, ln_29, ln_31, ln_32, ln_33, ln_35, ln_36, ln_37, k1, k2, e, show 0 < flN (ftN B n g) B b by omega, and_self] at this ⊢
          exact this
        · simp (disch := first | assumption | exact isSc1 | exact isSc3 | exact isSc5 | decide | omega) only [iX6_flightCount_23, iX6_flightCount_24, iX6_flightCount_27, iX6_flightCount_30, iX6_flightCount_31, iX6_flightCount_34, iX6_flightCount_35, iX6_flightCount_36, iX6_flightCount_37, iX6_flightCount_40, Nat.reduceAdd, Nat.reduceSub, Nat.reduceMul, Nat.reduceLeDiff, mm_rv_s, mm_rv_n, true_and, and_true, if_true, if_false, not_true_eq_false, not_false_eq_true, nI_add, nz_0, nz_lt0, nz_0le, nz_0lt, nz_le0, nz_lt, nz_le, nz_eq, nz_cl, nz_in, nz_sub, nz_m1, pk_mul, set_o, set_ne, up_ne, up_set, n1_1, true_or, or_true, n1_01, n0_01, bI_01, bI_01b, bI_0, isSc1, isSc3, isSc5, ln_2, ln_4, ln_6, ln_8, ln_10, ln_11, ln_12, ln_13, ln_14, ln_16, ln_17, ln_18, ln_19, ln_20, ln_21, ln_23, ln_24, ln_25, ln_27, ln_28, ln_29, ln_31, ln_32, ln_33, ln_35, ln_36, ln_37, k1, k2, e, and_false, Nat.add_zero] at this ⊢
          exact this
  simp (disch := first | assumption | exact isSc1 | exact isSc3 | exact isSc5 | decide | omega) only [eX6_flightCount, iX6_flightCount_0, iX6_flightCount_1, iX6_flightCount_2, iX6_flightCount_3, iX6_flightCount_4, iX6_flightCount_5]
  exact loop B 0 (by omega)
theorem x_isAnyLegTold (hW : Wgt M B L n g) (hB : B ≤ 48) : wc 61 [.inr 9] M Q ↔ Q (some (bI (anF (fun t => decide (twN B n g t ≠ 0)) B 0))) M := by
  have h0 := hW.1
  have loop : ∀ d b : Nat, b + d = B → (wp 61 2 [some (.inr 9), some (.inl (nI b))] [] M Q ↔ Q (some (bI (anF (fun t => decide (twN B n g t ≠ 0)) d b))) M) := by
    intro d
    induction d with
    | zero =>
      intro b hb
      have hb : b = B := by omega
      subst hb
      rw [iX6_isAnyLegTold_2]
      simp (disch := first | assumption | exact isSc1 | exact isSc3 | exact isSc5 | decide | omega) only [iX6_isAnyLegTold_3, iX6_isAnyLegTold_4, iX6_isAnyLegTold_7, iX6_isAnyLegTold_27, iX6_isAnyLegTold_28, Nat.reduceAdd, Nat.reduceSub, Nat.reduceMul, Nat.reduceLeDiff, mm_rv_s, mm_rv_n, true_and, and_true, if_true, if_false, not_true_eq_false, not_false_eq_true, nI_add, nz_0, nz_lt0, nz_0le, nz_0lt, nz_le0, nz_lt, nz_le, nz_eq, nz_cl, nz_in, nz_sub, nz_m1, pk_mul, set_o, set_ne, up_ne, up_set, n1_1, true_or, or_true, n1_01, n0_01, bI_01, bI_01b, bI_0, isSc1, isSc3, isSc5, ln_2, ln_4, ln_6, ln_8, ln_10, ln_11, ln_12, ln_13, ln_14, ln_16, ln_17, ln_18, ln_19, ln_20, ln_21, ln_23, ln_24, ln_25, ln_27, ln_28, ln_29, ln_31, ln_32, ln_33, ln_35, ln_36, ln_37, h0, Nat.le_refl, anF, bI, Bool.false_eq_true]
    | succ d ih =>
      intro b hb
      have := ih (b + 1) (by omega)
      have e := hW.2.2.2.1 b (by omega)
      have b3 := twN_le B n g b
      rw [iX6_isAnyLegTold_2]
      unfold anF
      simp (disch := first | assumption | exact isSc1 | exact isSc3 | exact isSc5 | decide | omega) only [iX6_isAnyLegTold_3, iX6_isAnyLegTold_4, iX6_isAnyLegTold_7, iX6_isAnyLegTold_10, iX6_isAnyLegTold_11, iX6_isAnyLegTold_14, iX6_isAnyLegTold_15, iX6_isAnyLegTold_16, Nat.reduceAdd, Nat.reduceSub, Nat.reduceMul, Nat.reduceLeDiff, mm_rv_s, mm_rv_n, true_and, and_true, if_true, if_false, not_true_eq_false, not_false_eq_true, nI_add, nz_0, nz_lt0, nz_0le, nz_0lt, nz_le0, nz_lt, nz_le, nz_eq, nz_cl, nz_in, nz_sub, nz_m1, pk_mul, set_o, set_ne, up_ne, up_set, n1_1, true_or, or_true, n1_01, n0_01, bI_01, bI_01b, bI_0, isSc1, isSc3, isSc5, ln_2, ln_4, ln_6, ln_8, ln_10, ln_11, ln_12, ln_13, ln_14, ln_16, ln_17, ln_18, ln_19, ln_20, ln_21, ln_23, ln_24, ln_25, ln_27, ln_28, ln_29, ln_31, ln_32, ln_33, ln_35, ln_36, ln_37, h0, show ¬ B ≤ b by omega, e, ne_eq]
      by_cases k : twN B n g b = 0
      · simp (disch := first | assumption | exact isSc1 | exact isSc3 | exact isSc5 | decide | omega) only [iX6_isAnyLegTold_19, iX6_isAnyLegTold_20, iX6_isAnyLegTold_21, iX6_isAnyLegTold_24, Nat.reduceAdd, Nat.reduceSub, Nat.reduceMul, Nat.reduceLeDiff, mm_rv_s, mm_rv_n, true_and, and_true, if_true, if_false, not_true_eq_false, not_false_eq_true, nI_add, nz_0, nz_lt0, nz_0le, nz_0lt, nz_le0, nz_lt, nz_le, nz_eq, nz_cl, nz_in, nz_sub, nz_m1, pk_mul, set_o, set_ne, up_ne, up_set, n1_1, true_or, or_true, n1_01, n0_01, bI_01, bI_01b, bI_0, isSc1, isSc3, isSc5, ln_2, ln_4, ln_6, ln_8, ln_10, ln_11, ln_12, ln_13, ln_14, ln_16, ln_17, ln_18, ln_19, ln_20, ln_21, ln_23, ln_24, ln_25, ln_27, ln_28, ln_29, ln_31, ln_32, ln_33, ln_35, ln_36, ln_37, k, decide_false, Bool.false_eq_true]
        exact this
      · simp (disch := first | assumption | exact isSc1 | exact isSc3 | exact isSc5 | decide | omega) only [iX6_isAnyLegTold_19, iX6_isAnyLegTold_20, iX6_isAnyLegTold_21, iX6_isAnyLegTold_24, Nat.reduceAdd, Nat.reduceSub, Nat.reduceMul, Nat.reduceLeDiff, mm_rv_s, mm_rv_n, true_and, and_true, if_true, if_false, not_true_eq_false, not_false_eq_true, nI_add, nz_0, nz_lt0, nz_0le, nz_0lt, nz_le0, nz_lt, nz_le, nz_eq, nz_cl, nz_in, nz_sub, nz_m1, pk_mul, set_o, set_ne, up_ne, up_set, n1_1, true_or, or_true, n1_01, n0_01, bI_01, bI_01b, bI_0, isSc1, isSc3, isSc5, ln_2, ln_4, ln_6, ln_8, ln_10, ln_11, ln_12, ln_13, ln_14, ln_16, ln_17, ln_18, ln_19, ln_20, ln_21, ln_23, ln_24, ln_25, ln_27, ln_28, ln_29, ln_31, ln_32, ln_33, ln_35, ln_36, ln_37, k, decide_true, bI]
  simp (disch := first | assumption | exact isSc1 | exact isSc3 | exact isSc5 | decide | omega) only [eX6_isAnyLegTold, iX6_isAnyLegTold_0, iX6_isAnyLegTold_1]
  exact loop B 0 (by omega)
def bpB (B L n : Nat) (g : Nat → Sg) (w b : Nat) : Bool := if w = 0 then wrB B L n g b else decide (w < 5 ∧ ftN B n g b = w - 1)
def btV (B L n : Nat) (g : Nat → Sg) (w : Nat) : Int32 := if w = 5 then nI (mxF (flN (ftN B n g) B) B) else if w = 6 then nI (fcF (flN (ftN B n g) B) B) else nI (cntF (bpB B L n g w) B)
theorem m_beats (hD : isD (M 31) B L n g) (hv : Val B n g) (hL : L ≤ 8) {w : Nat} (hw : w ≤ 6) (hQ : ∀ f, Q (some (btV B L n g w)) (mm_set M 37 f)) : wc 136 [.inr 30, .inl (nI w)] M Q := by
  have w2 := hv.2.1
  have w3 := hv.2.2.1
  simp (disch := first | assumption | exact isSc1 | exact isSc3 | exact isSc5 | decide | omega) only [eX8_beats, iX8_beats_0, iX8_beats_1, iX8_beats_2, iX8_beats_4, iX8_beats_7, iX8_beats_10, iX8_beats_13, iX8_beats_14, iX8_beats_15, Nat.reduceAdd, Nat.reduceSub, Nat.reduceMul, Nat.reduceLeDiff, mm_rv_s, mm_rv_n, true_and, and_true, if_true, if_false, not_true_eq_false, not_false_eq_true, nI_add, nz_0, nz_lt0, nz_0le, nz_0lt, nz_le0, nz_lt, nz_le, nz_eq, nz_cl, nz_in, nz_sub, nz_m1, pk_mul, set_o, set_ne, up_ne, up_set, n1_1, true_or, or_true, n1_01, n0_01, bI_01, bI_01b, bI_0, isSc1, isSc3, isSc5, ln_2, ln_4, ln_6, ln_8, ln_10, ln_11, ln_12, ln_13, ln_14, ln_16, ln_17, ln_18, ln_19, ln_20, ln_21, ln_23, ln_24, ln_25, ln_27, ln_28, ln_29, ln_31, ln_32, ln_33, ln_35, ln_36, ln_37, p_in, hw, Nat.zero_le, and_self, decide_true, Bool.true_eq_false]
  refine m_fills hD w3 hv.okG w2 (fun f hf => ?_)
  have hQ := hQ f
  have hd2 : isD (mm_set M 37 f 31) B L n g := by rw [set_ne _ _ (by decide)]; exact hD
  have hf2 : isCov (mm_set M 37 f 37) B n g := by rw [set_o]; exact hf
  generalize mm_set M 37 f = M2 at hd2 hf2 hQ ⊢
  have d0 := hd2.1
  have fin : ∀ l5 l6 l7 l8 : Option mm_V, wp 136 151 [some (.inr 30), some (.inl (nI w)), some (.inl (nI (cntF (bpB B L n g w) B))), some (.inl (nI (mxF (flN (ftN B n g) B) B))), some (.inl (nI (fcF (flN (ftN B n g) B) B))), l5, l6, l7, l8] [] M2 Q := by
    intro l5 l6 l7 l8
    unfold btV at hQ
    by_cases h5 : w = 5
    · rw [if_pos h5] at hQ
      simp (disch := first | assumption | exact isSc1 | exact isSc3 | exact isSc5 | decide | omega) only [iX8_beats_151, iX8_beats_152, iX8_beats_153, iX8_beats_156, iX8_beats_157, iX8_beats_160, iX8_beats_161, iX8_beats_163, iX8_beats_166, iX8_beats_168, iX8_beats_171, iX8_beats_172, Nat.reduceAdd, Nat.reduceSub, Nat.reduceMul, Nat.reduceLeDiff, mm_rv_s, mm_rv_n, true_and, and_true, if_true, if_false, not_true_eq_false, not_false_eq_true, nI_add, nz_0, nz_lt0, nz_0le, nz_0lt, nz_le0, nz_lt, nz_le, nz_eq, nz_cl, nz_in, nz_sub, nz_m1, pk_mul, set_o, set_ne, up_ne, up_set, n1_1, true_or, or_true, n1_01, n0_01, bI_01, bI_01b, bI_0, isSc1, isSc3, isSc5, ln_2, ln_4, ln_6, ln_8, ln_10, ln_11, ln_12, ln_13, ln_14, ln_16, ln_17, ln_18, ln_19, ln_20, ln_21, ln_23, ln_24, ln_25, ln_27, ln_28, ln_29, ln_31, ln_32, ln_33, ln_35, ln_36, ln_37, h5]
      exact hQ
    · by_cases h6 : w = 6
      · rw [if_neg h5, if_pos h6] at hQ
        simp (disch := first | assumption | exact isSc1 | exact isSc3 | exact isSc5 | decide | omega) only [iX8_beats_151, iX8_beats_152, iX8_beats_153, iX8_beats_156, iX8_beats_157, iX8_beats_160, iX8_beats_161, iX8_beats_163, iX8_beats_166, iX8_beats_168, iX8_beats_171, iX8_beats_172, Nat.reduceAdd, Nat.reduceSub, Nat.reduceMul, Nat.reduceLeDiff, mm_rv_s, mm_rv_n, true_and, and_true, if_true, if_false, not_true_eq_false, not_false_eq_true, nI_add, nz_0, nz_lt0, nz_0le, nz_0lt, nz_le0, nz_lt, nz_le, nz_eq, nz_cl, nz_in, nz_sub, nz_m1, pk_mul, set_o, set_ne, up_ne, up_set, n1_1, true_or, or_true, n1_01, n0_01, bI_01, bI_01b, bI_0, isSc1, isSc3, isSc5, ln_2, ln_4, ln_6, ln_8, ln_10, ln_11, ln_12, ln_13, ln_14, ln_16, ln_17, ln_18, ln_19, ln_20, ln_21, ln_23, ln_24, ln_25, ln_27, ln_28, ln_29, ln_31, ln_32, ln_33, ln_35, ln_36, ln_37, h6]
        simpa using hQ
      · rw [if_neg h5, if_neg h6] at hQ
        simp (disch := first | assumption | exact isSc1 | exact isSc3 | exact isSc5 | decide | omega) only [iX8_beats_151, iX8_beats_152, iX8_beats_153, iX8_beats_156, iX8_beats_157, iX8_beats_160, iX8_beats_161, iX8_beats_163, iX8_beats_166, iX8_beats_168, iX8_beats_171, iX8_beats_172, Nat.reduceAdd, Nat.reduceSub, Nat.reduceMul, Nat.reduceLeDiff, mm_rv_s, mm_rv_n, true_and, and_true, if_true, if_false, not_true_eq_false, not_false_eq_true, nI_add, nz_0, nz_lt0, nz_0le, nz_0lt, nz_le0, nz_lt, nz_le, nz_eq, nz_cl, nz_in, nz_sub, nz_m1, pk_mul, set_o, set_ne, up_ne, up_set, n1_1, true_or, or_true, n1_01, n0_01, bI_01, bI_01b, bI_0, isSc1, isSc3, isSc5, ln_2, ln_4, ln_6, ln_8, ln_10, ln_11, ln_12, ln_13, ln_14, ln_16, ln_17, ln_18, ln_19, ln_20, ln_21, ln_23, ln_24, ln_25, ln_27, ln_28, ln_29, ln_31, ln_32, ln_33, ln_35, ln_36, ln_37, h5, h6]
        exact hQ
  have loop : ∀ d b : Nat, b + d = B → ∀ l7 l8 : Option mm_V, wp 136 31 [some (.inr 30), some (.inl (nI w)), some (.inl (nI (cntF (bpB B L n g w) b))), some (.inl (nI (mxF (flN (ftN B n g) B) b))), some (.inl (nI (fcF (flN (ftN B n g) B) b))), some (.inl (bI (decide (0 < prv (flN (ftN B n g) B) b)))), some (.inl (nI b)), l7, l8] [] M2 Q := by
    intro d
    induction d with
    | zero =>
      intro b hb l7 l8
      have hb : b = B := by omega
      subst hb
      rw [iX8_beats_31]
      simp (disch := first | assumption | exact isSc1 | exact isSc3 | exact isSc5 | decide | omega) only [iX8_beats_33, iX8_beats_34, iX8_beats_37, iX8_beats_38, iX8_beats_39, Nat.reduceAdd, Nat.reduceSub, Nat.reduceMul, Nat.reduceLeDiff, mm_rv_s, mm_rv_n, true_and, and_true, if_true, if_false, not_true_eq_false, not_false_eq_true, nI_add, nz_0, nz_lt0, nz_0le, nz_0lt, nz_le0, nz_lt, nz_le, nz_eq, nz_cl, nz_in, nz_sub, nz_m1, pk_mul, set_o, set_ne, up_ne, up_set, n1_1, true_or, or_true, n1_01, n0_01, bI_01, bI_01b, bI_0, isSc1, isSc3, isSc5, ln_2, ln_4, ln_6, ln_8, ln_10, ln_11, ln_12, ln_13, ln_14, ln_16, ln_17, ln_18, ln_19, ln_20, ln_21, ln_23, ln_24, ln_25, ln_27, ln_28, ln_29, ln_31, ln_32, ln_33, ln_35, ln_36, ln_37, d0, Nat.le_refl]
      exact fin _ _ _ _
    | succ d ih =>
      intro b hb l7 l8
      have hbB : b < B := by omega
      have b1 := ftN_le B n g b
      have b3 := flN_le (ftN B n g) hbB
      have b4 := mxF_le (flN (ftN B n g) B) (m := B) b (fun t ht => flN_le (ftN B n g) (show t < B by omega))
      rw [iX8_beats_31]
      simp (disch := first | assumption | exact isSc1 | exact isSc3 | exact isSc5 | decide | omega) only [iX8_beats_33, iX8_beats_34, iX8_beats_37, iX8_beats_38, iX8_beats_39, iX8_beats_42, iX8_beats_43, iX8_beats_45, iX8_beats_48, iX8_beats_50, iX8_beats_51, iX8_beats_53, iX8_beats_56, iX8_beats_58, iX8_beats_59, Nat.reduceAdd, Nat.reduceSub, Nat.reduceMul, Nat.reduceLeDiff, mm_rv_s, mm_rv_n, true_and, and_true, if_true, if_false, not_true_eq_false, not_false_eq_true, nI_add, nz_0, nz_lt0, nz_0le, nz_0lt, nz_le0, nz_lt, nz_le, nz_eq, nz_cl, nz_in, nz_sub, nz_m1, pk_mul, set_o, set_ne, up_ne, up_set, n1_1, true_or, or_true, n1_01, n0_01, bI_01, bI_01b, bI_0, isSc1, isSc3, isSc5, ln_2, ln_4, ln_6, ln_8, ln_10, ln_11, ln_12, ln_13, ln_14, ln_16, ln_17, ln_18, ln_19, ln_20, ln_21, ln_23, ln_24, ln_25, ln_27, ln_28, ln_29, ln_31, ln_32, ln_33, ln_35, ln_36, ln_37, d0, show ¬ B ≤ b by omega, m_feet hd2 hv hf2 hbB, m_flight hd2 hv hf2 hbB]
      have r3 : ∀ l2, wp 136 113 [some (.inr 30), some (.inl (nI w)), some (.inl l2), some (.inl (nI (mxF (flN (ftN B n g) B) (b + 1)))), some (.inl (nI (fcF (flN (ftN B n g) B) b))), some (.inl (bI (decide (0 < prv (flN (ftN B n g) B) b)))), some (.inl (nI b)), some (.inl (nI (ftN B n g b))), some (.inl (nI (flN (ftN B n g) B b)))] [] M2 Q ↔ wp 136 31 [some (.inr 30), some (.inl (nI w)), some (.inl l2), some (.inl (nI (mxF (flN (ftN B n g) B) (b + 1)))), some (.inl (nI (fcF (flN (ftN B n g) B) (b + 1)))), some (.inl (bI (decide (0 < prv (flN (ftN B n g) B) (b + 1))))), some (.inl (nI (b + 1))), some (.inl (nI (ftN B n g b))), some (.inl (nI (flN (ftN B n g) B b)))] [] M2 Q := by
        intro l2
        have ep : prv (flN (ftN B n g) B) (b + 1) = flN (ftN B n g) B b := rfl
        rw [ep]
        rw [fcF_s]
        by_cases k1 : flN (ftN B n g) B b = 0
        · simp (disch := first | assumption | exact isSc1 | exact isSc3 | exact isSc5 | decide | omega) only [iX8_beats_113, iX8_beats_115, iX8_beats_117, iX8_beats_120, iX8_beats_122, iX8_beats_125, iX8_beats_126, iX8_beats_129, iX8_beats_130, iX8_beats_131, iX8_beats_133, iX8_beats_135, iX8_beats_138, iX8_beats_139, iX8_beats_142, iX8_beats_143, iX8_beats_145, iX8_beats_148, Nat.reduceAdd, Nat.reduceSub, Nat.reduceMul, Nat.reduceLeDiff, mm_rv_s, mm_rv_n, true_and, and_true, if_true, if_false, not_true_eq_false, not_false_eq_true, nI_add, nz_0, nz_lt0, nz_0le, nz_0lt, nz_le0, nz_lt, nz_le, nz_eq, nz_cl, nz_in, nz_sub, nz_m1, pk_mul, set_o, set_ne, up_ne, up_set, n1_1, true_or, or_true, n1_01, n0_01, bI_01, bI_01b, bI_0, isSc1, isSc3, isSc5, ln_2, ln_4, ln_6, ln_8, ln_10, ln_11, ln_12, ln_13, ln_14, ln_16, ln_17, ln_18, ln_19, ln_20, ln_21, ln_23, ln_24, ln_25, ln_27, ln_28, ln_29, ln_31, ln_32, ln_33, ln_35, ln_36, ln_37, k1, Nat.lt_irrefl, false_and, decide_false, bI, Bool.false_eq_true, Nat.add_zero]
        · by_cases k2 : prv (flN (ftN B n g) B) b = 0
          · simp (disch := first | assumption | exact isSc1 | exact isSc3 | exact isSc5 | decide | omega) only [iX8_beats_113, iX8_beats_115, iX8_beats_117, iX8_beats_120, iX8_beats_122, iX8_beats_125, iX8_beats_126, iX8_beats_129, iX8_beats_130, iX8_beats_131, iX8_beats_133, iX8_beats_135, iX8_beats_138, iX8_beats_139, iX8_beats_142, iX8_beats_143, iX8_beats_145, iX8_beats_148, Nat.reduceAdd, Nat.reduceSub, Nat.reduceMul, Nat.reduceLeDiff, mm_rv_s, mm_rv_n, true_and, and_true, if_true, if_false, not_true_eq_false, not_false_eq_true, nI_add, nz_0, nz_lt0, nz_0le, nz_0lt, nz_le0, nz_lt, nz_le, nz_eq, nz_cl, nz_in, nz_sub, nz_m1, pk_mul, set_o, set_ne, up_ne, up_set, n1_1, true_or, or_true, n1_01, n0_01, bI_01, bI_01b, bI_0, isSc1, isSc3, isSc5, ln_2, ln_4, ln_6, ln_8, ln_10, ln_11, ln_12, ln_13, ln_14, ln_16, ln_17, ln_18, ln_19, ln_20, ln_21, ln_23, ln_24, ln_25, ln_27, ln_28, ln_29, ln_31, ln_32, ln_33, ln_35, ln_36, ln_37, k1, k2, Nat.lt_irrefl, show 0 < flN (ftN B n g) B b by omega, and_self, decide_false, decide_true, bI, Bool.false_eq_true]
          · simp (disch := first | assumption | exact isSc1 | exact isSc3 | exact isSc5 | decide | omega) only [iX8_beats_113, iX8_beats_115, iX8_beats_117, iX8_beats_120, iX8_beats_122, iX8_beats_125, iX8_beats_126, iX8_beats_129, iX8_beats_130, iX8_beats_131, iX8_beats_133, iX8_beats_135, iX8_beats_138, iX8_beats_139, iX8_beats_142, iX8_beats_143, iX8_beats_145, iX8_beats_148, Nat.reduceAdd, Nat.reduceSub, Nat.reduceMul, Nat.reduceLeDiff, mm_rv_s, mm_rv_n, true_and, and_true, if_true, if_false, not_true_eq_false, not_false_eq_true, nI_add, nz_0, nz_lt0, nz_0le, nz_0lt, nz_le0, nz_lt, nz_le, nz_eq, nz_cl, nz_in, nz_sub, nz_m1, pk_mul, set_o, set_ne, up_ne, up_set, n1_1, true_or, or_true, n1_01, n0_01, bI_01, bI_01b, bI_0, isSc1, isSc3, isSc5, ln_2, ln_4, ln_6, ln_8, ln_10, ln_11, ln_12, ln_13, ln_14, ln_16, ln_17, ln_18, ln_19, ln_20, ln_21, ln_23, ln_24, ln_25, ln_27, ln_28, ln_29, ln_31, ln_32, ln_33, ln_35, ln_36, ln_37, k1, k2, show 0 < prv (flN (ftN B n g) B) b by omega, show 0 < flN (ftN B n g) B b by omega, and_false, decide_true, bI, Nat.one_ne_zero, Nat.add_zero]
      have r2 : ∀ l2, wp 136 100 [some (.inr 30), some (.inl (nI w)), some (.inl l2), some (.inl (nI (mxF (flN (ftN B n g) B) b))), some (.inl (nI (fcF (flN (ftN B n g) B) b))), some (.inl (bI (decide (0 < prv (flN (ftN B n g) B) b)))), some (.inl (nI b)), some (.inl (nI (ftN B n g b))), some (.inl (nI (flN (ftN B n g) B b)))] [] M2 Q ↔ wp 136 113 [some (.inr 30), some (.inl (nI w)), some (.inl l2), some (.inl (nI (mxF (flN (ftN B n g) B) (b + 1)))), some (.inl (nI (fcF (flN (ftN B n g) B) b))), some (.inl (bI (decide (0 < prv (flN (ftN B n g) B) b)))), some (.inl (nI b)), some (.inl (nI (ftN B n g b))), some (.inl (nI (flN (ftN B n g) B b)))] [] M2 Q := by
        intro l2
        have em : mxF (flN (ftN B n g) B) (b + 1) = if mxF (flN (ftN B n g) B) b < flN (ftN B n g) B b then flN (ftN B n g) B b else mxF (flN (ftN B n g) B) b := rfl
        rw [em]
        by_cases k1 : mxF (flN (ftN B n g) B) b < flN (ftN B n g) B b
        · simp (disch := first | assumption | exact isSc1 | exact isSc3 | exact isSc5 | decide | omega) only [iX8_beats_100, iX8_beats_102, iX8_beats_103, iX8_beats_106, iX8_beats_108, iX8_beats_111, iX8_beats_112, Nat.reduceAdd, Nat.reduceSub, Nat.reduceMul, Nat.reduceLeDiff, mm_rv_s, mm_rv_n, true_and, and_true, if_true, if_false, not_true_eq_false, not_false_eq_true, nI_add, nz_0, nz_lt0, nz_0le, nz_0lt, nz_le0, nz_lt, nz_le, nz_eq, nz_cl, nz_in, nz_sub, nz_m1, pk_mul, set_o, set_ne, up_ne, up_set, n1_1, true_or, or_true, n1_01, n0_01, bI_01, bI_01b, bI_0, isSc1, isSc3, isSc5, ln_2, ln_4, ln_6, ln_8, ln_10, ln_11, ln_12, ln_13, ln_14, ln_16, ln_17, ln_18, ln_19, ln_20, ln_21, ln_23, ln_24, ln_25, ln_27, ln_28, ln_29, ln_31, ln_32, ln_33, ln_35, ln_36, ln_37, k1, show ¬ flN (ftN B n g) B b ≤ mxF (flN (ftN B n g) B) b by omega]
        · simp (disch := first | assumption | exact isSc1 | exact isSc3 | exact isSc5 | decide | omega) only [iX8_beats_100, iX8_beats_102, iX8_beats_103, iX8_beats_106, iX8_beats_108, iX8_beats_111, iX8_beats_112, Nat.reduceAdd, Nat.reduceSub, Nat.reduceMul, Nat.reduceLeDiff, mm_rv_s, mm_rv_n, true_and, and_true, if_true, if_false, not_true_eq_false, not_false_eq_true, nI_add, nz_0, nz_lt0, nz_0le, nz_0lt, nz_le0, nz_lt, nz_le, nz_eq, nz_cl, nz_in, nz_sub, nz_m1, pk_mul, set_o, set_ne, up_ne, up_set, n1_1, true_or, or_true, n1_01, n0_01, bI_01, bI_01b, bI_0, isSc1, isSc3, isSc5, ln_2, ln_4, ln_6, ln_8, ln_10, ln_11, ln_12, ln_13, ln_14, ln_16, ln_17, ln_18, ln_19, ln_20, ln_21, ln_23, ln_24, ln_25, ln_27, ln_28, ln_29, ln_31, ln_32, ln_33, ln_35, ln_36, ln_37, k1, show flN (ftN B n g) B b ≤ mxF (flN (ftN B n g) B) b by omega]
      have go := ih (b + 1) (by omega) (some (.inl (nI (ftN B n g b)))) (some (.inl (nI (flN (ftN B n g) B b))))
      have ec : cntF (bpB B L n g w) (b + 1) = cntF (bpB B L n g w) b + (if bpB B L n g w b = true then 1 else 0) := rfl
      rw [ec] at go
      rw [← r3, ← r2] at go
      by_cases h0 : w = 0
      · have eb : bpB B L n g w b = wrB B L n g b := by unfold bpB; rw [if_pos h0]
        rw [eb] at go
        simp (disch := first | assumption | exact isSc1 | exact isSc3 | exact isSc5 | decide | omega) only [iX8_beats_60, iX8_beats_63, iX8_beats_64, iX8_beats_66, Nat.reduceAdd, Nat.reduceSub, Nat.reduceMul, Nat.reduceLeDiff, mm_rv_s, mm_rv_n, true_and, and_true, if_true, if_false, not_true_eq_false, not_false_eq_true, nI_add, nz_0, nz_lt0, nz_0le, nz_0lt, nz_le0, nz_lt, nz_le, nz_eq, nz_cl, nz_in, nz_sub, nz_m1, pk_mul, set_o, set_ne, up_ne, up_set, n1_1, true_or, or_true, n1_01, n0_01, bI_01, bI_01b, bI_0, isSc1, isSc3, isSc5, ln_2, ln_4, ln_6, ln_8, ln_10, ln_11, ln_12, ln_13, ln_14, ln_16, ln_17, ln_18, ln_19, ln_20, ln_21, ln_23, ln_24, ln_25, ln_27, ln_28, ln_29, ln_31, ln_32, ln_33, ln_35, ln_36, ln_37, h0, m_isWrong hd2 hv hf2 hL hbB]
        rw [h0] at go
        cases hw2 : wrB B L n g b
        · rw [hw2] at go
          simp (disch := first | assumption | exact isSc1 | exact isSc3 | exact isSc5 | decide | omega) only [iX8_beats_69, iX8_beats_72, iX8_beats_73, iX8_beats_76, iX8_beats_77, iX8_beats_80, iX8_beats_81, iX8_beats_82, iX8_beats_85, iX8_beats_87, iX8_beats_88, iX8_beats_89, iX8_beats_90, iX8_beats_93, iX8_beats_94, iX8_beats_97, iX8_beats_98, iX8_beats_99, Nat.reduceAdd, Nat.reduceSub, Nat.reduceMul, Nat.reduceLeDiff, mm_rv_s, mm_rv_n, true_and, and_true, if_true, if_false, not_true_eq_false, not_false_eq_true, nI_add, nz_0, nz_lt0, nz_0le, nz_0lt, nz_le0, nz_lt, nz_le, nz_eq, nz_cl, nz_in, nz_sub, nz_m1, pk_mul, set_o, set_ne, up_ne, up_set, n1_1, true_or, or_true, n1_01, n0_01, bI_01, bI_01b, bI_0, isSc1, isSc3, isSc5, ln_2, ln_4, ln_6, ln_8, ln_10, ln_11, ln_12, ln_13, ln_14, ln_16, ln_17, ln_18, ln_19, ln_20, ln_21, ln_23, ln_24, ln_25, ln_27, ln_28, ln_29, ln_31, ln_32, ln_33, ln_35, ln_36, ln_37, bI_0, Bool.false_eq_true] at go ⊢
          exact go
        · rw [hw2] at go
          simp (disch := first | assumption | exact isSc1 | exact isSc3 | exact isSc5 | decide | omega) only [iX8_beats_69, iX8_beats_72, iX8_beats_73, iX8_beats_76, iX8_beats_77, iX8_beats_80, iX8_beats_81, iX8_beats_82, iX8_beats_85, iX8_beats_87, iX8_beats_88, iX8_beats_89, iX8_beats_90, iX8_beats_93, iX8_beats_94, iX8_beats_97, iX8_beats_98, iX8_beats_99, Nat.reduceAdd, Nat.reduceSub, Nat.reduceMul, Nat.reduceLeDiff, mm_rv_s, mm_rv_n, true_and, and_true, if_true, if_false, not_true_eq_false, not_false_eq_true, nI_add, nz_0, nz_lt0, nz_0le, nz_0lt, nz_le0, nz_lt, nz_le, nz_eq, nz_cl, nz_in, nz_sub, nz_m1, pk_mul, set_o, set_ne, up_ne, up_set, n1_1, true_or, or_true, n1_01, n0_01, bI_01, bI_01b, bI_0, isSc1, isSc3, isSc5, ln_2, ln_4, ln_6, ln_8, ln_10, ln_11, ln_12, ln_13, ln_14, ln_16, ln_17, ln_18, ln_19, ln_20, ln_21, ln_23, ln_24, ln_25, ln_27, ln_28, ln_29, ln_31, ln_32, ln_33, ln_35, ln_36, ln_37, bI_0, Bool.true_eq_false] at go ⊢
          exact go
      · have eb : bpB B L n g w b = decide (w < 5 ∧ ftN B n g b = w - 1) := by unfold bpB; rw [if_neg h0]
        rw [eb] at go
        simp (disch := first | assumption | exact isSc1 | exact isSc3 | exact isSc5 | decide | omega) only [iX8_beats_60, iX8_beats_80, iX8_beats_81, iX8_beats_82, Nat.reduceAdd, Nat.reduceSub, Nat.reduceMul, Nat.reduceLeDiff, mm_rv_s, mm_rv_n, true_and, and_true, if_true, if_false, not_true_eq_false, not_false_eq_true, nI_add, nz_0, nz_lt0, nz_0le, nz_0lt, nz_le0, nz_lt, nz_le, nz_eq, nz_cl, nz_in, nz_sub, nz_m1, pk_mul, set_o, set_ne, up_ne, up_set, n1_1, true_or, or_true, n1_01, n0_01, bI_01, bI_01b, bI_0, isSc1, isSc3, isSc5, ln_2, ln_4, ln_6, ln_8, ln_10, ln_11, ln_12, ln_13, ln_14, ln_16, ln_17, ln_18, ln_19, ln_20, ln_21, ln_23, ln_24, ln_25, ln_27, ln_28, ln_29, ln_31, ln_32, ln_33, ln_35, ln_36, ln_37, h0]
        by_cases h5 : w < 5
        · have h15 : ¬ 5 ≤ w := by omega
          simp (disch := first | assumption | exact isSc1 | exact isSc3 | exact isSc5 | decide | omega) only [iX8_beats_85, iX8_beats_87, iX8_beats_88, iX8_beats_89, iX8_beats_90, Nat.reduceAdd, Nat.reduceSub, Nat.reduceMul, Nat.reduceLeDiff, mm_rv_s, mm_rv_n, true_and, and_true, if_true, if_false, not_true_eq_false, not_false_eq_true, nI_add, nz_0, nz_lt0, nz_0le, nz_0lt, nz_le0, nz_lt, nz_le, nz_eq, nz_cl, nz_in, nz_sub, nz_m1, pk_mul, set_o, set_ne, up_ne, up_set, n1_1, true_or, or_true, n1_01, n0_01, bI_01, bI_01b, bI_0, isSc1, isSc3, isSc5, ln_2, ln_4, ln_6, ln_8, ln_10, ln_11, ln_12, ln_13, ln_14, ln_16, ln_17, ln_18, ln_19, ln_20, ln_21, ln_23, ln_24, ln_25, ln_27, ln_28, ln_29, ln_31, ln_32, ln_33, ln_35, ln_36, ln_37, h15]
          by_cases hb2 : ftN B n g b = w - 1
          · simp (disch := first | assumption | exact isSc1 | exact isSc3 | exact isSc5 | decide | omega) only [iX8_beats_93, iX8_beats_94, iX8_beats_97, iX8_beats_98, iX8_beats_99, Nat.reduceAdd, Nat.reduceSub, Nat.reduceMul, Nat.reduceLeDiff, mm_rv_s, mm_rv_n, true_and, and_true, if_true, if_false, not_true_eq_false, not_false_eq_true, nI_add, nz_0, nz_lt0, nz_0le, nz_0lt, nz_le0, nz_lt, nz_le, nz_eq, nz_cl, nz_in, nz_sub, nz_m1, pk_mul, set_o, set_ne, up_ne, up_set, n1_1, true_or, or_true, n1_01, n0_01, bI_01, bI_01b, bI_0, isSc1, isSc3, isSc5, ln_2, ln_4, ln_6, ln_8, ln_10, ln_11, ln_12, ln_13, ln_14, ln_16, ln_17, ln_18, ln_19, ln_20, ln_21, ln_23, ln_24, ln_25, ln_27, ln_28, ln_29, ln_31, ln_32, ln_33, ln_35, ln_36, ln_37, hb2, h5, and_self, decide_true] at go ⊢
            exact go
          · simp (disch := first | assumption | exact isSc1 | exact isSc3 | exact isSc5 | decide | omega) only [iX8_beats_93, iX8_beats_94, iX8_beats_97, iX8_beats_98, iX8_beats_99, Nat.reduceAdd, Nat.reduceSub, Nat.reduceMul, Nat.reduceLeDiff, mm_rv_s, mm_rv_n, true_and, and_true, if_true, if_false, not_true_eq_false, not_false_eq_true, nI_add, nz_0, nz_lt0, nz_0le, nz_0lt, nz_le0, nz_lt, nz_le, nz_eq, nz_cl, nz_in, nz_sub, nz_m1, pk_mul, set_o, set_ne, up_ne, up_set, n1_1, true_or, or_true, n1_01, n0_01, bI_01, bI_01b, bI_0, isSc1, isSc3, isSc5, ln_2, ln_4, ln_6, ln_8, ln_10, ln_11, ln_12, ln_13, ln_14, ln_16, ln_17, ln_18, ln_19, ln_20, ln_21, ln_23, ln_24, ln_25, ln_27, ln_28, ln_29, ln_31, ln_32, ln_33, ln_35, ln_36, ln_37, hb2, and_false, decide_false, Bool.false_eq_true, Nat.add_zero] at go ⊢
            exact go
        · simp (disch := first | assumption | exact isSc1 | exact isSc3 | exact isSc5 | decide | omega) only [iX8_beats_97, iX8_beats_98, iX8_beats_99, Nat.reduceAdd, Nat.reduceSub, Nat.reduceMul, Nat.reduceLeDiff, mm_rv_s, mm_rv_n, true_and, and_true, if_true, if_false, not_true_eq_false, not_false_eq_true, nI_add, nz_0, nz_lt0, nz_0le, nz_0lt, nz_le0, nz_lt, nz_le, nz_eq, nz_cl, nz_in, nz_sub, nz_m1, pk_mul, set_o, set_ne, up_ne, up_set, n1_1, true_or, or_true, n1_01, n0_01, bI_01, bI_01b, bI_0, isSc1, isSc3, isSc5, ln_2, ln_4, ln_6, ln_8, ln_10, ln_11, ln_12, ln_13, ln_14, ln_16, ln_17, ln_18, ln_19, ln_20, ln_21, ln_23, ln_24, ln_25, ln_27, ln_28, ln_29, ln_31, ln_32, ln_33, ln_35, ln_36, ln_37, show 5 ≤ w by omega, h5, false_and, decide_false, Bool.false_eq_true, Nat.add_zero] at go ⊢
          exact go
  simp (disch := first | assumption | exact isSc1 | exact isSc3 | exact isSc5 | decide | omega) only [iX8_beats_18, iX8_beats_19, iX8_beats_20, iX8_beats_21, iX8_beats_22, iX8_beats_23, iX8_beats_25, iX8_beats_26, iX8_beats_28, iX8_beats_29, mm_rv_n]
  exact loop B 0 (by omega) none none
end BT
