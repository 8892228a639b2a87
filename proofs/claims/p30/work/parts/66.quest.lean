/-! QUESTIONS, each with arguments in their ranges -/
section QST
variable {M : mm_M} {Q : mm_Q} {X V : Nat → Int32} {B L n h t : Nat} {g : Nat → Sg} {H : Nat → St} {c : Nat → Nat}
theorem q_sign (s : Ste M X V B L n g h H t c) {k : Nat} (hk : k < n) (w : Int32) (hQ : ∀ M', Ste M' X V B L n g h H t c → Q (some (signV B n g k w)) M') : wc 73 [.inr 0, .inl (nI k), .inl w] M Q := by
  obtain ⟨hv, hn, hL, hx⟩ := id s.1
  have r : nI 0 ≤ nI k ∧ nI k ≤ nI n - nI 1 := by
    rw [nz_sub _ _ (by omega)]
    simp (disch := omega) only [nz_le]
    omega
  refine p_sign hx hv (nI k) w (fun hr => absurd r hr) (fun k2 e hk2 => ?_)
  have : k = k2 := (nI_eq (by omega) (by omega)).mp e
  rw [← this]
  exact hQ M s
theorem q_signAt (s : Ste M X V B L n g h H t c) {k b : Nat} (hk : k ≤ 6) (hb : b < B) (hQ : ∀ M', Ste M' X V B L n g h H t c → Q (some (nf (cv B n g k b))) M') : wc 74 [.inr 0, .inl (nI k), .inl (nI b)] M Q := by
  obtain ⟨hv, hn, hL, hx⟩ := id s.1
  have w2 := hv.2.1
  have r : (nI 0 ≤ nI k ∧ nI k ≤ nI 6) ∧ (nI 0 ≤ nI b ∧ nI b ≤ nI B - nI 1) := by
    rw [nz_sub _ _ (by omega)]
    simp (disch := omega) only [nz_le]
    omega
  refine p_signAt hx hv (nI k) (nI b) (fun hr => absurd r hr) (fun k2 b2 e e2 hk2 hb2 => ?_)
  have h1 : k = k2 := (nI_eq (by omega) (by omega)).mp e
  have h2 : b = b2 := (nI_eq (by omega) (by omega)).mp e2
  rw [← h1, ← h2]
  exact hQ M s
theorem q_isFaulty (s : Ste M X V B L n g h H t c) {b : Nat} (hb : b < B) (hQ : ∀ M', Ste M' X V B L n g h H t c → Q (some (bI (wrB B L n g b))) M') : wc 77 [.inr 0, .inl (nI b)] M Q := by
  obtain ⟨hv, hn, hL, hx⟩ := id s.1
  have w2 := hv.2.1
  have x0 := hx.1
  have hr : nI 0 ≤ nI b ∧ nI b ≤ nI B - nI 1 := by
    rw [nz_sub _ _ (by omega)]
    simp (disch := omega) only [nz_le]
    omega
  simp (disch := first | assumption | exact isSc1 | exact isSc3 | exact isSc5 | decide | omega) only [eX7_isFaulty, iX7_isFaulty_0, iX7_isFaulty_1, iX7_isFaulty_2, p_isBeat, x0, mm_rv_s]
  simp (disch := first | assumption | exact isSc1 | exact isSc3 | exact isSc5 | decide | omega) only [iX7_isFaulty_5, iX7_isFaulty_8, iX7_isFaulty_11, iX7_isFaulty_12, iX7_isFaulty_13, iX7_isFaulty_16, iX7_isFaulty_17, iX7_isFaulty_20, bI_0, hr, and_self, decide_true, Bool.true_eq_false, not_true_eq_false, not_false_eq_true, if_true, if_false]
  refine p_weigh hx hv (fun M' hS hW => ?_)
  have kp : Kp M M' := Kp.same hS (by decide)
  have hq := hQ M' (s.kp kp)
  simp (disch := first | assumption | exact isSc1 | exact isSc3 | exact isSc5 | decide | omega) only [iX7_isFaulty_23, iX7_isFaulty_24, iX7_isFaulty_27, iX7_isFaulty_28, mm_rv_n, x_isWrong hW w2 hL hb]
  cases hwr : wrB B L n g b
  · rw [hwr] at hq
    simp (disch := first | assumption | exact isSc1 | exact isSc3 | exact isSc5 | decide | omega) only [mm_rv_s, iX7_isFaulty_31, iX7_isFaulty_34, iX7_isFaulty_35, iX7_isFaulty_38, iX7_isFaulty_39, bI, Nat.reduceAdd, Nat.reduceSub, Nat.reduceMul, Nat.reduceLeDiff, mm_rv_s, mm_rv_n, true_and, and_true, if_true, if_false, not_true_eq_false, not_false_eq_true, nI_add, nz_0, nz_lt0, nz_0le, nz_0lt, nz_le0, nz_lt, nz_le, nz_eq, nz_cl, nz_in, nz_sub, nz_m1, pk_mul, set_o, set_ne, up_ne, up_set, n1_1, true_or, or_true, n1_01, n0_01, bI_01, bI_01b, bI_0, isSc1, isSc3, isSc5, ln_2, ln_4, ln_6, ln_8, ln_10, ln_11, ln_12, ln_13, ln_14, ln_16, ln_17, ln_18, ln_19, ln_20, ln_21, ln_23, ln_24, ln_25, ln_27, ln_28, ln_29, Bool.false_eq_true] at hq ⊢
    exact hq
  · rw [hwr] at hq
    simp (disch := first | assumption | exact isSc1 | exact isSc3 | exact isSc5 | decide | omega) only [mm_rv_s, iX7_isFaulty_31, iX7_isFaulty_34, iX7_isFaulty_35, iX7_isFaulty_38, iX7_isFaulty_39, bI, Nat.reduceAdd, Nat.reduceSub, Nat.reduceMul, Nat.reduceLeDiff, mm_rv_s, mm_rv_n, true_and, and_true, if_true, if_false, not_true_eq_false, not_false_eq_true, nI_add, nz_0, nz_lt0, nz_0le, nz_0lt, nz_le0, nz_lt, nz_le, nz_eq, nz_cl, nz_in, nz_sub, nz_m1, pk_mul, set_o, set_ne, up_ne, up_set, n1_1, true_or, or_true, n1_01, n0_01, bI_01, bI_01b, bI_0, isSc1, isSc3, isSc5, ln_2, ln_4, ln_6, ln_8, ln_10, ln_11, ln_12, ln_13, ln_14, ln_16, ln_17, ln_18, ln_19, ln_20, ln_21, ln_23, ln_24, ln_25, ln_27, ln_28, ln_29] at hq ⊢
    exact hq
theorem q_nextFault (s : Ste M X V B L n g h H t c) (hQ : ∀ M', Ste M' X V B L n g h H t c → Q (some (nxtF (wrB B L n g) B 0)) M') : wc 78 [.inr 0, .inl (nI 0)] M Q := by
  obtain ⟨hv, hn, hL, hx⟩ := id s.1
  have w1 := hv.1
  have w2 := hv.2.1
  have x0 := hx.1
  have hr : nI 0 ≤ nI 0 ∧ nI 0 ≤ nI B - nI 1 := by
    rw [nz_sub _ _ (by omega)]
    simp (disch := omega) only [nz_le]
    omega
  simp (disch := first | assumption | exact isSc1 | exact isSc3 | exact isSc5 | decide | omega) only [eX7_nextFault, iX7_nextFault_0, iX7_nextFault_1, iX7_nextFault_2, p_isBeat, x0, mm_rv_s]
  simp (disch := first | assumption | exact isSc1 | exact isSc3 | exact isSc5 | decide | omega) only [iX7_nextFault_5, iX7_nextFault_8, iX7_nextFault_11, iX7_nextFault_12, iX7_nextFault_13, iX7_nextFault_16, iX7_nextFault_17, iX7_nextFault_20, bI_0, hr, and_self, decide_true, Bool.true_eq_false, not_true_eq_false, not_false_eq_true, if_true, if_false]
  refine p_weigh hx hv (fun M' hS hW => ?_)
  have kp : Kp M M' := Kp.same hS (by decide)
  have hq := hQ M' (s.kp kp)
  simp (disch := first | assumption | exact isSc1 | exact isSc3 | exact isSc5 | decide | omega) only [iX7_nextFault_23, iX7_nextFault_24, mm_rv_n]
  have e0 : M' 1 0 = nI B := by rw [hS 1 (by decide), x0]
  have loop : ∀ d b : Nat, b + d = B → Q (some (nxtF (wrB B L n g) d b)) M' → wp 78 25 [some (.inr 0), some (.inl (nI 0)), some (.inl (nI b))] [] M' Q := by
    intro d
    induction d with
    | zero =>
      intro b hb hq
      have hb : b = B := by omega
      subst hb
      rw [iX7_nextFault_25]
      simp (disch := first | assumption | exact isSc1 | exact isSc3 | exact isSc5 | decide | omega) only [iX7_nextFault_26, iX7_nextFault_27, iX7_nextFault_30, iX7_nextFault_33, iX7_nextFault_55, iX7_nextFault_58, Nat.reduceAdd, Nat.reduceSub, Nat.reduceMul, Nat.reduceLeDiff, mm_rv_s, mm_rv_n, true_and, and_true, if_true, if_false, not_true_eq_false, not_false_eq_true, nI_add, nz_0, nz_lt0, nz_0le, nz_0lt, nz_le0, nz_lt, nz_le, nz_eq, nz_cl, nz_in, nz_sub, nz_m1, pk_mul, set_o, set_ne, up_ne, up_set, n1_1, true_or, or_true, n1_01, n0_01, bI_01, bI_01b, bI_0, isSc1, isSc3, isSc5, ln_2, ln_4, ln_6, ln_8, ln_10, ln_11, ln_12, ln_13, ln_14, ln_16, ln_17, ln_18, ln_19, ln_20, ln_21, ln_23, ln_24, ln_25, ln_27, ln_28, ln_29, e0, Nat.le_refl]
      exact hq
    | succ d ih =>
      intro b hb hq
      rw [iX7_nextFault_25]
      simp (disch := first | assumption | exact isSc1 | exact isSc3 | exact isSc5 | decide | omega) only [iX7_nextFault_26, iX7_nextFault_27, iX7_nextFault_30, iX7_nextFault_33, iX7_nextFault_36, iX7_nextFault_37, iX7_nextFault_40, iX7_nextFault_41, Nat.reduceAdd, Nat.reduceSub, Nat.reduceMul, Nat.reduceLeDiff, mm_rv_s, mm_rv_n, true_and, and_true, if_true, if_false, not_true_eq_false, not_false_eq_true, nI_add, nz_0, nz_lt0, nz_0le, nz_0lt, nz_le0, nz_lt, nz_le, nz_eq, nz_cl, nz_in, nz_sub, nz_m1, pk_mul, set_o, set_ne, up_ne, up_set, n1_1, true_or, or_true, n1_01, n0_01, bI_01, bI_01b, bI_0, isSc1, isSc3, isSc5, ln_2, ln_4, ln_6, ln_8, ln_10, ln_11, ln_12, ln_13, ln_14, ln_16, ln_17, ln_18, ln_19, ln_20, ln_21, ln_23, ln_24, ln_25, ln_27, ln_28, ln_29, e0, show ¬ B ≤ b by omega, x_isWrong hW w2 hL (show b < B by omega)]
      have := ih (b + 1) (by omega)
      unfold nxtF at hq
      cases hwr : wrB B L n g b
      · rw [hwr] at hq
        simp (disch := first | assumption | exact isSc1 | exact isSc3 | exact isSc5 | decide | omega) only [iX7_nextFault_44, iX7_nextFault_47, iX7_nextFault_48, iX7_nextFault_49, iX7_nextFault_52, Nat.reduceAdd, Nat.reduceSub, Nat.reduceMul, Nat.reduceLeDiff, mm_rv_s, mm_rv_n, true_and, and_true, if_true, if_false, not_true_eq_false, not_false_eq_true, nI_add, nz_0, nz_lt0, nz_0le, nz_0lt, nz_le0, nz_lt, nz_le, nz_eq, nz_cl, nz_in, nz_sub, nz_m1, pk_mul, set_o, set_ne, up_ne, up_set, n1_1, true_or, or_true, n1_01, n0_01, bI_01, bI_01b, bI_0, isSc1, isSc3, isSc5, ln_2, ln_4, ln_6, ln_8, ln_10, ln_11, ln_12, ln_13, ln_14, ln_16, ln_17, ln_18, ln_19, ln_20, ln_21, ln_23, ln_24, ln_25, ln_27, ln_28, ln_29, bI, Bool.false_eq_true] at hq ⊢
        exact this hq
      · rw [hwr] at hq
        simp (disch := first | assumption | exact isSc1 | exact isSc3 | exact isSc5 | decide | omega) only [iX7_nextFault_44, iX7_nextFault_47, iX7_nextFault_48, iX7_nextFault_49, iX7_nextFault_52, Nat.reduceAdd, Nat.reduceSub, Nat.reduceMul, Nat.reduceLeDiff, mm_rv_s, mm_rv_n, true_and, and_true, if_true, if_false, not_true_eq_false, not_false_eq_true, nI_add, nz_0, nz_lt0, nz_0le, nz_0lt, nz_le0, nz_lt, nz_le, nz_eq, nz_cl, nz_in, nz_sub, nz_m1, pk_mul, set_o, set_ne, up_ne, up_set, n1_1, true_or, or_true, n1_01, n0_01, bI_01, bI_01b, bI_0, isSc1, isSc3, isSc5, ln_2, ln_4, ln_6, ln_8, ln_10, ln_11, ln_12, ln_13, ln_14, ln_16, ln_17, ln_18, ln_19, ln_20, ln_21, ln_23, ln_24, ln_25, ln_27, ln_28, ln_29, bI] at hq ⊢
        exact hq
  exact loop B 0 (by omega) hq
theorem q_beats (s : Ste M X V B L n g h H t c) {w : Nat} (hw6 : w ≤ 6) (hQ : ∀ M', Ste M' X V B L n g h H t c → Q (some (btV B L n g w)) M') : wc 79 [.inr 0, .inl (nI w)] M Q := by
  obtain ⟨hv, hn, hL, hx⟩ := id s.1
  have w2 := hv.2.1
  simp (disch := first | assumption | exact isSc1 | exact isSc3 | exact isSc5 | decide | omega) only [eX7_beats, iX7_beats_0, iX7_beats_1, iX7_beats_2, iX7_beats_4, iX7_beats_7, iX7_beats_10, iX7_beats_13, iX7_beats_14, iX7_beats_15, iX7_beats_18, iX7_beats_19, iX7_beats_22, Nat.reduceAdd, Nat.reduceSub, Nat.reduceMul, Nat.reduceLeDiff, mm_rv_s, mm_rv_n, true_and, and_true, if_true, if_false, not_true_eq_false, not_false_eq_true, nI_add, nz_0, nz_lt0, nz_0le, nz_0lt, nz_le0, nz_lt, nz_le, nz_eq, nz_cl, nz_in, nz_sub, nz_m1, pk_mul, set_o, set_ne, up_ne, up_set, n1_1, true_or, or_true, n1_01, n0_01, bI_01, bI_01b, bI_0, isSc1, isSc3, isSc5, ln_2, ln_4, ln_6, ln_8, ln_10, ln_11, ln_12, ln_13, ln_14, ln_16, ln_17, ln_18, ln_19, ln_20, ln_21, ln_23, ln_24, ln_25, ln_27, ln_28, ln_29, p_isWithin, hw6, Nat.zero_le, and_self, decide_true, Bool.true_eq_false]
  refine p_weigh hx hv (fun M' hS hW => ?_)
  have kp : Kp M M' := Kp.same hS (by decide)
  have hq := hQ M' (s.kp kp)
  simp (disch := first | assumption | exact isSc1 | exact isSc3 | exact isSc5 | decide | omega) only [iX7_beats_25, iX7_beats_26, mm_rv_n, wsw_n, wsw_c]
  by_cases h0 : w = 0
  · subst h0
    simp (disch := first | assumption | exact isSc1 | exact isSc3 | exact isSc5 | decide | omega) only [iX7_beats_60, iX7_beats_61, iX7_beats_64, iX7_beats_67, Nat.reduceAdd, Nat.reduceSub, Nat.reduceMul, Nat.reduceLeDiff, mm_rv_s, mm_rv_n, true_and, and_true, if_true, if_false, not_true_eq_false, not_false_eq_true, nI_add, nz_0, nz_lt0, nz_0le, nz_0lt, nz_le0, nz_lt, nz_le, nz_eq, nz_cl, nz_in, nz_sub, nz_m1, pk_mul, set_o, set_ne, up_ne, up_set, n1_1, true_or, or_true, n1_01, n0_01, bI_01, bI_01b, bI_0, isSc1, isSc3, isSc5, ln_2, ln_4, ln_6, ln_8, ln_10, ln_11, ln_12, ln_13, ln_14, ln_16, ln_17, ln_18, ln_19, ln_20, ln_21, ln_23, ln_24, ln_25, ln_27, ln_28, ln_29, x_wrongBeats hW w2 hL]
    exact hq
  · by_cases h5 : w = 5
    · subst h5
      simp (disch := first | assumption | exact isSc1 | exact isSc3 | exact isSc5 | decide | omega) only [iX7_beats_68, iX7_beats_69, iX7_beats_72, iX7_beats_75, Nat.reduceAdd, Nat.reduceSub, Nat.reduceMul, Nat.reduceLeDiff, mm_rv_s, mm_rv_n, true_and, and_true, if_true, if_false, not_true_eq_false, not_false_eq_true, nI_add, nz_0, nz_lt0, nz_0le, nz_0lt, nz_le0, nz_lt, nz_le, nz_eq, nz_cl, nz_in, nz_sub, nz_m1, pk_mul, set_o, set_ne, up_ne, up_set, n1_1, true_or, or_true, n1_01, n0_01, bI_01, bI_01b, bI_0, isSc1, isSc3, isSc5, ln_2, ln_4, ln_6, ln_8, ln_10, ln_11, ln_12, ln_13, ln_14, ln_16, ln_17, ln_18, ln_19, ln_20, ln_21, ln_23, ln_24, ln_25, ln_27, ln_28, ln_29, Nat.reduceEqDiff, x_longestFlight hW w2]
      exact hq
    · by_cases h6 : w = 6
      · subst h6
        simp (disch := first | assumption | exact isSc1 | exact isSc3 | exact isSc5 | decide | omega) only [iX7_beats_76, iX7_beats_77, iX7_beats_80, iX7_beats_83, Nat.reduceAdd, Nat.reduceSub, Nat.reduceMul, Nat.reduceLeDiff, mm_rv_s, mm_rv_n, true_and, and_true, if_true, if_false, not_true_eq_false, not_false_eq_true, nI_add, nz_0, nz_lt0, nz_0le, nz_0lt, nz_le0, nz_lt, nz_le, nz_eq, nz_cl, nz_in, nz_sub, nz_m1, pk_mul, set_o, set_ne, up_ne, up_set, n1_1, true_or, or_true, n1_01, n0_01, bI_01, bI_01b, bI_0, isSc1, isSc3, isSc5, ln_2, ln_4, ln_6, ln_8, ln_10, ln_11, ln_12, ln_13, ln_14, ln_16, ln_17, ln_18, ln_19, ln_20, ln_21, ln_23, ln_24, ln_25, ln_27, ln_28, ln_29, Nat.reduceEqDiff, x_flightCount hW w2]
        exact hq
      · simp (disch := first | assumption | exact isSc1 | exact isSc3 | exact isSc5 | decide | omega) only [iX7_beats_84, iX7_beats_85, iX7_beats_88, iX7_beats_89, iX7_beats_90, iX7_beats_91, iX7_beats_94, Nat.reduceAdd, Nat.reduceSub, Nat.reduceMul, Nat.reduceLeDiff, mm_rv_s, mm_rv_n, true_and, and_true, if_true, if_false, not_true_eq_false, not_false_eq_true, nI_add, nz_0, nz_lt0, nz_0le, nz_0lt, nz_le0, nz_lt, nz_le, nz_eq, nz_cl, nz_in, nz_sub, nz_m1, pk_mul, set_o, set_ne, up_ne, up_set, n1_1, true_or, or_true, n1_01, n0_01, bI_01, bI_01b, bI_0, isSc1, isSc3, isSc5, ln_2, ln_4, ln_6, ln_8, ln_10, ln_11, ln_12, ln_13, ln_14, ln_16, ln_17, ln_18, ln_19, ln_20, ln_21, ln_23, ln_24, ln_25, ln_27, ln_28, ln_29, h0, h5, h6, x_beatsOn hW w2 (show w - 1 ≤ 9 by omega)]
        have e : btV B L n g w = nI (cntF (fun t => decide (ftN B n g t = w - 1)) B) := by
          unfold btV
          rw [if_neg h5, if_neg h6]
          rw [cntF_congr (p := bpB B L n g w) (q := fun t => decide (ftN B n g t = w - 1)) B (fun t _ => by unfold bpB; rw [if_neg h0]; simp [show w < 5 by omega])]
        rw [e] at hq
        exact hq
theorem q_leastLeap (s : Ste M X V B L n g h H t c) (hQ : ∀ M', Ste M' X V B L n g h H t c → Q (some (if anF (fun t => decide (twN B n g t ≠ 0)) B 0 = true then -1004 else nI (mxF (flN (ftN B n g) B) B))) M') : wc 80 [.inr 0] M Q := by
  obtain ⟨hv, hn, hL, hx⟩ := id s.1
  have w2 := hv.2.1
  simp (disch := first | assumption | exact isSc1 | exact isSc3 | exact isSc5 | decide | omega) only [eX7_leastLeap, iX7_leastLeap_0, iX7_leastLeap_1, iX7_leastLeap_4, iX7_leastLeap_5, iX7_leastLeap_8]
  refine p_weigh hx hv (fun M' hS hW => ?_)
  have kp : Kp M M' := Kp.same hS (by decide)
  have hq := hQ M' (s.kp kp)
  simp (disch := first | assumption | exact isSc1 | exact isSc3 | exact isSc5 | decide | omega) only [iX7_leastLeap_11, iX7_leastLeap_12, iX7_leastLeap_15, mm_rv_n, x_isAnyLegTold hW w2]
  cases ha : anF (fun t => decide (twN B n g t ≠ 0)) B 0
  · rw [ha] at hq
    simp (disch := first | assumption | exact isSc1 | exact isSc3 | exact isSc5 | decide | omega) only [iX7_leastLeap_0, iX7_leastLeap_1, iX7_leastLeap_4, iX7_leastLeap_5, iX7_leastLeap_8, iX7_leastLeap_11, iX7_leastLeap_12, iX7_leastLeap_15, iX7_leastLeap_18, iX7_leastLeap_21, iX7_leastLeap_24, iX7_leastLeap_27, iX7_leastLeap_28, iX7_leastLeap_31, iX7_leastLeap_34, Nat.reduceAdd, Nat.reduceSub, Nat.reduceMul, Nat.reduceLeDiff, mm_rv_s, mm_rv_n, true_and, and_true, if_true, if_false, not_true_eq_false, not_false_eq_true, nI_add, nz_0, nz_lt0, nz_0le, nz_0lt, nz_le0, nz_lt, nz_le, nz_eq, nz_cl, nz_in, nz_sub, nz_m1, pk_mul, set_o, set_ne, up_ne, up_set, n1_1, true_or, or_true, n1_01, n0_01, bI_01, bI_01b, bI_0, isSc1, isSc3, isSc5, ln_2, ln_4, ln_6, ln_8, ln_10, ln_11, ln_12, ln_13, ln_14, ln_16, ln_17, ln_18, ln_19, ln_20, ln_21, ln_23, ln_24, ln_25, ln_27, ln_28, ln_29, bI_0, x_longestFlight hW w2, Bool.false_eq_true] at hq ⊢
    exact hq
  · rw [ha] at hq
    simp (disch := first | assumption | exact isSc1 | exact isSc3 | exact isSc5 | decide | omega) only [iX7_leastLeap_0, iX7_leastLeap_1, iX7_leastLeap_4, iX7_leastLeap_5, iX7_leastLeap_8, iX7_leastLeap_11, iX7_leastLeap_12, iX7_leastLeap_15, iX7_leastLeap_18, iX7_leastLeap_21, iX7_leastLeap_24, iX7_leastLeap_27, iX7_leastLeap_28, iX7_leastLeap_31, iX7_leastLeap_34, Nat.reduceAdd, Nat.reduceSub, Nat.reduceMul, Nat.reduceLeDiff, mm_rv_s, mm_rv_n, true_and, and_true, if_true, if_false, not_true_eq_false, not_false_eq_true, nI_add, nz_0, nz_lt0, nz_0le, nz_0lt, nz_le0, nz_lt, nz_le, nz_eq, nz_cl, nz_in, nz_sub, nz_m1, pk_mul, set_o, set_ne, up_ne, up_set, n1_1, true_or, or_true, n1_01, n0_01, bI_01, bI_01b, bI_0, isSc1, isSc3, isSc5, ln_2, ln_4, ln_6, ln_8, ln_10, ln_11, ln_12, ln_13, ln_14, ln_16, ln_17, ln_18, ln_19, ln_20, ln_21, ln_23, ln_24, ln_25, ln_27, ln_28, ln_29, bI_0, Bool.true_eq_false] at hq ⊢
    exact hq
theorem q_covered (s : Ste M X V B L n g h H t c) {k : Nat} (hc6 : k ≤ 6) {a2 : Int32} (hr2 : (-1 : Int32) ≤ a2 ∧ a2 ≤ nI 3) (hQ : ∀ M', Ste M' X V B L n g h H t c → Q (some (nI (cntF (fun t => cdO g a2 (cv B n g k t)) B))) M') : wc 81 [.inr 0, .inl (nI k), .inl a2] M Q := by
  obtain ⟨hv, hn, hL, hx⟩ := id s.1
  have w2 := hv.2.1
  have x0 := hx.1
  simp (disch := first | assumption | exact isSc1 | exact isSc3 | exact isSc5 | decide | omega) only [eX7_covered, iX7_covered_0, iX7_covered_1, iX7_covered_4, iX7_covered_7, iX7_covered_8, iX7_covered_9, iX7_covered_10, iX7_covered_13, iX7_covered_16, iX7_covered_19, iX7_covered_20, iX7_covered_21, iX7_covered_24, iX7_covered_25, iX7_covered_26, iX7_covered_29, Nat.reduceAdd, Nat.reduceSub, Nat.reduceMul, Nat.reduceLeDiff, mm_rv_s, mm_rv_n, true_and, and_true, if_true, if_false, not_true_eq_false, not_false_eq_true, nI_add, nz_0, nz_lt0, nz_0le, nz_0lt, nz_le0, nz_lt, nz_le, nz_eq, nz_cl, nz_in, nz_sub, nz_m1, pk_mul, set_o, set_ne, up_ne, up_set, n1_1, true_or, or_true, n1_01, n0_01, bI_01, bI_01b, bI_0, isSc1, isSc3, isSc5, ln_2, ln_4, ln_6, ln_8, ln_10, ln_11, ln_12, ln_13, ln_14, ln_16, ln_17, ln_18, ln_19, ln_20, ln_21, ln_23, ln_24, ln_25, ln_27, ln_28, ln_29, p_isColumn, p_isWithin, hr2, hc6, Nat.zero_le, and_self, decide_true, Bool.true_eq_false]
  refine p_fillRow (r := 29) isSc1 hx hv hc6 ln_29 (by decide) (by decide) (by decide) (fun f hf => ?_)
  have kp : Kp M (mm_set M 29 f) := Kp.set f (by decide)
  have hq := hQ _ (s.kp kp)
  have e0 : mm_set M 29 f 1 0 = nI B := by rw [set_ne _ _ (by decide), x0]
  have e29 : mm_set M 29 f 29 = f := set_o _ _ _
  generalize mm_set M 29 f = M2 at kp e0 e29 hq ⊢
  simp (disch := first | assumption | exact isSc1 | exact isSc3 | exact isSc5 | decide | omega) only [iX7_covered_32, iX7_covered_33, iX7_covered_34, iX7_covered_35, mm_rv_n]
  have loop : ∀ d b : Nat, b + d = B → ∀ l5, wp 81 37 [some (.inr 0), some (.inl (nI k)), some (.inl a2), some (.inl (nI (cntF (fun t => cdO g a2 (cv B n g k t)) b))), some (.inl (nI b)), l5] [] M2 Q := by
    intro d
    induction d with
    | zero =>
      intro b hb l5
      have hb : b = B := by omega
      subst hb
      rw [iX7_covered_37]
      simp (disch := first | assumption | exact isSc1 | exact isSc3 | exact isSc5 | decide | omega) only [iX7_covered_39, iX7_covered_40, iX7_covered_43, iX7_covered_46, iX7_covered_87, iX7_covered_88, Nat.reduceAdd, Nat.reduceSub, Nat.reduceMul, Nat.reduceLeDiff, mm_rv_s, mm_rv_n, true_and, and_true, if_true, if_false, not_true_eq_false, not_false_eq_true, nI_add, nz_0, nz_lt0, nz_0le, nz_0lt, nz_le0, nz_lt, nz_le, nz_eq, nz_cl, nz_in, nz_sub, nz_m1, pk_mul, set_o, set_ne, up_ne, up_set, n1_1, true_or, or_true, n1_01, n0_01, bI_01, bI_01b, bI_0, isSc1, isSc3, isSc5, ln_2, ln_4, ln_6, ln_8, ln_10, ln_11, ln_12, ln_13, ln_14, ln_16, ln_17, ln_18, ln_19, ln_20, ln_21, ln_23, ln_24, ln_25, ln_27, ln_28, ln_29, e0, Nat.le_refl]
      exact hq
    | succ d ih =>
      intro b hb l5
      have := ih (b + 1) (by omega)
      have e := hf b (by omega)
      rw [cntF_s] at this
      rw [iX7_covered_37]
      simp (disch := first | assumption | exact isSc1 | exact isSc3 | exact isSc5 | decide | omega) only [iX7_covered_39, iX7_covered_40, iX7_covered_43, iX7_covered_46, iX7_covered_49, iX7_covered_50, iX7_covered_53, iX7_covered_55, iX7_covered_56, iX7_covered_58, Nat.reduceAdd, Nat.reduceSub, Nat.reduceMul, Nat.reduceLeDiff, mm_rv_s, mm_rv_n, true_and, and_true, if_true, if_false, not_true_eq_false, not_false_eq_true, nI_add, nz_0, nz_lt0, nz_0le, nz_0lt, nz_le0, nz_lt, nz_le, nz_eq, nz_cl, nz_in, nz_sub, nz_m1, pk_mul, set_o, set_ne, up_ne, up_set, n1_1, true_or, or_true, n1_01, n0_01, bI_01, bI_01b, bI_0, isSc1, isSc3, isSc5, ln_2, ln_4, ln_6, ln_8, ln_10, ln_11, ln_12, ln_13, ln_14, ln_16, ln_17, ln_18, ln_19, ln_20, ln_21, ln_23, ln_24, ln_25, ln_27, ln_28, ln_29, e0, show ¬ B ≤ b by omega, e29, e]
      cases hcv : cv B n g k b with
      | none =>
        have := this (some (.inl (-1)))
        rw [hcv] at this
        simp (disch := first | assumption | exact isSc1 | exact isSc3 | exact isSc5 | decide | omega) only [oP, cdO, iX7_covered_60, iX7_covered_61, iX7_covered_64, iX7_covered_65, iX7_covered_66, iX7_covered_69, iX7_covered_71, iX7_covered_74, iX7_covered_75, iX7_covered_78, iX7_covered_81, iX7_covered_84, Nat.reduceAdd, Nat.reduceSub, Nat.reduceMul, Nat.reduceLeDiff, mm_rv_s, mm_rv_n, true_and, and_true, if_true, if_false, not_true_eq_false, not_false_eq_true, nI_add, nz_0, nz_lt0, nz_0le, nz_0lt, nz_le0, nz_lt, nz_le, nz_eq, nz_cl, nz_in, nz_sub, nz_m1, pk_mul, set_o, set_ne, up_ne, up_set, n1_1, true_or, or_true, n1_01, n0_01, bI_01, bI_01b, bI_0, isSc1, isSc3, isSc5, ln_2, ln_4, ln_6, ln_8, ln_10, ln_11, ln_12, ln_13, ln_14, ln_16, ln_17, ln_18, ln_19, ln_20, ln_21, ln_23, ln_24, ln_25, ln_27, ln_28, ln_29, Bool.false_eq_true, Nat.add_zero] at this ⊢
        exact this
      | some i =>
        have := this (some (.inl (nI (pk (g i)))))
        rw [hcv] at this
        obtain ⟨o1, o2⟩ := cv_ok hv hcv
        have hl := (sgp_f o1 o2).2.2.2.2.2.2.2
        simp (disch := first | assumption | exact isSc1 | exact isSc3 | exact isSc5 | decide | omega) only [oP, cdO, iX7_covered_60, iX7_covered_61, iX7_covered_64, iX7_covered_65, iX7_covered_66, Nat.reduceAdd, Nat.reduceSub, Nat.reduceMul, Nat.reduceLeDiff, mm_rv_s, mm_rv_n, true_and, and_true, if_true, if_false, not_true_eq_false, not_false_eq_true, nI_add, nz_0, nz_lt0, nz_0le, nz_0lt, nz_le0, nz_lt, nz_le, nz_eq, nz_cl, nz_in, nz_sub, nz_m1, pk_mul, set_o, set_ne, up_ne, up_set, n1_1, true_or, or_true, n1_01, n0_01, bI_01, bI_01b, bI_0, isSc1, isSc3, isSc5, ln_2, ln_4, ln_6, ln_8, ln_10, ln_11, ln_12, ln_13, ln_14, ln_16, ln_17, ln_18, ln_19, ln_20, ln_21, ln_23, ln_24, ln_25, ln_27, ln_28, ln_29, nz_ne1] at this ⊢
        by_cases k1 : a2 = -1
        · simp (disch := first | assumption | exact isSc1 | exact isSc3 | exact isSc5 | decide | omega) only [k1, iX7_covered_78, iX7_covered_81, iX7_covered_84, Nat.reduceAdd, Nat.reduceSub, Nat.reduceMul, Nat.reduceLeDiff, mm_rv_s, mm_rv_n, true_and, and_true, if_true, if_false, not_true_eq_false, not_false_eq_true, nI_add, nz_0, nz_lt0, nz_0le, nz_0lt, nz_le0, nz_lt, nz_le, nz_eq, nz_cl, nz_in, nz_sub, nz_m1, pk_mul, set_o, set_ne, up_ne, up_set, n1_1, true_or, or_true, n1_01, n0_01, bI_01, bI_01b, bI_0, isSc1, isSc3, isSc5, ln_2, ln_4, ln_6, ln_8, ln_10, ln_11, ln_12, ln_13, ln_14, ln_16, ln_17, ln_18, ln_19, ln_20, ln_21, ln_23, ln_24, ln_25, ln_27, ln_28, ln_29, decide_true] at this ⊢
          exact this
        · simp (disch := first | assumption | exact isSc1 | exact isSc3 | exact isSc5 | decide | omega) only [k1, iX7_covered_69, iX7_covered_71, iX7_covered_74, iX7_covered_75, Nat.reduceAdd, Nat.reduceSub, Nat.reduceMul, Nat.reduceLeDiff, mm_rv_s, mm_rv_n, true_and, and_true, if_true, if_false, not_true_eq_false, not_false_eq_true, nI_add, nz_0, nz_lt0, nz_0le, nz_0lt, nz_le0, nz_lt, nz_le, nz_eq, nz_cl, nz_in, nz_sub, nz_m1, pk_mul, set_o, set_ne, up_ne, up_set, n1_1, true_or, or_true, n1_01, n0_01, bI_01, bI_01b, bI_0, isSc1, isSc3, isSc5, ln_2, ln_4, ln_6, ln_8, ln_10, ln_11, ln_12, ln_13, ln_14, ln_16, ln_17, ln_18, ln_19, ln_20, ln_21, ln_23, ln_24, ln_25, ln_27, ln_28, ln_29, g_kindOf o1 o2, false_or] at this ⊢
          by_cases k2 : nI (sK (g i)) = a2
          · simp only [k2, decide_true, if_true, if_false, not_true_eq_false] at this ⊢
            simp (disch := first | assumption | exact isSc1 | exact isSc3 | exact isSc5 | decide | omega) only [iX7_covered_78, iX7_covered_81, iX7_covered_84, nI_add]
            exact this
          · simp only [k2, decide_false, if_true, if_false, not_false_eq_true, Bool.false_eq_true, Nat.add_zero] at this ⊢
            simp (disch := first | assumption | exact isSc1 | exact isSc3 | exact isSc5 | decide | omega) only [iX7_covered_81, iX7_covered_84, nI_add]
            exact this
  exact loop B 0 (by omega) none
theorem q_floor0 (s : Ste M X V B L n g h H t c) {w : Nat} (hw2 : w ≤ 2) (hQ : ∀ M', Ste M' X V B L n g h H t c → Q (some (nI 0)) M') : wc 82 [.inr 0, .inl (nI 0), .inl (nI w)] M Q := by
  obtain ⟨hv, hn, hL, hx⟩ := id s.1
  have w1 := hv.1
  have w2 := hv.2.1
  have x0 := hx.1
  have hw := s.2.2.2.1
  have htB : 0 ≤ B := Nat.zero_le B
  simp (disch := first | assumption | exact isSc1 | exact isSc3 | exact isSc5 | decide | omega) only [eX7_floor, iX7_floor_0, iX7_floor_1, iX7_floor_2, iX7_floor_3, iX7_floor_6, iX7_floor_9, iX7_floor_12, iX7_floor_15, iX7_floor_16, iX7_floor_17, iX7_floor_18, iX7_floor_21, iX7_floor_24, iX7_floor_27, iX7_floor_28, iX7_floor_29, iX7_floor_32, iX7_floor_33, iX7_floor_36, Nat.reduceAdd, Nat.reduceSub, Nat.reduceMul, Nat.reduceLeDiff, mm_rv_s, mm_rv_n, true_and, and_true, if_true, if_false, not_true_eq_false, not_false_eq_true, nI_add, nz_0, nz_lt0, nz_0le, nz_0lt, nz_le0, nz_lt, nz_le, nz_eq, nz_cl, nz_in, nz_sub, nz_m1, pk_mul, set_o, set_ne, up_ne, up_set, n1_1, true_or, or_true, n1_01, n0_01, bI_01, bI_01b, bI_0, isSc1, isSc3, isSc5, ln_2, ln_4, ln_6, ln_8, ln_10, ln_11, ln_12, ln_13, ln_14, ln_16, ln_17, ln_18, ln_19, ln_20, ln_21, ln_23, ln_24, ln_25, ln_27, ln_28, ln_29, p_isWithin, x0, htB, hw2, Nat.zero_le, and_self, decide_true, Bool.true_eq_false]
  refine p_follow hx hv hn hw (fun M' hS hW2 hW => ?_)
  have kp : Kp M M' := Kp.walk hS hw hW2
  have hq := hQ M' (s.kp kp)
  obtain ⟨e16, e17, e18⟩ := hW2
  by_cases k2 : w = 2
  · simp (disch := first | assumption | exact isSc1 | exact isSc3 | exact isSc5 | decide | omega) only [iX7_floor_39, iX7_floor_40, iX7_floor_41, iX7_floor_44, iX7_floor_45, iX7_floor_48, iX7_floor_51, iX7_floor_52, iX7_floor_53, Nat.reduceAdd, Nat.reduceSub, Nat.reduceMul, Nat.reduceLeDiff, mm_rv_s, mm_rv_n, true_and, and_true, if_true, if_false, not_true_eq_false, not_false_eq_true, nI_add, nz_0, nz_lt0, nz_0le, nz_0lt, nz_le0, nz_lt, nz_le, nz_eq, nz_cl, nz_in, nz_sub, nz_m1, pk_mul, set_o, set_ne, up_ne, up_set, n1_1, true_or, or_true, n1_01, n0_01, bI_01, bI_01b, bI_0, isSc1, isSc3, isSc5, ln_2, ln_4, ln_6, ln_8, ln_10, ln_11, ln_12, ln_13, ln_14, ln_16, ln_17, ln_18, ln_19, ln_20, ln_21, ln_23, ln_24, ln_25, ln_27, ln_28, ln_29, k2, e18]
    exact hq
  · by_cases k0 : w = 0
    · simp (disch := first | assumption | exact isSc1 | exact isSc3 | exact isSc5 | decide | omega) only [iX7_floor_39, iX7_floor_40, iX7_floor_41, iX7_floor_44, iX7_floor_45, iX7_floor_48, iX7_floor_51, iX7_floor_52, iX7_floor_53, iX7_floor_54, iX7_floor_55, iX7_floor_58, iX7_floor_59, iX7_floor_62, iX7_floor_65, iX7_floor_66, iX7_floor_67, iX7_floor_70, iX7_floor_71, iX7_floor_74, iX7_floor_77, iX7_floor_78, iX7_floor_79, Nat.reduceAdd, Nat.reduceSub, Nat.reduceMul, Nat.reduceLeDiff, mm_rv_s, mm_rv_n, true_and, and_true, if_true, if_false, not_true_eq_false, not_false_eq_true, nI_add, nz_0, nz_lt0, nz_0le, nz_0lt, nz_le0, nz_lt, nz_le, nz_eq, nz_cl, nz_in, nz_sub, nz_m1, pk_mul, set_o, set_ne, up_ne, up_set, n1_1, true_or, or_true, n1_01, n0_01, bI_01, bI_01b, bI_0, isSc1, isSc3, isSc5, ln_2, ln_4, ln_6, ln_8, ln_10, ln_11, ln_12, ln_13, ln_14, ln_16, ln_17, ln_18, ln_19, ln_20, ln_21, ln_23, ln_24, ln_25, ln_27, ln_28, ln_29, k0, e16, Nat.reduceEqDiff]
      exact hq
    · simp (disch := first | assumption | exact isSc1 | exact isSc3 | exact isSc5 | decide | omega) only [iX7_floor_39, iX7_floor_40, iX7_floor_41, iX7_floor_44, iX7_floor_45, iX7_floor_48, iX7_floor_51, iX7_floor_52, iX7_floor_53, iX7_floor_54, iX7_floor_55, iX7_floor_58, iX7_floor_59, iX7_floor_62, iX7_floor_65, iX7_floor_66, iX7_floor_67, iX7_floor_70, iX7_floor_71, iX7_floor_74, iX7_floor_77, iX7_floor_78, iX7_floor_79, Nat.reduceAdd, Nat.reduceSub, Nat.reduceMul, Nat.reduceLeDiff, mm_rv_s, mm_rv_n, true_and, and_true, if_true, if_false, not_true_eq_false, not_false_eq_true, nI_add, nz_0, nz_lt0, nz_0le, nz_0lt, nz_le0, nz_lt, nz_le, nz_eq, nz_cl, nz_in, nz_sub, nz_m1, pk_mul, set_o, set_ne, up_ne, up_set, n1_1, true_or, or_true, n1_01, n0_01, bI_01, bI_01b, bI_0, isSc1, isSc3, isSc5, ln_2, ln_4, ln_6, ln_8, ln_10, ln_11, ln_12, ln_13, ln_14, ln_16, ln_17, ln_18, ln_19, ln_20, ln_21, ln_23, ln_24, ln_25, ln_27, ln_28, ln_29, k2, k0, e17]
      exact hq
theorem q_farthest (s : Ste M X V B L n g h H t c) (hQ : ∀ M', Ste M' X V B L n g h H t c → Q (some (nI (mxF (dsN g n) (B + 1)))) M') : wc 84 [.inr 0] M Q := by
  obtain ⟨hv, hn, hL, hx⟩ := id s.1
  have w2 := hv.2.1
  have x0 := hx.1
  have hw := s.2.2.2.1
  simp (disch := first | assumption | exact isSc1 | exact isSc3 | exact isSc5 | decide | omega) only [eX7_farthest, iX7_farthest_0, iX7_farthest_1, iX7_farthest_4, iX7_farthest_5, iX7_farthest_8]
  refine p_follow hx hv hn hw (fun M' hS hW2 hW => ?_)
  have kp : Kp M M' := Kp.walk hS hw hW2
  have hq := hQ M' (s.kp kp)
  have e0 : M' 1 0 = nI B := by rw [hS 1 (by decide), x0]
  have loop : ∀ d t : Nat, t + d = B + 1 → wp 84 15 [some (.inr 0), some (.inl (nI (mxF (dsN g n) t))), some (.inl (nI t))] [] M' Q := by
    intro d
    induction d with
    | zero =>
      intro t hd
      have hd : t = B + 1 := by omega
      subst hd
      rw [iX7_farthest_15]
      simp (disch := first | assumption | exact isSc1 | exact isSc3 | exact isSc5 | decide | omega) only [iX7_farthest_16, iX7_farthest_17, iX7_farthest_20, iX7_farthest_23, iX7_farthest_45, iX7_farthest_46, Nat.reduceAdd, Nat.reduceSub, Nat.reduceMul, Nat.reduceLeDiff, mm_rv_s, mm_rv_n, true_and, and_true, if_true, if_false, not_true_eq_false, not_false_eq_true, nI_add, nz_0, nz_lt0, nz_0le, nz_0lt, nz_le0, nz_lt, nz_le, nz_eq, nz_cl, nz_in, nz_sub, nz_m1, pk_mul, set_o, set_ne, up_ne, up_set, n1_1, true_or, or_true, n1_01, n0_01, bI_01, bI_01b, bI_0, isSc1, isSc3, isSc5, ln_2, ln_4, ln_6, ln_8, ln_10, ln_11, ln_12, ln_13, ln_14, ln_16, ln_17, ln_18, ln_19, ln_20, ln_21, ln_23, ln_24, ln_25, ln_27, ln_28, ln_29, e0, show B < B + 1 by omega]
      exact hq
    | succ d ih =>
      intro t hd
      have i1 := ih (t + 1) (by omega)
      have hs := dsN_le g n (show t ≤ 48 by omega)
      have hm := mxF_le (dsN g n) (m := 192) t (fun s hs => dsN_le g n (by omega))
      have em : (if nI (mxF (dsN g n) t) < nI (dsN g n t) then nI (dsN g n t) else nI (mxF (dsN g n) t)) = nI (mxF (dsN g n) (t + 1)) := by
        simp (disch := omega) only [nz_lt, mxF]
        split <;> rfl
      rw [iX7_farthest_15]
      simp (disch := first | assumption | exact isSc1 | exact isSc3 | exact isSc5 | decide | omega) only [iX7_farthest_16, iX7_farthest_17, iX7_farthest_20, iX7_farthest_23, iX7_farthest_26, iX7_farthest_27, iX7_farthest_28, iX7_farthest_31, iX7_farthest_32, Nat.reduceAdd, Nat.reduceSub, Nat.reduceMul, Nat.reduceLeDiff, mm_rv_s, mm_rv_n, true_and, and_true, if_true, if_false, not_true_eq_false, not_false_eq_true, nI_add, nz_0, nz_lt0, nz_0le, nz_0lt, nz_le0, nz_lt, nz_le, nz_eq, nz_cl, nz_in, nz_sub, nz_m1, pk_mul, set_o, set_ne, up_ne, up_set, n1_1, true_or, or_true, n1_01, n0_01, bI_01, bI_01b, bI_0, isSc1, isSc3, isSc5, ln_2, ln_4, ln_6, ln_8, ln_10, ln_11, ln_12, ln_13, ln_14, ln_16, ln_17, ln_18, ln_19, ln_20, ln_21, ln_23, ln_24, ln_25, ln_27, ln_28, ln_29, e0, show ¬ B < t by omega, p_distanceAt hW w2 (show t ≤ B by omega)]
      rw [iX7_farthest_35, p_max, em]
      simp (disch := first | assumption | exact isSc1 | exact isSc3 | exact isSc5 | decide | omega) only [iX7_farthest_38, iX7_farthest_39, iX7_farthest_42, Nat.reduceAdd, Nat.reduceSub, Nat.reduceMul, Nat.reduceLeDiff, mm_rv_s, mm_rv_n, true_and, and_true, if_true, if_false, not_true_eq_false, not_false_eq_true, nI_add, nz_0, nz_lt0, nz_0le, nz_0lt, nz_le0, nz_lt, nz_le, nz_eq, nz_cl, nz_in, nz_sub, nz_m1, pk_mul, set_o, set_ne, up_ne, up_set, n1_1, true_or, or_true, n1_01, n0_01, bI_01, bI_01b, bI_0, isSc1, isSc3, isSc5, ln_2, ln_4, ln_6, ln_8, ln_10, ln_11, ln_12, ln_13, ln_14, ln_16, ln_17, ln_18, ln_19, ln_20, ln_21, ln_23, ln_24, ln_25, ln_27, ln_28, ln_29]
      exact i1
  simp (disch := first | assumption | exact isSc1 | exact isSc3 | exact isSc5 | decide | omega) only [iX7_farthest_11, iX7_farthest_12, iX7_farthest_13, iX7_farthest_14, mm_rv_n]
  exact loop (B + 1) 0 (by omega)
theorem q_alike (s : Ste M X V B L n g h H t c) {f l o : Nat} (hfl : f < l) (hl : l ≤ B) (ho : o + (l - f) ≤ B) (b : Bool) (hQ : ∀ M', Ste M' X V B L n g h H t c → Q (some (alV b B n g f l o)) M') : wc 85 [.inr 0, .inl (nI f), .inl (nI l), .inl (nI o), .inl (bI b)] M Q := by
  obtain ⟨hv, hn, hL, hx⟩ := id s.1
  have w2 := hv.2.1
  have x0 := hx.1
  have hr1 : (nI 0 ≤ nI f ∧ nI f ≤ nI B - nI 1) ∧ (nI f + nI 1 ≤ nI l ∧ nI l ≤ nI B) := by
    rw [nz_sub _ _ (by omega), nI_add]
    simp (disch := omega) only [nz_le]
    omega
  have es : nI B - nI (l - f) = nI (B - (l - f)) := nz_sub _ _ (by omega)
  have hr2 : nI 0 ≤ nI o ∧ nI o ≤ nI (B - (l - f)) := by
    simp (disch := omega) only [nz_le]
    omega
  have hb3 : nI 0 ≤ bI b ∧ bI b ≤ nI 1 := by cases b <;> decide
  have := x_alike hx hv hfl hl ho b (Q := Q) (fun M' hS => hQ M' (s.kp (Kp.same hS (by decide))))
  simp (disch := first | assumption | exact isSc1 | exact isSc3 | exact isSc5 | decide | omega) only [eX7_alike, iX7_alike_0, iX7_alike_1, iX7_alike_2, iX7_alike_3, iX7_alike_6, iX7_alike_9, iX7_alike_10, iX7_alike_11, iX7_alike_12, iX7_alike_15, iX7_alike_18, iX7_alike_19, iX7_alike_20, iX7_alike_21, iX7_alike_22, iX7_alike_25, iX7_alike_28, iX7_alike_30, iX7_alike_33, p_isPhrase, p_isWithin, p_isFlag, x0, isSc1, mm_rv_s, true_and, bI_0, bI_01, decide_eq_false_iff_not, nz_sub l f, es, hr1, hr2, hb3, and_self, decide_true, Bool.true_eq_false, not_true_eq_false, not_false_eq_true, if_true, if_false]
  exact this
end QST
