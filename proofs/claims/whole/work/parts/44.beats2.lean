section BT2
variable {M : mm_M} {Q : mm_Q}
theorem cntF_congr {p q : Nat → Bool} : ∀ b, (∀ t, t < b → p t = q t) → cntF p b = cntF q b := by
  intro b
  induction b with
  | zero => intro _; rfl
  | succ b ih =>
    intro h
    rw [cntF_s, cntF_s, ih (fun t ht => h t (by omega)), h b (by omega)]
theorem pr_beats (hI : Inv M) (a1 : Int32) : lw_pair Inv M 79 136 [.inl a1] := by
  obtain ⟨⟨B, L, n, g, hc⟩, ⟨h, H, hh⟩, ht, hw⟩ := id hI
  obtain ⟨hv, hn, hL, hx, hd⟩ := id hc
  have w1 := hv.1
  have w2 := hv.2.1
  have w3 := hv.2.2.1
  by_cases hr : nI 0 ≤ a1 ∧ a1 ≤ nI 6
  · obtain ⟨w, rfl, -, hw6⟩ := in_nat hr.1 hr.2 (by decide) (by decide)
    refine pair_q hI (btV B L n g w) ?_ (fun M1 hk => m_beats (hc.kp hk).2.2.2.2 hv hL hw6 (fun f => ⟨rfl, Kp.set f (by decide)⟩))
    simp (disch := first | assumption | exact isSc1 | exact isSc3 | exact isSc5 | decide | omega) only [eX7_beats, iX7_beats_0, iX7_beats_1, iX7_beats_2, iX7_beats_4, iX7_beats_7, iX7_beats_10, iX7_beats_13, iX7_beats_14, iX7_beats_15, iX7_beats_18, iX7_beats_19, iX7_beats_22, Nat.reduceAdd, Nat.reduceSub, Nat.reduceMul, Nat.reduceLeDiff, mm_rv_s, mm_rv_n, true_and, and_true, if_true, if_false, not_true_eq_false, not_false_eq_true, nI_add, nz_0, nz_lt0, nz_0le, nz_0lt, nz_le0, nz_lt, nz_le, nz_eq, nz_cl, nz_in, nz_sub, nz_m1, pk_mul, set_o, set_ne, up_ne, up_set, n1_1, true_or, or_true, n1_01, n0_01, bI_01, bI_01b, bI_0, isSc1, isSc3, isSc5, ln_2, ln_4, ln_6, ln_8, ln_10, ln_11, ln_12, ln_13, ln_14, ln_16, ln_17, ln_18, ln_19, ln_20, ln_21, ln_23, ln_24, ln_25, ln_27, ln_28, ln_29, ln_31, ln_32, ln_33, ln_35, ln_36, ln_37, p_isWithin, hw6, Nat.zero_le, and_self, decide_true, Bool.true_eq_false]
    refine p_weigh hx hv (fun M' hS hW => ?_)
    have kp : Kp M M' := Kp.same hS (by decide)
    simp (disch := first | assumption | exact isSc1 | exact isSc3 | exact isSc5 | decide | omega) only [iX7_beats_25, iX7_beats_26, mm_rv_n, wsw_n, wsw_c]
    by_cases h0 : w = 0
    · subst h0
      simp (disch := first | assumption | exact isSc1 | exact isSc3 | exact isSc5 | decide | omega) only [iX7_beats_60, iX7_beats_61, iX7_beats_64, iX7_beats_67, Nat.reduceAdd, Nat.reduceSub, Nat.reduceMul, Nat.reduceLeDiff, mm_rv_s, mm_rv_n, true_and, and_true, if_true, if_false, not_true_eq_false, not_false_eq_true, nI_add, nz_0, nz_lt0, nz_0le, nz_0lt, nz_le0, nz_lt, nz_le, nz_eq, nz_cl, nz_in, nz_sub, nz_m1, pk_mul, set_o, set_ne, up_ne, up_set, n1_1, true_or, or_true, n1_01, n0_01, bI_01, bI_01b, bI_0, isSc1, isSc3, isSc5, ln_2, ln_4, ln_6, ln_8, ln_10, ln_11, ln_12, ln_13, ln_14, ln_16, ln_17, ln_18, ln_19, ln_20, ln_21, ln_23, ln_24, ln_25, ln_27, ln_28, ln_29, ln_31, ln_32, ln_33, ln_35, ln_36, ln_37, x_wrongBeats hW w2 hL]
      refine ⟨?_, kp⟩
      rfl
    · by_cases h5 : w = 5
      · subst h5
        simp (disch := first | assumption | exact isSc1 | exact isSc3 | exact isSc5 | decide | omega) only [iX7_beats_68, iX7_beats_69, iX7_beats_72, iX7_beats_75, Nat.reduceAdd, Nat.reduceSub, Nat.reduceMul, Nat.reduceLeDiff, mm_rv_s, mm_rv_n, true_and, and_true, if_true, if_false, not_true_eq_false, not_false_eq_true, nI_add, nz_0, nz_lt0, nz_0le, nz_0lt, nz_le0, nz_lt, nz_le, nz_eq, nz_cl, nz_in, nz_sub, nz_m1, pk_mul, set_o, set_ne, up_ne, up_set, n1_1, true_or, or_true, n1_01, n0_01, bI_01, bI_01b, bI_0, isSc1, isSc3, isSc5, ln_2, ln_4, ln_6, ln_8, ln_10, ln_11, ln_12, ln_13, ln_14, ln_16, ln_17, ln_18, ln_19, ln_20, ln_21, ln_23, ln_24, ln_25, ln_27, ln_28, ln_29, ln_31, ln_32, ln_33, ln_35, ln_36, ln_37, Nat.reduceEqDiff, x_longestFlight hW w2]
        refine ⟨?_, kp⟩
        rfl
      · by_cases h6 : w = 6
        · subst h6
          simp (disch := first | assumption | exact isSc1 | exact isSc3 | exact isSc5 | decide | omega) only [iX7_beats_76, iX7_beats_77, iX7_beats_80, iX7_beats_83, Nat.reduceAdd, Nat.reduceSub, Nat.reduceMul, Nat.reduceLeDiff, mm_rv_s, mm_rv_n, true_and, and_true, if_true, if_false, not_true_eq_false, not_false_eq_true, nI_add, nz_0, nz_lt0, nz_0le, nz_0lt, nz_le0, nz_lt, nz_le, nz_eq, nz_cl, nz_in, nz_sub, nz_m1, pk_mul, set_o, set_ne, up_ne, up_set, n1_1, true_or, or_true, n1_01, n0_01, bI_01, bI_01b, bI_0, isSc1, isSc3, isSc5, ln_2, ln_4, ln_6, ln_8, ln_10, ln_11, ln_12, ln_13, ln_14, ln_16, ln_17, ln_18, ln_19, ln_20, ln_21, ln_23, ln_24, ln_25, ln_27, ln_28, ln_29, ln_31, ln_32, ln_33, ln_35, ln_36, ln_37, Nat.reduceEqDiff, x_flightCount hW w2]
          refine ⟨?_, kp⟩
          rfl
        · simp (disch := first | assumption | exact isSc1 | exact isSc3 | exact isSc5 | decide | omega) only [iX7_beats_84, iX7_beats_85, iX7_beats_88, iX7_beats_89, iX7_beats_90, iX7_beats_91, iX7_beats_94, Nat.reduceAdd, Nat.reduceSub, Nat.reduceMul, Nat.reduceLeDiff, mm_rv_s, mm_rv_n, true_and, and_true, if_true, if_false, not_true_eq_false, not_false_eq_true, nI_add, nz_0, nz_lt0, nz_0le, nz_0lt, nz_le0, nz_lt, nz_le, nz_eq, nz_cl, nz_in, nz_sub, nz_m1, pk_mul, set_o, set_ne, up_ne, up_set, n1_1, true_or, or_true, n1_01, n0_01, bI_01, bI_01b, bI_0, isSc1, isSc3, isSc5, ln_2, ln_4, ln_6, ln_8, ln_10, ln_11, ln_12, ln_13, ln_14, ln_16, ln_17, ln_18, ln_19, ln_20, ln_21, ln_23, ln_24, ln_25, ln_27, ln_28, ln_29, ln_31, ln_32, ln_33, ln_35, ln_36, ln_37, h0, h5, h6, x_beatsOn hW w2 (show w - 1 ≤ 9 by omega)]
          refine ⟨?_, kp⟩
          unfold btV
          rw [if_neg h5, if_neg h6]
          rw [cntF_congr (q := bpB B L n g w) B (fun t _ => by unfold bpB; rw [if_neg h0]; simp [show w < 5 by omega])]
  · refine pair_q hI (-1001) ?_ (fun M1 hk => ?_)
    · simp (disch := first | assumption | exact isSc1 | exact isSc3 | exact isSc5 | decide | omega) only [eX7_beats, iX7_beats_0, iX7_beats_1, iX7_beats_2, iX7_beats_4, iX7_beats_7, iX7_beats_10, iX7_beats_13, Nat.reduceAdd, Nat.reduceSub, Nat.reduceMul, Nat.reduceLeDiff, mm_rv_s, mm_rv_n, true_and, and_true, if_true, if_false, not_true_eq_false, not_false_eq_true, nI_add, nz_0, nz_lt0, nz_0le, nz_0lt, nz_le0, nz_lt, nz_le, nz_eq, nz_cl, nz_in, nz_sub, nz_m1, pk_mul, set_o, set_ne, up_ne, up_set, n1_1, true_or, or_true, n1_01, n0_01, bI_01, bI_01b, bI_0, isSc1, isSc3, isSc5, ln_2, ln_4, ln_6, ln_8, ln_10, ln_11, ln_12, ln_13, ln_14, ln_16, ln_17, ln_18, ln_19, ln_20, ln_21, ln_23, ln_24, ln_25, ln_27, ln_28, ln_29, ln_31, ln_32, ln_33, ln_35, ln_36, ln_37, p_isWithin, hr, decide_false]
      first | exact Kp.rf M | exact ⟨rfl, Kp.rf M⟩
    · simp (disch := first | assumption | exact isSc1 | exact isSc3 | exact isSc5 | decide | omega) only [eX8_beats, iX8_beats_0, iX8_beats_1, iX8_beats_2, iX8_beats_4, iX8_beats_7, iX8_beats_10, iX8_beats_13, Nat.reduceAdd, Nat.reduceSub, Nat.reduceMul, Nat.reduceLeDiff, mm_rv_s, mm_rv_n, true_and, and_true, if_true, if_false, not_true_eq_false, not_false_eq_true, nI_add, nz_0, nz_lt0, nz_0le, nz_0lt, nz_le0, nz_lt, nz_le, nz_eq, nz_cl, nz_in, nz_sub, nz_m1, pk_mul, set_o, set_ne, up_ne, up_set, n1_1, true_or, or_true, n1_01, n0_01, bI_01, bI_01b, bI_0, isSc1, isSc3, isSc5, ln_2, ln_4, ln_6, ln_8, ln_10, ln_11, ln_12, ln_13, ln_14, ln_16, ln_17, ln_18, ln_19, ln_20, ln_21, ln_23, ln_24, ln_25, ln_27, ln_28, ln_29, ln_31, ln_32, ln_33, ln_35, ln_36, ln_37, p_in, hr, decide_false]
      first | exact Kp.rf M1 | exact ⟨rfl, Kp.rf M1⟩
theorem pr_leastLeap (hI : Inv M) : lw_pair Inv M 80 137 [] := by
  obtain ⟨⟨B, L, n, g, hc⟩, ⟨h, H, hh⟩, ht, hw⟩ := id hI
  obtain ⟨hv, hn, hL, hx, hd⟩ := id hc
  have w1 := hv.1
  have w2 := hv.2.1
  have w3 := hv.2.2.1
  refine pair_q hI (if anF (fun t => decide (twN B n g t ≠ 0)) B 0 = true then -1004 else nI (mxF (flN (ftN B n g) B) B)) ?_ (fun M1 hk => ?_)
  · simp (disch := first | assumption | exact isSc1 | exact isSc3 | exact isSc5 | decide | omega) only [eX7_leastLeap, iX7_leastLeap_0, iX7_leastLeap_1, iX7_leastLeap_4, iX7_leastLeap_5, iX7_leastLeap_8]
    refine p_weigh hx hv (fun M' hS hW => ?_)
    have kp : Kp M M' := Kp.same hS (by decide)
    simp (disch := first | assumption | exact isSc1 | exact isSc3 | exact isSc5 | decide | omega) only [iX7_leastLeap_11, iX7_leastLeap_12, iX7_leastLeap_15, mm_rv_n, x_isAnyLegTold hW w2]
    cases ha : anF (fun t => decide (twN B n g t ≠ 0)) B 0
    · simp (disch := first | assumption | exact isSc1 | exact isSc3 | exact isSc5 | decide | omega) only [iX7_leastLeap_0, iX7_leastLeap_1, iX7_leastLeap_4, iX7_leastLeap_5, iX7_leastLeap_8, iX7_leastLeap_11, iX7_leastLeap_12, iX7_leastLeap_15, iX7_leastLeap_18, iX7_leastLeap_21, iX7_leastLeap_24, iX7_leastLeap_27, iX7_leastLeap_28, iX7_leastLeap_31, iX7_leastLeap_34, Nat.reduceAdd, Nat.reduceSub, Nat.reduceMul, Nat.reduceLeDiff, mm_rv_s, mm_rv_n, true_and, and_true, if_true, if_false, not_true_eq_false, not_false_eq_true, nI_add, nz_0, nz_lt0, nz_0le, nz_0lt, nz_le0, nz_lt, nz_le, nz_eq, nz_cl, nz_in, nz_sub, nz_m1, pk_mul, set_o, set_ne, up_ne, up_set, n1_1, true_or, or_true, n1_01, n0_01, bI_01, bI_01b, bI_0, isSc1, isSc3, isSc5, ln_2, ln_4, ln_6, ln_8, ln_10, ln_11, ln_12, ln_13, ln_14, ln_16, ln_17, ln_18, ln_19, ln_20, ln_21, ln_23, ln_24, ln_25, ln_27, ln_28, ln_29, ln_31, ln_32, ln_33, ln_35, ln_36, ln_37, bI_0, x_longestFlight hW w2, Bool.false_eq_true]
      first | exact kp | exact ⟨rfl, kp⟩
    · simp (disch := first | assumption | exact isSc1 | exact isSc3 | exact isSc5 | decide | omega) only [iX7_leastLeap_0, iX7_leastLeap_1, iX7_leastLeap_4, iX7_leastLeap_5, iX7_leastLeap_8, iX7_leastLeap_11, iX7_leastLeap_12, iX7_leastLeap_15, iX7_leastLeap_18, iX7_leastLeap_21, iX7_leastLeap_24, iX7_leastLeap_27, iX7_leastLeap_28, iX7_leastLeap_31, iX7_leastLeap_34, Nat.reduceAdd, Nat.reduceSub, Nat.reduceMul, Nat.reduceLeDiff, mm_rv_s, mm_rv_n, true_and, and_true, if_true, if_false, not_true_eq_false, not_false_eq_true, nI_add, nz_0, nz_lt0, nz_0le, nz_0lt, nz_le0, nz_lt, nz_le, nz_eq, nz_cl, nz_in, nz_sub, nz_m1, pk_mul, set_o, set_ne, up_ne, up_set, n1_1, true_or, or_true, n1_01, n0_01, bI_01, bI_01b, bI_0, isSc1, isSc3, isSc5, ln_2, ln_4, ln_6, ln_8, ln_10, ln_11, ln_12, ln_13, ln_14, ln_16, ln_17, ln_18, ln_19, ln_20, ln_21, ln_23, ln_24, ln_25, ln_27, ln_28, ln_29, ln_31, ln_32, ln_33, ln_35, ln_36, ln_37, bI_0, Bool.true_eq_false]
      first | exact kp | exact ⟨rfl, kp⟩
  · have hd1 := (hc.kp hk).2.2.2.2
    simp (disch := first | assumption | exact isSc1 | exact isSc3 | exact isSc5 | decide | omega) only [eX8_leastLeap, iX8_leastLeap_0, iX8_leastLeap_1]
    refine m_fills hd1 w3 hv.okG w2 (fun f hf => ?_)
    have hd2 : isD (mm_set M1 37 f 31) B L n g := by rw [set_ne _ _ (by decide)]; exact hd1
    have hf2 : isCov (mm_set M1 37 f 37) B n g := by rw [set_o]; exact hf
    have hk2 : Kp M1 (mm_set M1 37 f) := Kp.set f (by decide)
    generalize mm_set M1 37 f = M2 at hd2 hf2 hk2 ⊢
    have d0 := hd2.1
    simp (disch := first | assumption | exact isSc1 | exact isSc3 | exact isSc5 | decide | omega) only [iX8_leastLeap_4, iX8_leastLeap_5, mm_rv_n]
    have loop : ∀ d b : Nat, b + d = B → wp 137 6 [some (.inr 30), some (.inl (nI b))] [] M2 (fun r M3 => r = some (if anF (fun t => decide (twN B n g t ≠ 0)) d b = true then -1004 else nI (mxF (flN (ftN B n g) B) B)) ∧ Kp M1 M3) := by
      intro d
      induction d with
      | zero =>
        intro b hb
        have hb : b = B := by omega
        subst hb
        rw [iX8_leastLeap_6]
        simp (disch := first | assumption | exact isSc1 | exact isSc3 | exact isSc5 | decide | omega) only [iX8_leastLeap_7, iX8_leastLeap_8, iX8_leastLeap_11, iX8_leastLeap_12, iX8_leastLeap_13, iX8_leastLeap_34, iX8_leastLeap_35, iX8_leastLeap_36, Nat.reduceAdd, Nat.reduceSub, Nat.reduceMul, Nat.reduceLeDiff, mm_rv_s, mm_rv_n, true_and, and_true, if_true, if_false, not_true_eq_false, not_false_eq_true, nI_add, nz_0, nz_lt0, nz_0le, nz_0lt, nz_le0, nz_lt, nz_le, nz_eq, nz_cl, nz_in, nz_sub, nz_m1, pk_mul, set_o, set_ne, up_ne, up_set, n1_1, true_or, or_true, n1_01, n0_01, bI_01, bI_01b, bI_0, isSc1, isSc3, isSc5, ln_2, ln_4, ln_6, ln_8, ln_10, ln_11, ln_12, ln_13, ln_14, ln_16, ln_17, ln_18, ln_19, ln_20, ln_21, ln_23, ln_24, ln_25, ln_27, ln_28, ln_29, ln_31, ln_32, ln_33, ln_35, ln_36, ln_37, d0, Nat.le_refl, anF, Bool.false_eq_true]
        refine m_beats hd2 hv hL (by decide) (fun f => ?_)
        simp (disch := first | assumption | exact isSc1 | exact isSc3 | exact isSc5 | decide | omega) only [iX8_leastLeap_39, Nat.reduceAdd, Nat.reduceSub, Nat.reduceMul, Nat.reduceLeDiff, mm_rv_s, mm_rv_n, true_and, and_true, if_true, if_false, not_true_eq_false, not_false_eq_true, nI_add, nz_0, nz_lt0, nz_0le, nz_0lt, nz_le0, nz_lt, nz_le, nz_eq, nz_cl, nz_in, nz_sub, nz_m1, pk_mul, set_o, set_ne, up_ne, up_set, n1_1, true_or, or_true, n1_01, n0_01, bI_01, bI_01b, bI_0, isSc1, isSc3, isSc5, ln_2, ln_4, ln_6, ln_8, ln_10, ln_11, ln_12, ln_13, ln_14, ln_16, ln_17, ln_18, ln_19, ln_20, ln_21, ln_23, ln_24, ln_25, ln_27, ln_28, ln_29, ln_31, ln_32, ln_33, ln_35, ln_36, ln_37]
        exact ⟨rfl, hk2.tr (Kp.set f (by decide))⟩
      | succ d ih =>
        intro b hb
        have := ih (b + 1) (by omega)
        have b3 := twN_le B n g b
        rw [iX8_leastLeap_6]
        unfold anF
        simp (disch := first | assumption | exact isSc1 | exact isSc3 | exact isSc5 | decide | omega) only [iX8_leastLeap_7, iX8_leastLeap_8, iX8_leastLeap_11, iX8_leastLeap_12, iX8_leastLeap_13, iX8_leastLeap_16, iX8_leastLeap_17, iX8_leastLeap_18, Nat.reduceAdd, Nat.reduceSub, Nat.reduceMul, Nat.reduceLeDiff, mm_rv_s, mm_rv_n, true_and, and_true, if_true, if_false, not_true_eq_false, not_false_eq_true, nI_add, nz_0, nz_lt0, nz_0le, nz_0lt, nz_le0, nz_lt, nz_le, nz_eq, nz_cl, nz_in, nz_sub, nz_m1, pk_mul, set_o, set_ne, up_ne, up_set, n1_1, true_or, or_true, n1_01, n0_01, bI_01, bI_01b, bI_0, isSc1, isSc3, isSc5, ln_2, ln_4, ln_6, ln_8, ln_10, ln_11, ln_12, ln_13, ln_14, ln_16, ln_17, ln_18, ln_19, ln_20, ln_21, ln_23, ln_24, ln_25, ln_27, ln_28, ln_29, ln_31, ln_32, ln_33, ln_35, ln_36, ln_37, d0, show ¬ B ≤ b by omega, m_twice hd2 hv hf2 (show b < B by omega), ne_eq]
        by_cases k : twN B n g b = 0
        · simp (disch := first | assumption | exact isSc1 | exact isSc3 | exact isSc5 | decide | omega) only [iX8_leastLeap_21, iX8_leastLeap_28, iX8_leastLeap_31, Nat.reduceAdd, Nat.reduceSub, Nat.reduceMul, Nat.reduceLeDiff, mm_rv_s, mm_rv_n, true_and, and_true, if_true, if_false, not_true_eq_false, not_false_eq_true, nI_add, nz_0, nz_lt0, nz_0le, nz_0lt, nz_le0, nz_lt, nz_le, nz_eq, nz_cl, nz_in, nz_sub, nz_m1, pk_mul, set_o, set_ne, up_ne, up_set, n1_1, true_or, or_true, n1_01, n0_01, bI_01, bI_01b, bI_0, isSc1, isSc3, isSc5, ln_2, ln_4, ln_6, ln_8, ln_10, ln_11, ln_12, ln_13, ln_14, ln_16, ln_17, ln_18, ln_19, ln_20, ln_21, ln_23, ln_24, ln_25, ln_27, ln_28, ln_29, ln_31, ln_32, ln_33, ln_35, ln_36, ln_37, k, decide_false, Bool.false_eq_true]
          exact this
        · simp (disch := first | assumption | exact isSc1 | exact isSc3 | exact isSc5 | decide | omega) only [iX8_leastLeap_21, iX8_leastLeap_24, iX8_leastLeap_27, Nat.reduceAdd, Nat.reduceSub, Nat.reduceMul, Nat.reduceLeDiff, mm_rv_s, mm_rv_n, true_and, and_true, if_true, if_false, not_true_eq_false, not_false_eq_true, nI_add, nz_0, nz_lt0, nz_0le, nz_0lt, nz_le0, nz_lt, nz_le, nz_eq, nz_cl, nz_in, nz_sub, nz_m1, pk_mul, set_o, set_ne, up_ne, up_set, n1_1, true_or, or_true, n1_01, n0_01, bI_01, bI_01b, bI_0, isSc1, isSc3, isSc5, ln_2, ln_4, ln_6, ln_8, ln_10, ln_11, ln_12, ln_13, ln_14, ln_16, ln_17, ln_18, ln_19, ln_20, ln_21, ln_23, ln_24, ln_25, ln_27, ln_28, ln_29, ln_31, ln_32, ln_33, ln_35, ln_36, ln_37, k, decide_true]
          first | exact hk2 | exact ⟨rfl, hk2⟩
    exact loop B 0 (by omega)
def cdO (g : Nat → Sg) (v : Int32) (x : Option Nat) : Bool := match x with
  | some i => decide (v = -1 ∨ nI (sK (g i)) = v)
  | none => false
theorem pr_covered (hI : Inv M) (a1 a2 : Int32) : lw_pair Inv M 81 138 [.inl a1, .inl a2] := by
  obtain ⟨⟨B, L, n, g, hc⟩, ⟨h, H, hh⟩, ht, hw⟩ := id hI
  obtain ⟨hv, hn, hL, hx, hd⟩ := id hc
  have w1 := hv.1
  have w2 := hv.2.1
  have w3 := hv.2.2.1
  have x0 := hx.1
  by_cases hr1 : nI 0 ≤ a1 ∧ a1 ≤ nI 6
  · by_cases hr2 : (-1 : Int32) ≤ a2 ∧ a2 ≤ nI 3
    · obtain ⟨c, rfl, -, hc6⟩ := in_nat hr1.1 hr1.2 (by decide) (by decide)
      refine pair_q hI (nI (cntF (fun t => cdO g a2 (cv B n g c t)) B)) ?_ (fun M1 hk => ?_)
      · simp (disch := first | assumption | exact isSc1 | exact isSc3 | exact isSc5 | decide | omega) only [eX7_covered, iX7_covered_0, iX7_covered_1, iX7_covered_4, iX7_covered_7, iX7_covered_8, iX7_covered_9, iX7_covered_10, iX7_covered_13, iX7_covered_16, iX7_covered_19, iX7_covered_20, iX7_covered_21, iX7_covered_24, iX7_covered_25, iX7_covered_26, iX7_covered_29, Nat.reduceAdd, Nat.reduceSub, Nat.reduceMul, Nat.reduceLeDiff, mm_rv_s, mm_rv_n, true_and, and_true, if_true, if_false, not_true_eq_false, not_false_eq_true, nI_add, nz_0, nz_lt0, nz_0le, nz_0lt, nz_le0, nz_lt, nz_le, nz_eq, nz_cl, nz_in, nz_sub, nz_m1, pk_mul, set_o, set_ne, up_ne, up_set, n1_1, true_or, or_true, n1_01, n0_01, bI_01, bI_01b, bI_0, isSc1, isSc3, isSc5, ln_2, ln_4, ln_6, ln_8, ln_10, ln_11, ln_12, ln_13, ln_14, ln_16, ln_17, ln_18, ln_19, ln_20, ln_21, ln_23, ln_24, ln_25, ln_27, ln_28, ln_29, ln_31, ln_32, ln_33, ln_35, ln_36, ln_37, p_isColumn, p_isWithin, hr2, hc6, Nat.zero_le, and_self, decide_true, Bool.true_eq_false]
        refine p_fillRow (r := 29) isSc1 hx hv hc6 ln_29 (by decide) (by decide) (by decide) (fun f hf => ?_)
        have kp : Kp M (mm_set M 29 f) := Kp.set f (by decide)
        have e0 : mm_set M 29 f 1 0 = nI B := by rw [set_ne _ _ (by decide), x0]
        have e29 : mm_set M 29 f 29 = f := set_o _ _ _
        generalize mm_set M 29 f = M2 at kp e0 e29 ⊢
        simp (disch := first | assumption | exact isSc1 | exact isSc3 | exact isSc5 | decide | omega) only [iX7_covered_32, iX7_covered_33, iX7_covered_34, iX7_covered_35, mm_rv_n]
        have loop : ∀ d b : Nat, b + d = B → ∀ l5, wp 81 37 [some (.inr 0), some (.inl (nI c)), some (.inl a2), some (.inl (nI (cntF (fun t => cdO g a2 (cv B n g c t)) b))), some (.inl (nI b)), l5] [] M2 (fun r M3 => r = some (nI (cntF (fun t => cdO g a2 (cv B n g c t)) B)) ∧ Kp M M3) := by
          intro d
          induction d with
          | zero =>
            intro b hb l5
            have hb : b = B := by omega
            subst hb
            rw [iX7_covered_37]
            simp (disch := first | assumption | exact isSc1 | exact isSc3 | exact isSc5 | decide | omega) only [iX7_covered_39, iX7_covered_40, iX7_covered_43, iX7_covered_46, iX7_covered_87, iX7_covered_88, Nat.reduceAdd, Nat.reduceSub, Nat.reduceMul, Nat.reduceLeDiff, mm_rv_s, mm_rv_n, true_and, and_true, if_true, if_false, not_true_eq_false, not_false_eq_true, nI_add, nz_0, nz_lt0, nz_0le, nz_0lt, nz_le0, nz_lt, nz_le, nz_eq, nz_cl, nz_in, nz_sub, nz_m1, pk_mul, set_o, set_ne, up_ne, up_set, n1_1, true_or, or_true, n1_01, n0_01, bI_01, bI_01b, bI_0, isSc1, isSc3, isSc5, ln_2, ln_4, ln_6, ln_8, ln_10, ln_11, ln_12, ln_13, ln_14, ln_16, ln_17, ln_18, ln_19, ln_20, ln_21, ln_23, ln_24, ln_25, ln_27, ln_28, ln_29, ln_31, ln_32, ln_33, ln_35, ln_36, ln_37, e0, Nat.le_refl]
            first | exact kp | exact ⟨rfl, kp⟩
          | succ d ih =>
            intro b hb l5
            have := ih (b + 1) (by omega)
            have e := hf b (by omega)
            rw [cntF_s] at this
            rw [iX7_covered_37]
            simp (disch := first | assumption | exact isSc1 | exact isSc3 | exact isSc5 | decide | omega) only [iX7_covered_39, iX7_covered_40, iX7_covered_43, iX7_covered_46, iX7_covered_49, iX7_covered_50, iX7_covered_53, iX7_covered_55, iX7_covered_56, iX7_covered_58, Nat.reduceAdd, Nat.reduceSub, Nat.reduceMul, Nat.reduceLeDiff, mm_rv_s, mm_rv_n, true_and, and_true, if_true, if_false, not_true_eq_false, not_false_eq_true, nI_add, nz_0, nz_lt0, nz_0le, nz_0lt, nz_le0, nz_lt, nz_le, nz_eq, nz_cl, nz_in, nz_sub, nz_m1, pk_mul, set_o, set_ne, up_ne, up_set, n1_1, true_or, or_true, n1_01, n0_01, bI_01, bI_01b, bI_0, isSc1, isSc3, isSc5, ln_2, ln_4, ln_6, ln_8, ln_10, ln_11, ln_12, ln_13, ln_14, ln_16, ln_17, ln_18, ln_19, ln_20, ln_21, ln_23, ln_24, ln_25, ln_27, ln_28, ln_29, ln_31, ln_32, ln_33, ln_35, ln_36, ln_37, e0, show ¬ B ≤ b by omega, e29, e]
            cases hcv : cv B n g c b with
            | none =>
              have := this (some (.inl (-1)))
              rw [hcv] at this
              simp (disch := first | assumption | exact isSc1 | exact isSc3 | exact isSc5 | decide | omega) only [oP, cdO, iX7_covered_60, iX7_covered_61, iX7_covered_64, iX7_covered_65, iX7_covered_66, iX7_covered_69, iX7_covered_71, iX7_covered_74, iX7_covered_75, iX7_covered_78, iX7_covered_81, iX7_covered_84, Nat.reduceAdd, Nat.reduceSub, Nat.reduceMul, Nat.reduceLeDiff, mm_rv_s, mm_rv_n, true_and, and_true, if_true, if_false, not_true_eq_false, not_false_eq_true, nI_add, nz_0, nz_lt0, nz_0le, nz_0lt, nz_le0, nz_lt, nz_le, nz_eq, nz_cl, nz_in, nz_sub, nz_m1, pk_mul, set_o, set_ne, up_ne, up_set, n1_1, true_or, or_true, n1_01, n0_01, bI_01, bI_01b, bI_0, isSc1, isSc3, isSc5, ln_2, ln_4, ln_6, ln_8, ln_10, ln_11, ln_12, ln_13, ln_14, ln_16, ln_17, ln_18, ln_19, ln_20, ln_21, ln_23, ln_24, ln_25, ln_27, ln_28, ln_29, ln_31, ln_32, ln_33, ln_35, ln_36, ln_37, Bool.false_eq_true, Nat.add_zero] at this ⊢
              exact this
            | some i =>
              have := this (some (.inl (nI (pk (g i)))))
              rw [hcv] at this
              obtain ⟨o1, o2⟩ := cv_ok hv hcv
              have hl := (sgp_f o1 o2).2.2.2.2.2.2.2
              simp (disch := first | assumption | exact isSc1 | exact isSc3 | exact isSc5 | decide | omega) only [oP, cdO, iX7_covered_60, iX7_covered_61, iX7_covered_64, iX7_covered_65, iX7_covered_66, Nat.reduceAdd, Nat.reduceSub, Nat.reduceMul, Nat.reduceLeDiff, mm_rv_s, mm_rv_n, true_and, and_true, if_true, if_false, not_true_eq_false, not_false_eq_true, nI_add, nz_0, nz_lt0, nz_0le, nz_0lt, nz_le0, nz_lt, nz_le, nz_eq, nz_cl, nz_in, nz_sub, nz_m1, pk_mul, set_o, set_ne, up_ne, up_set, n1_1, true_or, or_true, n1_01, n0_01, bI_01, bI_01b, bI_0, isSc1, isSc3, isSc5, ln_2, ln_4, ln_6, ln_8, ln_10, ln_11, ln_12, ln_13, ln_14, ln_16, ln_17, ln_18, ln_19, ln_20, ln_21, ln_23, ln_24, ln_25, ln_27, ln_28, ln_29, ln_31, ln_32, ln_33, ln_35, ln_36, ln_37, nz_ne1] at this ⊢
              by_cases k1 : a2 = -1
              · simp (disch := first | assumption | exact isSc1 | exact isSc3 | exact isSc5 | decide | omega) only [k1, iX7_covered_78, iX7_covered_81, iX7_covered_84, Nat.reduceAdd, Nat.reduceSub, Nat.reduceMul, Nat.reduceLeDiff, mm_rv_s, mm_rv_n, true_and, and_true, if_true, if_false, not_true_eq_false, not_false_eq_true, nI_add, nz_0, nz_lt0, nz_0le, nz_0lt, nz_le0, nz_lt, nz_le, nz_eq, nz_cl, nz_in, nz_sub, nz_m1, pk_mul, set_o, set_ne, up_ne, up_set, n1_1, true_or, or_true, n1_01, n0_01, bI_01, bI_01b, bI_0, isSc1, isSc3, isSc5, ln_2, ln_4, ln_6, ln_8, ln_10, ln_11, ln_12, ln_13, ln_14, ln_16, ln_17, ln_18, ln_19, ln_20, ln_21, ln_23, ln_24, ln_25, ln_27, ln_28, ln_29, ln_31, ln_32, ln_33, ln_35, ln_36, ln_37, decide_true] at this ⊢
                exact this
              · simp (disch := first | assumption | exact isSc1 | exact isSc3 | exact isSc5 | decide | omega) only [k1, iX7_covered_69, iX7_covered_71, iX7_covered_74, iX7_covered_75, Nat.reduceAdd, Nat.reduceSub, Nat.reduceMul, Nat.reduceLeDiff, mm_rv_s, mm_rv_n, true_and, and_true, if_true, if_false, not_true_eq_false, not_false_eq_true, nI_add, nz_0, nz_lt0, nz_0le, nz_0lt, nz_le0, nz_lt, nz_le, nz_eq, nz_cl, nz_in, nz_sub, nz_m1, pk_mul, set_o, set_ne, up_ne, up_set, n1_1, true_or, or_true, n1_01, n0_01, bI_01, bI_01b, bI_0, isSc1, isSc3, isSc5, ln_2, ln_4, ln_6, ln_8, ln_10, ln_11, ln_12, ln_13, ln_14, ln_16, ln_17, ln_18, ln_19, ln_20, ln_21, ln_23, ln_24, ln_25, ln_27, ln_28, ln_29, ln_31, ln_32, ln_33, ln_35, ln_36, ln_37, g_kindOf o1 o2, false_or] at this ⊢
                by_cases k2 : nI (sK (g i)) = a2
                · simp only [k2, decide_true, if_true, if_false, not_true_eq_false] at this ⊢
                  simp (disch := first | assumption | exact isSc1 | exact isSc3 | exact isSc5 | decide | omega) only [iX7_covered_78, iX7_covered_81, iX7_covered_84, nI_add]
                  exact this
                · simp only [k2, decide_false, if_true, if_false, not_false_eq_true, Bool.false_eq_true, Nat.add_zero] at this ⊢
                  simp (disch := first | assumption | exact isSc1 | exact isSc3 | exact isSc5 | decide | omega) only [iX7_covered_81, iX7_covered_84, nI_add]
                  exact this
        exact loop B 0 (by omega) none
      · have hd1 := (hc.kp hk).2.2.2.2
        simp (disch := first | assumption | exact isSc1 | exact isSc3 | exact isSc5 | decide | omega) only [eX8_covered, iX8_covered_0, iX8_covered_1, iX8_covered_4, iX8_covered_7, iX8_covered_8, iX8_covered_9, iX8_covered_10, iX8_covered_13, iX8_covered_16, iX8_covered_19, iX8_covered_20, iX8_covered_21, Nat.reduceAdd, Nat.reduceSub, Nat.reduceMul, Nat.reduceLeDiff, mm_rv_s, mm_rv_n, true_and, and_true, if_true, if_false, not_true_eq_false, not_false_eq_true, nI_add, nz_0, nz_lt0, nz_0le, nz_0lt, nz_le0, nz_lt, nz_le, nz_eq, nz_cl, nz_in, nz_sub, nz_m1, pk_mul, set_o, set_ne, up_ne, up_set, n1_1, true_or, or_true, n1_01, n0_01, bI_01, bI_01b, bI_0, isSc1, isSc3, isSc5, ln_2, ln_4, ln_6, ln_8, ln_10, ln_11, ln_12, ln_13, ln_14, ln_16, ln_17, ln_18, ln_19, ln_20, ln_21, ln_23, ln_24, ln_25, ln_27, ln_28, ln_29, ln_31, ln_32, ln_33, ln_35, ln_36, ln_37, p_isColumnM, p_in, hr2, hc6, Nat.zero_le, and_self, decide_true, Bool.true_eq_false]
        refine m_fills hd1 w3 hv.okG w2 (fun f hf => ?_)
        have hd2 : isD (mm_set M1 37 f 31) B L n g := by rw [set_ne _ _ (by decide)]; exact hd1
        have hf2 : isCov (mm_set M1 37 f 37) B n g := by rw [set_o]; exact hf
        have hk2 : Kp M1 (mm_set M1 37 f) := Kp.set f (by decide)
        generalize mm_set M1 37 f = M2 at hd2 hf2 hk2 ⊢
        have d0 := hd2.1
        simp (disch := first | assumption | exact isSc1 | exact isSc3 | exact isSc5 | decide | omega) only [iX8_covered_24, iX8_covered_25, iX8_covered_26, iX8_covered_27, mm_rv_n]
        have loop : ∀ d b : Nat, b + d = B → ∀ l5, wp 138 29 [some (.inr 30), some (.inl (nI c)), some (.inl a2), some (.inl (nI (cntF (fun t => cdO g a2 (cv B n g c t)) b))), some (.inl (nI b)), l5] [] M2 (fun r M3 => r = some (nI (cntF (fun t => cdO g a2 (cv B n g c t)) B)) ∧ Kp M1 M3) := by
          intro d
          induction d with
          | zero =>
            intro b hb l5
            have hb : b = B := by omega
            subst hb
            rw [iX8_covered_29]
            simp (disch := first | assumption | exact isSc1 | exact isSc3 | exact isSc5 | decide | omega) only [iX8_covered_31, iX8_covered_32, iX8_covered_35, iX8_covered_36, iX8_covered_37, iX8_covered_88, iX8_covered_89, Nat.reduceAdd, Nat.reduceSub, Nat.reduceMul, Nat.reduceLeDiff, mm_rv_s, mm_rv_n, true_and, and_true, if_true, if_false, not_true_eq_false, not_false_eq_true, nI_add, nz_0, nz_lt0, nz_0le, nz_0lt, nz_le0, nz_lt, nz_le, nz_eq, nz_cl, nz_in, nz_sub, nz_m1, pk_mul, set_o, set_ne, up_ne, up_set, n1_1, true_or, or_true, n1_01, n0_01, bI_01, bI_01b, bI_0, isSc1, isSc3, isSc5, ln_2, ln_4, ln_6, ln_8, ln_10, ln_11, ln_12, ln_13, ln_14, ln_16, ln_17, ln_18, ln_19, ln_20, ln_21, ln_23, ln_24, ln_25, ln_27, ln_28, ln_29, ln_31, ln_32, ln_33, ln_35, ln_36, ln_37, d0, Nat.le_refl]
            first | exact hk2 | exact ⟨rfl, hk2⟩
          | succ d ih =>
            intro b hb l5
            have := ih (b + 1) (by omega)
            rw [cntF_s] at this
            rw [iX8_covered_29]
            simp (disch := first | assumption | exact isSc1 | exact isSc3 | exact isSc5 | decide | omega) only [iX8_covered_31, iX8_covered_32, iX8_covered_35, iX8_covered_36, iX8_covered_37, iX8_covered_40, iX8_covered_41, iX8_covered_42, iX8_covered_44, iX8_covered_47, iX8_covered_49, iX8_covered_50, Nat.reduceAdd, Nat.reduceSub, Nat.reduceMul, Nat.reduceLeDiff, mm_rv_s, mm_rv_n, true_and, and_true, if_true, if_false, not_true_eq_false, not_false_eq_true, nI_add, nz_0, nz_lt0, nz_0le, nz_0lt, nz_le0, nz_lt, nz_le, nz_eq, nz_cl, nz_in, nz_sub, nz_m1, pk_mul, set_o, set_ne, up_ne, up_set, n1_1, true_or, or_true, n1_01, n0_01, bI_01, bI_01b, bI_0, isSc1, isSc3, isSc5, ln_2, ln_4, ln_6, ln_8, ln_10, ln_11, ln_12, ln_13, ln_14, ln_16, ln_17, ln_18, ln_19, ln_20, ln_21, ln_23, ln_24, ln_25, ln_27, ln_28, ln_29, ln_31, ln_32, ln_33, ln_35, ln_36, ln_37, d0, show ¬ B ≤ b by omega, m_covering rfl hf2 hc6 (show b < B by omega) w2]
            cases hcv : cv B n g c b with
            | none =>
              have lt : (-1 : Int32) < 0 := by decide
              have := this (some (.inl (-1)))
              rw [hcv] at this
              simp (disch := first | assumption | exact isSc1 | exact isSc3 | exact isSc5 | decide | omega) only [oI, cdO, lt, iX8_covered_52, iX8_covered_79, iX8_covered_80, iX8_covered_81, iX8_covered_82, iX8_covered_85, Nat.reduceAdd, Nat.reduceSub, Nat.reduceMul, Nat.reduceLeDiff, mm_rv_s, mm_rv_n, true_and, and_true, if_true, if_false, not_true_eq_false, not_false_eq_true, nI_add, nz_0, nz_lt0, nz_0le, nz_0lt, nz_le0, nz_lt, nz_le, nz_eq, nz_cl, nz_in, nz_sub, nz_m1, pk_mul, set_o, set_ne, up_ne, up_set, n1_1, true_or, or_true, n1_01, n0_01, bI_01, bI_01b, bI_0, isSc1, isSc3, isSc5, ln_2, ln_4, ln_6, ln_8, ln_10, ln_11, ln_12, ln_13, ln_14, ln_16, ln_17, ln_18, ln_19, ln_20, ln_21, ln_23, ln_24, ln_25, ln_27, ln_28, ln_29, ln_31, ln_32, ln_33, ln_35, ln_36, ln_37, Bool.false_eq_true, Nat.add_zero] at this ⊢
              exact this
            | some i =>
              have := this (some (.inl (nI i)))
              rw [hcv] at this
              have hi := cv_lt hcv
              obtain ⟨f1, f2, f3, f4, f5, f6⟩ := hd2.2.2.2 i hi
              simp (disch := first | assumption | exact isSc1 | exact isSc3 | exact isSc5 | decide | omega) only [oI, cdO, iX8_covered_52, iX8_covered_55, iX8_covered_56, iX8_covered_57, Nat.reduceAdd, Nat.reduceSub, Nat.reduceMul, Nat.reduceLeDiff, mm_rv_s, mm_rv_n, true_and, and_true, if_true, if_false, not_true_eq_false, not_false_eq_true, nI_add, nz_0, nz_lt0, nz_0le, nz_0lt, nz_le0, nz_lt, nz_le, nz_eq, nz_cl, nz_in, nz_sub, nz_m1, pk_mul, set_o, set_ne, up_ne, up_set, n1_1, true_or, or_true, n1_01, n0_01, bI_01, bI_01b, bI_0, isSc1, isSc3, isSc5, ln_2, ln_4, ln_6, ln_8, ln_10, ln_11, ln_12, ln_13, ln_14, ln_16, ln_17, ln_18, ln_19, ln_20, ln_21, ln_23, ln_24, ln_25, ln_27, ln_28, ln_29, ln_31, ln_32, ln_33, ln_35, ln_36, ln_37] at this ⊢
              by_cases k1 : a2 = -1
              · simp (disch := first | assumption | exact isSc1 | exact isSc3 | exact isSc5 | decide | omega) only [k1, iX8_covered_75, iX8_covered_76, iX8_covered_79, iX8_covered_80, iX8_covered_81, iX8_covered_82, iX8_covered_85, Nat.reduceAdd, Nat.reduceSub, Nat.reduceMul, Nat.reduceLeDiff, mm_rv_s, mm_rv_n, true_and, and_true, if_true, if_false, not_true_eq_false, not_false_eq_true, nI_add, nz_0, nz_lt0, nz_0le, nz_0lt, nz_le0, nz_lt, nz_le, nz_eq, nz_cl, nz_in, nz_sub, nz_m1, pk_mul, set_o, set_ne, up_ne, up_set, n1_1, true_or, or_true, n1_01, n0_01, bI_01, bI_01b, bI_0, isSc1, isSc3, isSc5, ln_2, ln_4, ln_6, ln_8, ln_10, ln_11, ln_12, ln_13, ln_14, ln_16, ln_17, ln_18, ln_19, ln_20, ln_21, ln_23, ln_24, ln_25, ln_27, ln_28, ln_29, ln_31, ln_32, ln_33, ln_35, ln_36, ln_37, decide_true] at this ⊢
                exact this
              · simp (disch := first | assumption | exact isSc1 | exact isSc3 | exact isSc5 | decide | omega) only [k1, iX8_covered_60, iX8_covered_61, iX8_covered_64, iX8_covered_67, iX8_covered_69, iX8_covered_70, iX8_covered_71, iX8_covered_72, Nat.reduceAdd, Nat.reduceSub, Nat.reduceMul, Nat.reduceLeDiff, mm_rv_s, mm_rv_n, true_and, and_true, if_true, if_false, not_true_eq_false, not_false_eq_true, nI_add, nz_0, nz_lt0, nz_0le, nz_0lt, nz_le0, nz_lt, nz_le, nz_eq, nz_cl, nz_in, nz_sub, nz_m1, pk_mul, set_o, set_ne, up_ne, up_set, n1_1, true_or, or_true, n1_01, n0_01, bI_01, bI_01b, bI_0, isSc1, isSc3, isSc5, ln_2, ln_4, ln_6, ln_8, ln_10, ln_11, ln_12, ln_13, ln_14, ln_16, ln_17, ln_18, ln_19, ln_20, ln_21, ln_23, ln_24, ln_25, ln_27, ln_28, ln_29, ln_31, ln_32, ln_33, ln_35, ln_36, ln_37, f3, false_or] at this ⊢
                by_cases k2 : nI (sK (g i)) = a2
                · simp only [k2, decide_true, if_true, if_false, not_true_eq_false] at this ⊢
                  simp (disch := first | assumption | exact isSc1 | exact isSc3 | exact isSc5 | decide | omega) only [iX8_covered_75, iX8_covered_76, iX8_covered_79, iX8_covered_80, iX8_covered_81, iX8_covered_82, iX8_covered_85, nI_add]
                  exact this
                · simp only [k2, decide_false, if_true, if_false, not_false_eq_true, Bool.false_eq_true, Nat.add_zero] at this ⊢
                  simp (disch := first | assumption | exact isSc1 | exact isSc3 | exact isSc5 | decide | omega) only [iX8_covered_79, iX8_covered_80, iX8_covered_81, iX8_covered_82, iX8_covered_85, nI_add, Nat.add_zero]
                  exact this
        exact loop B 0 (by omega) none
    · refine pair_q hI (-1001) ?_ (fun M1 hk => ?_)
      · simp (disch := first | assumption | exact isSc1 | exact isSc3 | exact isSc5 | decide | omega) only [eX7_covered, iX7_covered_0, iX7_covered_1, iX7_covered_4, iX7_covered_7, iX7_covered_8, iX7_covered_9, iX7_covered_10, iX7_covered_13, iX7_covered_16, iX7_covered_19, Nat.reduceAdd, Nat.reduceSub, Nat.reduceMul, Nat.reduceLeDiff, mm_rv_s, mm_rv_n, true_and, and_true, if_true, if_false, not_true_eq_false, not_false_eq_true, nI_add, nz_0, nz_lt0, nz_0le, nz_0lt, nz_le0, nz_lt, nz_le, nz_eq, nz_cl, nz_in, nz_sub, nz_m1, pk_mul, set_o, set_ne, up_ne, up_set, n1_1, true_or, or_true, n1_01, n0_01, bI_01, bI_01b, bI_0, isSc1, isSc3, isSc5, ln_2, ln_4, ln_6, ln_8, ln_10, ln_11, ln_12, ln_13, ln_14, ln_16, ln_17, ln_18, ln_19, ln_20, ln_21, ln_23, ln_24, ln_25, ln_27, ln_28, ln_29, ln_31, ln_32, ln_33, ln_35, ln_36, ln_37, p_isColumn, p_isWithin, hr1, hr2, and_self, decide_true, decide_false, Bool.true_eq_false]
        first | exact Kp.rf M | exact ⟨rfl, Kp.rf M⟩
      · simp (disch := first | assumption | exact isSc1 | exact isSc3 | exact isSc5 | decide | omega) only [eX8_covered, iX8_covered_0, iX8_covered_1, iX8_covered_4, iX8_covered_7, iX8_covered_8, iX8_covered_9, iX8_covered_10, iX8_covered_13, iX8_covered_16, iX8_covered_19, Nat.reduceAdd, Nat.reduceSub, Nat.reduceMul, Nat.reduceLeDiff, mm_rv_s, mm_rv_n, true_and, and_true, if_true, if_false, not_true_eq_false, not_false_eq_true, nI_add, nz_0, nz_lt0, nz_0le, nz_0lt, nz_le0, nz_lt, nz_le, nz_eq, nz_cl, nz_in, nz_sub, nz_m1, pk_mul, set_o, set_ne, up_ne, up_set, n1_1, true_or, or_true, n1_01, n0_01, bI_01, bI_01b, bI_0, isSc1, isSc3, isSc5, ln_2, ln_4, ln_6, ln_8, ln_10, ln_11, ln_12, ln_13, ln_14, ln_16, ln_17, ln_18, ln_19, ln_20, ln_21, ln_23, ln_24, ln_25, ln_27, ln_28, ln_29, ln_31, ln_32, ln_33, ln_35, ln_36, ln_37, p_isColumnM, p_in, hr1, hr2, and_self, decide_true, decide_false, Bool.true_eq_false]
        first | exact Kp.rf M1 | exact ⟨rfl, Kp.rf M1⟩
  · refine pair_q hI (-1001) ?_ (fun M1 hk => ?_)
    · simp (disch := first | assumption | exact isSc1 | exact isSc3 | exact isSc5 | decide | omega) only [eX7_covered, iX7_covered_0, iX7_covered_1, iX7_covered_4, iX7_covered_7, iX7_covered_8, iX7_covered_9, iX7_covered_10, iX7_covered_13, iX7_covered_16, iX7_covered_19, Nat.reduceAdd, Nat.reduceSub, Nat.reduceMul, Nat.reduceLeDiff, mm_rv_s, mm_rv_n, true_and, and_true, if_true, if_false, not_true_eq_false, not_false_eq_true, nI_add, nz_0, nz_lt0, nz_0le, nz_0lt, nz_le0, nz_lt, nz_le, nz_eq, nz_cl, nz_in, nz_sub, nz_m1, pk_mul, set_o, set_ne, up_ne, up_set, n1_1, true_or, or_true, n1_01, n0_01, bI_01, bI_01b, bI_0, isSc1, isSc3, isSc5, ln_2, ln_4, ln_6, ln_8, ln_10, ln_11, ln_12, ln_13, ln_14, ln_16, ln_17, ln_18, ln_19, ln_20, ln_21, ln_23, ln_24, ln_25, ln_27, ln_28, ln_29, ln_31, ln_32, ln_33, ln_35, ln_36, ln_37, p_isColumn, hr1, decide_false]
      first | exact Kp.rf M | exact ⟨rfl, Kp.rf M⟩
    · simp (disch := first | assumption | exact isSc1 | exact isSc3 | exact isSc5 | decide | omega) only [eX8_covered, iX8_covered_0, iX8_covered_1, iX8_covered_4, iX8_covered_7, iX8_covered_8, iX8_covered_9, iX8_covered_10, iX8_covered_13, iX8_covered_16, iX8_covered_19, Nat.reduceAdd, Nat.reduceSub, Nat.reduceMul, Nat.reduceLeDiff, mm_rv_s, mm_rv_n, true_and, and_true, if_true, if_false, not_true_eq_false, not_false_eq_true, nI_add, nz_0, nz_lt0, nz_0le, nz_0lt, nz_le0, nz_lt, nz_le, nz_eq, nz_cl, nz_in, nz_sub, nz_m1, pk_mul, set_o, set_ne, up_ne, up_set, n1_1, true_or, or_true, n1_01, n0_01, bI_01, bI_01b, bI_0, isSc1, isSc3, isSc5, ln_2, ln_4, ln_6, ln_8, ln_10, ln_11, ln_12, ln_13, ln_14, ln_16, ln_17, ln_18, ln_19, ln_20, ln_21, ln_23, ln_24, ln_25, ln_27, ln_28, ln_29, ln_31, ln_32, ln_33, ln_35, ln_36, ln_37, p_isColumnM, hr1, decide_false]
      first | exact Kp.rf M1 | exact ⟨rfl, Kp.rf M1⟩
end BT2
