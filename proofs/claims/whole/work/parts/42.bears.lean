/-! PAIRS: bears, toldTwice, isFaulty, nextFault -/
section PW
variable {M : mm_M} {Q : mm_Q}
theorem pr_bears (hI : Inv M) (a1 : Int32) : lw_pair Inv M 75 132 [.inl a1] := by
  obtain ⟨⟨B, L, n, g, hc⟩, ⟨h, H, hh⟩, ht, hw⟩ := id hI
  obtain ⟨hv, hn, hL, hx, hd⟩ := id hc
  have w1 := hv.1
  have w2 := hv.2.1
  have w3 := hv.2.2.1
  have x0 := hx.1
  by_cases hr : nI 0 ≤ a1 ∧ a1 ≤ nI B - nI 1
  · obtain ⟨t, rfl, htB⟩ := in_upto (by omega) hr
    refine pair_q hI (nI (ftN B n g t)) ?_ (fun M1 hk => ?_)
    · simp (disch := first | assumption | exact isSc1 | exact isSc3 | exact isSc5 | decide | omega) only [eX7_bears, iX7_bears_0, iX7_bears_1, iX7_bears_2, p_isBeat, x0, mm_rv_s]
      simp (disch := first | assumption | exact isSc1 | exact isSc3 | exact isSc5 | decide | omega) only [iX7_bears_5, iX7_bears_8, iX7_bears_11, iX7_bears_12, iX7_bears_13, iX7_bears_16, iX7_bears_17, iX7_bears_20, Nat.reduceAdd, Nat.reduceSub, Nat.reduceMul, Nat.reduceLeDiff, mm_rv_s, mm_rv_n, true_and, and_true, if_true, if_false, not_true_eq_false, not_false_eq_true, nI_add, nz_0, nz_lt0, nz_0le, nz_0lt, nz_le0, nz_lt, nz_le, nz_eq, nz_cl, nz_in, nz_sub, nz_m1, pk_mul, set_o, set_ne, up_ne, up_set, n1_1, true_or, or_true, n1_01, n0_01, bI_01, bI_01b, bI_0, isSc1, isSc3, isSc5, ln_2, ln_4, ln_6, ln_8, ln_10, ln_11, ln_12, ln_13, ln_14, ln_16, ln_17, ln_18, ln_19, ln_20, ln_21, ln_23, ln_24, ln_25, ln_27, ln_28, ln_29, ln_31, ln_32, ln_33, ln_35, ln_36, ln_37, hr, and_self, decide_true, Bool.true_eq_false, show t ≤ B - 1 by omega, Nat.zero_le]
      refine p_weigh hx hv (fun M' hS hW => ?_)
      have e := hW.2.2.1 t htB
      simp (disch := first | assumption | exact isSc1 | exact isSc3 | exact isSc5 | decide | omega) only [iX7_bears_23, iX7_bears_24, iX7_bears_27, iX7_bears_30, iX7_bears_31, iX7_bears_32, Nat.reduceAdd, Nat.reduceSub, Nat.reduceMul, Nat.reduceLeDiff, mm_rv_s, mm_rv_n, true_and, and_true, if_true, if_false, not_true_eq_false, not_false_eq_true, nI_add, nz_0, nz_lt0, nz_0le, nz_0lt, nz_le0, nz_lt, nz_le, nz_eq, nz_cl, nz_in, nz_sub, nz_m1, pk_mul, set_o, set_ne, up_ne, up_set, n1_1, true_or, or_true, n1_01, n0_01, bI_01, bI_01b, bI_0, isSc1, isSc3, isSc5, ln_2, ln_4, ln_6, ln_8, ln_10, ln_11, ln_12, ln_13, ln_14, ln_16, ln_17, ln_18, ln_19, ln_20, ln_21, ln_23, ln_24, ln_25, ln_27, ln_28, ln_29, ln_31, ln_32, ln_33, ln_35, ln_36, ln_37, e]
      first | exact Kp.same hS (by decide) | exact ⟨rfl, Kp.same hS (by decide)⟩ | exact ⟨trivial, Kp.same hS (by decide)⟩
    · have hd1 := (hc.kp hk).2.2.2.2
      have d0 := hd1.1
      simp (disch := first | assumption | exact isSc1 | exact isSc3 | exact isSc5 | decide | omega) only [eX8_bears, iX8_bears_0, iX8_bears_1]
      refine m_fills hd1 w3 hv.okG w2 (fun f hf => ?_)
      have hd2 : isD (mm_set M1 37 f 31) B L n g := by rw [set_ne _ _ (by decide)]; exact hd1
      have hf2 : isCov (mm_set M1 37 f 37) B n g := by rw [set_o]; exact hf
      simp (disch := first | assumption | exact isSc1 | exact isSc3 | exact isSc5 | decide | omega) only [iX8_bears_4, iX8_bears_5, iX8_bears_6, p_isBeatM, mm_rv_n, mm_rv_s, set_ne, d0]
      simp (disch := first | assumption | exact isSc1 | exact isSc3 | exact isSc5 | decide | omega) only [iX8_bears_9, iX8_bears_12, iX8_bears_13, iX8_bears_14, iX8_bears_17, iX8_bears_20, iX8_bears_23, Nat.reduceAdd, Nat.reduceSub, Nat.reduceMul, Nat.reduceLeDiff, mm_rv_s, mm_rv_n, true_and, and_true, if_true, if_false, not_true_eq_false, not_false_eq_true, nI_add, nz_0, nz_lt0, nz_0le, nz_0lt, nz_le0, nz_lt, nz_le, nz_eq, nz_cl, nz_in, nz_sub, nz_m1, pk_mul, set_o, set_ne, up_ne, up_set, n1_1, true_or, or_true, n1_01, n0_01, bI_01, bI_01b, bI_0, isSc1, isSc3, isSc5, ln_2, ln_4, ln_6, ln_8, ln_10, ln_11, ln_12, ln_13, ln_14, ln_16, ln_17, ln_18, ln_19, ln_20, ln_21, ln_23, ln_24, ln_25, ln_27, ln_28, ln_29, ln_31, ln_32, ln_33, ln_35, ln_36, ln_37, hr, and_self, decide_true, Bool.true_eq_false, show t ≤ B - 1 by omega, Nat.zero_le, m_feet hd2 hv hf2 htB]
      first | exact Kp.set f (by decide) | exact ⟨rfl, Kp.set f (by decide)⟩ | exact ⟨trivial, Kp.set f (by decide)⟩
  · refine pair_q hI (-1001) ?_ (fun M1 hk => ?_)
    · simp (disch := first | assumption | exact isSc1 | exact isSc3 | exact isSc5 | decide | omega) only [eX7_bears, iX7_bears_0, iX7_bears_1, iX7_bears_2, p_isBeat, x0, mm_rv_s]
      simp (disch := first | assumption | exact isSc1 | exact isSc3 | exact isSc5 | decide | omega) only [iX7_bears_5, iX7_bears_8, iX7_bears_11, bI_0, hr, decide_false, if_true, if_false, not_true_eq_false, not_false_eq_true, Bool.false_eq_true, true_and]
      first | exact Kp.rf M | exact ⟨rfl, Kp.rf M⟩ | exact ⟨trivial, Kp.rf M⟩
    · have hd1 := (hc.kp hk).2.2.2.2
      have d0 := hd1.1
      simp (disch := first | assumption | exact isSc1 | exact isSc3 | exact isSc5 | decide | omega) only [eX8_bears, iX8_bears_0, iX8_bears_1]
      refine m_fills hd1 w3 hv.okG w2 (fun f hf => ?_)
      simp (disch := first | assumption | exact isSc1 | exact isSc3 | exact isSc5 | decide | omega) only [iX8_bears_4, iX8_bears_5, iX8_bears_6, p_isBeatM, mm_rv_n, mm_rv_s, set_ne, d0]
      simp (disch := first | assumption | exact isSc1 | exact isSc3 | exact isSc5 | decide | omega) only [iX8_bears_9, iX8_bears_12, iX8_bears_13, iX8_bears_14, iX8_bears_17, iX8_bears_20, iX8_bears_23, bI_0, hr, decide_false, if_true, if_false, not_true_eq_false, not_false_eq_true, Bool.false_eq_true, true_and]
      first | exact Kp.set f (by decide) | exact ⟨rfl, Kp.set f (by decide)⟩ | exact ⟨trivial, Kp.set f (by decide)⟩
theorem pr_toldTwice (hI : Inv M) (a1 : Int32) : lw_pair Inv M 76 133 [.inl a1] := by
  obtain ⟨⟨B, L, n, g, hc⟩, ⟨h, H, hh⟩, ht, hw⟩ := id hI
  obtain ⟨hv, hn, hL, hx, hd⟩ := id hc
  have w1 := hv.1
  have w2 := hv.2.1
  have w3 := hv.2.2.1
  have x0 := hx.1
  by_cases hr : nI 0 ≤ a1 ∧ a1 ≤ nI B - nI 1
  · obtain ⟨t, rfl, htB⟩ := in_upto (by omega) hr
    refine pair_q hI (nI (twN B n g t)) ?_ (fun M1 hk => ?_)
    · simp (disch := first | assumption | exact isSc1 | exact isSc3 | exact isSc5 | decide | omega) only [eX7_toldTwice, iX7_toldTwice_0, iX7_toldTwice_1, iX7_toldTwice_2, p_isBeat, x0, mm_rv_s]
      simp (disch := first | assumption | exact isSc1 | exact isSc3 | exact isSc5 | decide | omega) only [iX7_toldTwice_5, iX7_toldTwice_8, iX7_toldTwice_11, iX7_toldTwice_12, iX7_toldTwice_13, iX7_toldTwice_16, iX7_toldTwice_17, iX7_toldTwice_20, Nat.reduceAdd, Nat.reduceSub, Nat.reduceMul, Nat.reduceLeDiff, mm_rv_s, mm_rv_n, true_and, and_true, if_true, if_false, not_true_eq_false, not_false_eq_true, nI_add, nz_0, nz_lt0, nz_0le, nz_0lt, nz_le0, nz_lt, nz_le, nz_eq, nz_cl, nz_in, nz_sub, nz_m1, pk_mul, set_o, set_ne, up_ne, up_set, n1_1, true_or, or_true, n1_01, n0_01, bI_01, bI_01b, bI_0, isSc1, isSc3, isSc5, ln_2, ln_4, ln_6, ln_8, ln_10, ln_11, ln_12, ln_13, ln_14, ln_16, ln_17, ln_18, ln_19, ln_20, ln_21, ln_23, ln_24, ln_25, ln_27, ln_28, ln_29, ln_31, ln_32, ln_33, ln_35, ln_36, ln_37, hr, and_self, decide_true, Bool.true_eq_false, show t ≤ B - 1 by omega, Nat.zero_le]
      refine p_weigh hx hv (fun M' hS hW => ?_)
      have e := hW.2.2.2.1 t htB
      simp (disch := first | assumption | exact isSc1 | exact isSc3 | exact isSc5 | decide | omega) only [iX7_toldTwice_23, iX7_toldTwice_24, iX7_toldTwice_27, iX7_toldTwice_30, iX7_toldTwice_31, iX7_toldTwice_32, Nat.reduceAdd, Nat.reduceSub, Nat.reduceMul, Nat.reduceLeDiff, mm_rv_s, mm_rv_n, true_and, and_true, if_true, if_false, not_true_eq_false, not_false_eq_true, nI_add, nz_0, nz_lt0, nz_0le, nz_0lt, nz_le0, nz_lt, nz_le, nz_eq, nz_cl, nz_in, nz_sub, nz_m1, pk_mul, set_o, set_ne, up_ne, up_set, n1_1, true_or, or_true, n1_01, n0_01, bI_01, bI_01b, bI_0, isSc1, isSc3, isSc5, ln_2, ln_4, ln_6, ln_8, ln_10, ln_11, ln_12, ln_13, ln_14, ln_16, ln_17, ln_18, ln_19, ln_20, ln_21, ln_23, ln_24, ln_25, ln_27, ln_28, ln_29, ln_31, ln_32, ln_33, ln_35, ln_36, ln_37, e]
      first | exact Kp.same hS (by decide) | exact ⟨rfl, Kp.same hS (by decide)⟩ | exact ⟨trivial, Kp.same hS (by decide)⟩
    · have hd1 := (hc.kp hk).2.2.2.2
      have d0 := hd1.1
      simp (disch := first | assumption | exact isSc1 | exact isSc3 | exact isSc5 | decide | omega) only [eX8_toldTwice, iX8_toldTwice_0, iX8_toldTwice_1]
      refine m_fills hd1 w3 hv.okG w2 (fun f hf => ?_)
      have hd2 : isD (mm_set M1 37 f 31) B L n g := by rw [set_ne _ _ (by decide)]; exact hd1
      have hf2 : isCov (mm_set M1 37 f 37) B n g := by rw [set_o]; exact hf
      simp (disch := first | assumption | exact isSc1 | exact isSc3 | exact isSc5 | decide | omega) only [iX8_toldTwice_4, iX8_toldTwice_5, iX8_toldTwice_6, p_isBeatM, mm_rv_n, mm_rv_s, set_ne, d0]
      simp (disch := first | assumption | exact isSc1 | exact isSc3 | exact isSc5 | decide | omega) only [iX8_toldTwice_9, iX8_toldTwice_12, iX8_toldTwice_13, iX8_toldTwice_14, iX8_toldTwice_17, iX8_toldTwice_20, iX8_toldTwice_23, Nat.reduceAdd, Nat.reduceSub, Nat.reduceMul, Nat.reduceLeDiff, mm_rv_s, mm_rv_n, true_and, and_true, if_true, if_false, not_true_eq_false, not_false_eq_true, nI_add, nz_0, nz_lt0, nz_0le, nz_0lt, nz_le0, nz_lt, nz_le, nz_eq, nz_cl, nz_in, nz_sub, nz_m1, pk_mul, set_o, set_ne, up_ne, up_set, n1_1, true_or, or_true, n1_01, n0_01, bI_01, bI_01b, bI_0, isSc1, isSc3, isSc5, ln_2, ln_4, ln_6, ln_8, ln_10, ln_11, ln_12, ln_13, ln_14, ln_16, ln_17, ln_18, ln_19, ln_20, ln_21, ln_23, ln_24, ln_25, ln_27, ln_28, ln_29, ln_31, ln_32, ln_33, ln_35, ln_36, ln_37, hr, and_self, decide_true, Bool.true_eq_false, show t ≤ B - 1 by omega, Nat.zero_le, m_twice hd2 hv hf2 htB]
      first | exact Kp.set f (by decide) | exact ⟨rfl, Kp.set f (by decide)⟩ | exact ⟨trivial, Kp.set f (by decide)⟩
  · refine pair_q hI (-1001) ?_ (fun M1 hk => ?_)
    · simp (disch := first | assumption | exact isSc1 | exact isSc3 | exact isSc5 | decide | omega) only [eX7_toldTwice, iX7_toldTwice_0, iX7_toldTwice_1, iX7_toldTwice_2, p_isBeat, x0, mm_rv_s]
      simp (disch := first | assumption | exact isSc1 | exact isSc3 | exact isSc5 | decide | omega) only [iX7_toldTwice_5, iX7_toldTwice_8, iX7_toldTwice_11, bI_0, hr, decide_false, if_true, if_false, not_true_eq_false, not_false_eq_true, Bool.false_eq_true, true_and]
      first | exact Kp.rf M | exact ⟨rfl, Kp.rf M⟩ | exact ⟨trivial, Kp.rf M⟩
    · have hd1 := (hc.kp hk).2.2.2.2
      have d0 := hd1.1
      simp (disch := first | assumption | exact isSc1 | exact isSc3 | exact isSc5 | decide | omega) only [eX8_toldTwice, iX8_toldTwice_0, iX8_toldTwice_1]
      refine m_fills hd1 w3 hv.okG w2 (fun f hf => ?_)
      simp (disch := first | assumption | exact isSc1 | exact isSc3 | exact isSc5 | decide | omega) only [iX8_toldTwice_4, iX8_toldTwice_5, iX8_toldTwice_6, p_isBeatM, mm_rv_n, mm_rv_s, set_ne, d0]
      simp (disch := first | assumption | exact isSc1 | exact isSc3 | exact isSc5 | decide | omega) only [iX8_toldTwice_9, iX8_toldTwice_12, iX8_toldTwice_13, iX8_toldTwice_14, iX8_toldTwice_17, iX8_toldTwice_20, iX8_toldTwice_23, bI_0, hr, decide_false, if_true, if_false, not_true_eq_false, not_false_eq_true, Bool.false_eq_true, true_and]
      first | exact Kp.set f (by decide) | exact ⟨rfl, Kp.set f (by decide)⟩ | exact ⟨trivial, Kp.set f (by decide)⟩
theorem pr_isFaulty (hI : Inv M) (a1 : Int32) : lw_pair Inv M 77 134 [.inl a1] := by
  obtain ⟨⟨B, L, n, g, hc⟩, ⟨h, H, hh⟩, ht, hw⟩ := id hI
  obtain ⟨hv, hn, hL, hx, hd⟩ := id hc
  have w1 := hv.1
  have w2 := hv.2.1
  have w3 := hv.2.2.1
  have x0 := hx.1
  by_cases hr : nI 0 ≤ a1 ∧ a1 ≤ nI B - nI 1
  · obtain ⟨t, rfl, htB⟩ := in_upto (by omega) hr
    refine pair_q hI (bI (wrB B L n g t)) ?_ (fun M1 hk => ?_)
    · simp (disch := first | assumption | exact isSc1 | exact isSc3 | exact isSc5 | decide | omega) only [eX7_isFaulty, iX7_isFaulty_0, iX7_isFaulty_1, iX7_isFaulty_2, p_isBeat, x0, mm_rv_s]
      simp (disch := first | assumption | exact isSc1 | exact isSc3 | exact isSc5 | decide | omega) only [iX7_isFaulty_5, iX7_isFaulty_8, iX7_isFaulty_11, iX7_isFaulty_12, iX7_isFaulty_13, iX7_isFaulty_16, iX7_isFaulty_17, iX7_isFaulty_20, Nat.reduceAdd, Nat.reduceSub, Nat.reduceMul, Nat.reduceLeDiff, mm_rv_s, mm_rv_n, true_and, and_true, if_true, if_false, not_true_eq_false, not_false_eq_true, nI_add, nz_0, nz_lt0, nz_0le, nz_0lt, nz_le0, nz_lt, nz_le, nz_eq, nz_cl, nz_in, nz_sub, nz_m1, pk_mul, set_o, set_ne, up_ne, up_set, n1_1, true_or, or_true, n1_01, n0_01, bI_01, bI_01b, bI_0, isSc1, isSc3, isSc5, ln_2, ln_4, ln_6, ln_8, ln_10, ln_11, ln_12, ln_13, ln_14, ln_16, ln_17, ln_18, ln_19, ln_20, ln_21, ln_23, ln_24, ln_25, ln_27, ln_28, ln_29, ln_31, ln_32, ln_33, ln_35, ln_36, ln_37, hr, and_self, decide_true, Bool.true_eq_false, show t ≤ B - 1 by omega, Nat.zero_le]
      refine p_weigh hx hv (fun M' hS hW => ?_)
      simp (disch := first | assumption | exact isSc1 | exact isSc3 | exact isSc5 | decide | omega) only [iX7_isFaulty_23, iX7_isFaulty_24, iX7_isFaulty_27, iX7_isFaulty_28, mm_rv_n, x_isWrong hW w2 hL htB]
      cases wrB B L n g t
      · simp (disch := first | assumption | exact isSc1 | exact isSc3 | exact isSc5 | decide | omega) only [mm_rv_s, iX7_isFaulty_31, iX7_isFaulty_34, iX7_isFaulty_35, iX7_isFaulty_38, iX7_isFaulty_39, bI, Nat.reduceAdd, Nat.reduceSub, Nat.reduceMul, Nat.reduceLeDiff, mm_rv_s, mm_rv_n, true_and, and_true, if_true, if_false, not_true_eq_false, not_false_eq_true, nI_add, nz_0, nz_lt0, nz_0le, nz_0lt, nz_le0, nz_lt, nz_le, nz_eq, nz_cl, nz_in, nz_sub, nz_m1, pk_mul, set_o, set_ne, up_ne, up_set, n1_1, true_or, or_true, n1_01, n0_01, bI_01, bI_01b, bI_0, isSc1, isSc3, isSc5, ln_2, ln_4, ln_6, ln_8, ln_10, ln_11, ln_12, ln_13, ln_14, ln_16, ln_17, ln_18, ln_19, ln_20, ln_21, ln_23, ln_24, ln_25, ln_27, ln_28, ln_29, ln_31, ln_32, ln_33, ln_35, ln_36, ln_37, Bool.false_eq_true]
        first | exact Kp.same hS (by decide) | exact ⟨rfl, Kp.same hS (by decide)⟩ | exact ⟨trivial, Kp.same hS (by decide)⟩
      · simp (disch := first | assumption | exact isSc1 | exact isSc3 | exact isSc5 | decide | omega) only [mm_rv_s, iX7_isFaulty_31, iX7_isFaulty_34, iX7_isFaulty_35, iX7_isFaulty_38, iX7_isFaulty_39, bI, Nat.reduceAdd, Nat.reduceSub, Nat.reduceMul, Nat.reduceLeDiff, mm_rv_s, mm_rv_n, true_and, and_true, if_true, if_false, not_true_eq_false, not_false_eq_true, nI_add, nz_0, nz_lt0, nz_0le, nz_0lt, nz_le0, nz_lt, nz_le, nz_eq, nz_cl, nz_in, nz_sub, nz_m1, pk_mul, set_o, set_ne, up_ne, up_set, n1_1, true_or, or_true, n1_01, n0_01, bI_01, bI_01b, bI_0, isSc1, isSc3, isSc5, ln_2, ln_4, ln_6, ln_8, ln_10, ln_11, ln_12, ln_13, ln_14, ln_16, ln_17, ln_18, ln_19, ln_20, ln_21, ln_23, ln_24, ln_25, ln_27, ln_28, ln_29, ln_31, ln_32, ln_33, ln_35, ln_36, ln_37]
        first | exact Kp.same hS (by decide) | exact ⟨rfl, Kp.same hS (by decide)⟩ | exact ⟨trivial, Kp.same hS (by decide)⟩
    · have hd1 := (hc.kp hk).2.2.2.2
      have d0 := hd1.1
      simp (disch := first | assumption | exact isSc1 | exact isSc3 | exact isSc5 | decide | omega) only [eX8_isFaulty, iX8_isFaulty_0, iX8_isFaulty_1]
      refine m_fills hd1 w3 hv.okG w2 (fun f hf => ?_)
      have hd2 : isD (mm_set M1 37 f 31) B L n g := by rw [set_ne _ _ (by decide)]; exact hd1
      have hf2 : isCov (mm_set M1 37 f 37) B n g := by rw [set_o]; exact hf
      simp (disch := first | assumption | exact isSc1 | exact isSc3 | exact isSc5 | decide | omega) only [iX8_isFaulty_4, iX8_isFaulty_5, iX8_isFaulty_6, p_isBeatM, mm_rv_n, mm_rv_s, set_ne, d0]
      simp (disch := first | assumption | exact isSc1 | exact isSc3 | exact isSc5 | decide | omega) only [iX8_isFaulty_9, iX8_isFaulty_12, iX8_isFaulty_15, iX8_isFaulty_18, iX8_isFaulty_19, iX8_isFaulty_20, Nat.reduceAdd, Nat.reduceSub, Nat.reduceMul, Nat.reduceLeDiff, mm_rv_s, mm_rv_n, true_and, and_true, if_true, if_false, not_true_eq_false, not_false_eq_true, nI_add, nz_0, nz_lt0, nz_0le, nz_0lt, nz_le0, nz_lt, nz_le, nz_eq, nz_cl, nz_in, nz_sub, nz_m1, pk_mul, set_o, set_ne, up_ne, up_set, n1_1, true_or, or_true, n1_01, n0_01, bI_01, bI_01b, bI_0, isSc1, isSc3, isSc5, ln_2, ln_4, ln_6, ln_8, ln_10, ln_11, ln_12, ln_13, ln_14, ln_16, ln_17, ln_18, ln_19, ln_20, ln_21, ln_23, ln_24, ln_25, ln_27, ln_28, ln_29, ln_31, ln_32, ln_33, ln_35, ln_36, ln_37, hr, and_self, decide_true, Bool.true_eq_false, show t ≤ B - 1 by omega, Nat.zero_le, m_isWrong hd2 hv hf2 hL htB]
      cases wrB B L n g t
      · simp (disch := first | assumption | exact isSc1 | exact isSc3 | exact isSc5 | decide | omega) only [mm_rv_s, iX8_isFaulty_23, iX8_isFaulty_26, iX8_isFaulty_27, iX8_isFaulty_30, iX8_isFaulty_31, bI, Nat.reduceAdd, Nat.reduceSub, Nat.reduceMul, Nat.reduceLeDiff, mm_rv_s, mm_rv_n, true_and, and_true, if_true, if_false, not_true_eq_false, not_false_eq_true, nI_add, nz_0, nz_lt0, nz_0le, nz_0lt, nz_le0, nz_lt, nz_le, nz_eq, nz_cl, nz_in, nz_sub, nz_m1, pk_mul, set_o, set_ne, up_ne, up_set, n1_1, true_or, or_true, n1_01, n0_01, bI_01, bI_01b, bI_0, isSc1, isSc3, isSc5, ln_2, ln_4, ln_6, ln_8, ln_10, ln_11, ln_12, ln_13, ln_14, ln_16, ln_17, ln_18, ln_19, ln_20, ln_21, ln_23, ln_24, ln_25, ln_27, ln_28, ln_29, ln_31, ln_32, ln_33, ln_35, ln_36, ln_37, Bool.false_eq_true]
        first | exact Kp.set f (by decide) | exact ⟨rfl, Kp.set f (by decide)⟩ | exact ⟨trivial, Kp.set f (by decide)⟩
      · simp (disch := first | assumption | exact isSc1 | exact isSc3 | exact isSc5 | decide | omega) only [mm_rv_s, iX8_isFaulty_23, iX8_isFaulty_26, iX8_isFaulty_27, iX8_isFaulty_30, iX8_isFaulty_31, bI, Nat.reduceAdd, Nat.reduceSub, Nat.reduceMul, Nat.reduceLeDiff, mm_rv_s, mm_rv_n, true_and, and_true, if_true, if_false, not_true_eq_false, not_false_eq_true, nI_add, nz_0, nz_lt0, nz_0le, nz_0lt, nz_le0, nz_lt, nz_le, nz_eq, nz_cl, nz_in, nz_sub, nz_m1, pk_mul, set_o, set_ne, up_ne, up_set, n1_1, true_or, or_true, n1_01, n0_01, bI_01, bI_01b, bI_0, isSc1, isSc3, isSc5, ln_2, ln_4, ln_6, ln_8, ln_10, ln_11, ln_12, ln_13, ln_14, ln_16, ln_17, ln_18, ln_19, ln_20, ln_21, ln_23, ln_24, ln_25, ln_27, ln_28, ln_29, ln_31, ln_32, ln_33, ln_35, ln_36, ln_37]
        first | exact Kp.set f (by decide) | exact ⟨rfl, Kp.set f (by decide)⟩ | exact ⟨trivial, Kp.set f (by decide)⟩
  · refine pair_q hI (-1001) ?_ (fun M1 hk => ?_)
    · simp (disch := first | assumption | exact isSc1 | exact isSc3 | exact isSc5 | decide | omega) only [eX7_isFaulty, iX7_isFaulty_0, iX7_isFaulty_1, iX7_isFaulty_2, p_isBeat, x0, mm_rv_s]
      simp (disch := first | assumption | exact isSc1 | exact isSc3 | exact isSc5 | decide | omega) only [iX7_isFaulty_5, iX7_isFaulty_8, iX7_isFaulty_11, bI_0, hr, decide_false, if_true, if_false, not_true_eq_false, not_false_eq_true, Bool.false_eq_true, true_and]
      first | exact Kp.rf M | exact ⟨rfl, Kp.rf M⟩ | exact ⟨trivial, Kp.rf M⟩
    · have hd1 := (hc.kp hk).2.2.2.2
      have d0 := hd1.1
      simp (disch := first | assumption | exact isSc1 | exact isSc3 | exact isSc5 | decide | omega) only [eX8_isFaulty, iX8_isFaulty_0, iX8_isFaulty_1]
      refine m_fills hd1 w3 hv.okG w2 (fun f hf => ?_)
      simp (disch := first | assumption | exact isSc1 | exact isSc3 | exact isSc5 | decide | omega) only [iX8_isFaulty_4, iX8_isFaulty_5, iX8_isFaulty_6, p_isBeatM, mm_rv_n, mm_rv_s, set_ne, d0]
      simp (disch := first | assumption | exact isSc1 | exact isSc3 | exact isSc5 | decide | omega) only [iX8_isFaulty_9, iX8_isFaulty_12, iX8_isFaulty_15, iX8_isFaulty_18, iX8_isFaulty_19, iX8_isFaulty_20, iX8_isFaulty_23, iX8_isFaulty_26, iX8_isFaulty_27, iX8_isFaulty_30, iX8_isFaulty_31, bI_0, hr, decide_false, if_true, if_false, not_true_eq_false, not_false_eq_true, Bool.false_eq_true, true_and]
      first | exact Kp.set f (by decide) | exact ⟨rfl, Kp.set f (by decide)⟩ | exact ⟨trivial, Kp.set f (by decide)⟩
def nxtF (p : Nat → Bool) : Nat → Nat → Int32
  | 0, _ => -1004
  | d + 1, t => if p t = true then nI t else nxtF p d (t + 1)
theorem pr_nextFault (hI : Inv M) (a1 : Int32) : lw_pair Inv M 78 135 [.inl a1] := by
  obtain ⟨⟨B, L, n, g, hc⟩, ⟨h, H, hh⟩, ht, hw⟩ := id hI
  obtain ⟨hv, hn, hL, hx, hd⟩ := id hc
  have w1 := hv.1
  have w2 := hv.2.1
  have w3 := hv.2.2.1
  have x0 := hx.1
  by_cases hr : nI 0 ≤ a1 ∧ a1 ≤ nI B - nI 1
  · obtain ⟨t, rfl, htB⟩ := in_upto (by omega) hr
    refine pair_q hI (nxtF (wrB B L n g) (B - t) t) ?_ (fun M1 hk => ?_)
    · simp (disch := first | assumption | exact isSc1 | exact isSc3 | exact isSc5 | decide | omega) only [eX7_nextFault, iX7_nextFault_0, iX7_nextFault_1, iX7_nextFault_2, p_isBeat, x0, mm_rv_s]
      simp (disch := first | assumption | exact isSc1 | exact isSc3 | exact isSc5 | decide | omega) only [iX7_nextFault_5, iX7_nextFault_8, iX7_nextFault_11, iX7_nextFault_12, iX7_nextFault_13, iX7_nextFault_16, iX7_nextFault_17, iX7_nextFault_20, Nat.reduceAdd, Nat.reduceSub, Nat.reduceMul, Nat.reduceLeDiff, mm_rv_s, mm_rv_n, true_and, and_true, if_true, if_false, not_true_eq_false, not_false_eq_true, nI_add, nz_0, nz_lt0, nz_0le, nz_0lt, nz_le0, nz_lt, nz_le, nz_eq, nz_cl, nz_in, nz_sub, nz_m1, pk_mul, set_o, set_ne, up_ne, up_set, n1_1, true_or, or_true, n1_01, n0_01, bI_01, bI_01b, bI_0, isSc1, isSc3, isSc5, ln_2, ln_4, ln_6, ln_8, ln_10, ln_11, ln_12, ln_13, ln_14, ln_16, ln_17, ln_18, ln_19, ln_20, ln_21, ln_23, ln_24, ln_25, ln_27, ln_28, ln_29, ln_31, ln_32, ln_33, ln_35, ln_36, ln_37, hr, and_self, decide_true, Bool.true_eq_false, show t ≤ B - 1 by omega, Nat.zero_le]
      refine p_weigh hx hv (fun M' hS hW => ?_)
      simp (disch := first | assumption | exact isSc1 | exact isSc3 | exact isSc5 | decide | omega) only [iX7_nextFault_23, iX7_nextFault_24, mm_rv_n]
      have e0 : M' 1 0 = nI B := by rw [hS 1 (by decide), x0]
      have loop : ∀ d b : Nat, b + d = B → wp 78 25 [some (.inr 0), some (.inl (nI t)), some (.inl (nI b))] [] M' (fun r M1 => r = some (nxtF (wrB B L n g) d b) ∧ Kp M M1) := by
        intro d
        induction d with
        | zero =>
          intro b hb
          have hb : b = B := by omega
          subst hb
          rw [iX7_nextFault_25]
          simp (disch := first | assumption | exact isSc1 | exact isSc3 | exact isSc5 | decide | omega) only [iX7_nextFault_26, iX7_nextFault_27, iX7_nextFault_30, iX7_nextFault_33, iX7_nextFault_55, iX7_nextFault_58, Nat.reduceAdd, Nat.reduceSub, Nat.reduceMul, Nat.reduceLeDiff, mm_rv_s, mm_rv_n, true_and, and_true, if_true, if_false, not_true_eq_false, not_false_eq_true, nI_add, nz_0, nz_lt0, nz_0le, nz_0lt, nz_le0, nz_lt, nz_le, nz_eq, nz_cl, nz_in, nz_sub, nz_m1, pk_mul, set_o, set_ne, up_ne, up_set, n1_1, true_or, or_true, n1_01, n0_01, bI_01, bI_01b, bI_0, isSc1, isSc3, isSc5, ln_2, ln_4, ln_6, ln_8, ln_10, ln_11, ln_12, ln_13, ln_14, ln_16, ln_17, ln_18, ln_19, ln_20, ln_21, ln_23, ln_24, ln_25, ln_27, ln_28, ln_29, ln_31, ln_32, ln_33, ln_35, ln_36, ln_37, e0, Nat.le_refl]
          first | exact Kp.same hS (by decide) | exact ⟨rfl, Kp.same hS (by decide)⟩ | exact ⟨trivial, Kp.same hS (by decide)⟩
        | succ d ih =>
          intro b hb
          rw [iX7_nextFault_25]
          simp (disch := first | assumption | exact isSc1 | exact isSc3 | exact isSc5 | decide | omega) only [iX7_nextFault_26, iX7_nextFault_27, iX7_nextFault_30, iX7_nextFault_33, iX7_nextFault_36, iX7_nextFault_37, iX7_nextFault_40, iX7_nextFault_41, Nat.reduceAdd, Nat.reduceSub, Nat.reduceMul, Nat.reduceLeDiff, mm_rv_s, mm_rv_n, true_and, and_true, if_true, if_false, not_true_eq_false, not_false_eq_true, nI_add, nz_0, nz_lt0, nz_0le, nz_0lt, nz_le0, nz_lt, nz_le, nz_eq, nz_cl, nz_in, nz_sub, nz_m1, pk_mul, set_o, set_ne, up_ne, up_set, n1_1, true_or, or_true, n1_01, n0_01, bI_01, bI_01b, bI_0, isSc1, isSc3, isSc5, ln_2, ln_4, ln_6, ln_8, ln_10, ln_11, ln_12, ln_13, ln_14, ln_16, ln_17, ln_18, ln_19, ln_20, ln_21, ln_23, ln_24, ln_25, ln_27, ln_28, ln_29, ln_31, ln_32, ln_33, ln_35, ln_36, ln_37, e0, show ¬ B ≤ b by omega, x_isWrong hW w2 hL (show b < B by omega)]
          have := ih (b + 1) (by omega)
          unfold nxtF
          cases wrB B L n g b
          · simp (disch := first | assumption | exact isSc1 | exact isSc3 | exact isSc5 | decide | omega) only [iX7_nextFault_44, iX7_nextFault_47, iX7_nextFault_48, iX7_nextFault_49, iX7_nextFault_52, Nat.reduceAdd, Nat.reduceSub, Nat.reduceMul, Nat.reduceLeDiff, mm_rv_s, mm_rv_n, true_and, and_true, if_true, if_false, not_true_eq_false, not_false_eq_true, nI_add, nz_0, nz_lt0, nz_0le, nz_0lt, nz_le0, nz_lt, nz_le, nz_eq, nz_cl, nz_in, nz_sub, nz_m1, pk_mul, set_o, set_ne, up_ne, up_set, n1_1, true_or, or_true, n1_01, n0_01, bI_01, bI_01b, bI_0, isSc1, isSc3, isSc5, ln_2, ln_4, ln_6, ln_8, ln_10, ln_11, ln_12, ln_13, ln_14, ln_16, ln_17, ln_18, ln_19, ln_20, ln_21, ln_23, ln_24, ln_25, ln_27, ln_28, ln_29, ln_31, ln_32, ln_33, ln_35, ln_36, ln_37, bI, Bool.false_eq_true]
            exact this
          · simp (disch := first | assumption | exact isSc1 | exact isSc3 | exact isSc5 | decide | omega) only [iX7_nextFault_44, iX7_nextFault_47, iX7_nextFault_48, iX7_nextFault_49, iX7_nextFault_52, Nat.reduceAdd, Nat.reduceSub, Nat.reduceMul, Nat.reduceLeDiff, mm_rv_s, mm_rv_n, true_and, and_true, if_true, if_false, not_true_eq_false, not_false_eq_true, nI_add, nz_0, nz_lt0, nz_0le, nz_0lt, nz_le0, nz_lt, nz_le, nz_eq, nz_cl, nz_in, nz_sub, nz_m1, pk_mul, set_o, set_ne, up_ne, up_set, n1_1, true_or, or_true, n1_01, n0_01, bI_01, bI_01b, bI_0, isSc1, isSc3, isSc5, ln_2, ln_4, ln_6, ln_8, ln_10, ln_11, ln_12, ln_13, ln_14, ln_16, ln_17, ln_18, ln_19, ln_20, ln_21, ln_23, ln_24, ln_25, ln_27, ln_28, ln_29, ln_31, ln_32, ln_33, ln_35, ln_36, ln_37, bI]
            first | exact Kp.same hS (by decide) | exact ⟨rfl, Kp.same hS (by decide)⟩ | exact ⟨trivial, Kp.same hS (by decide)⟩
      exact loop (B - t) t (by omega)
    · have hd1 := (hc.kp hk).2.2.2.2
      have d0 := hd1.1
      simp (disch := first | assumption | exact isSc1 | exact isSc3 | exact isSc5 | decide | omega) only [eX8_nextFault, iX8_nextFault_0, iX8_nextFault_1, iX8_nextFault_2, p_isBeatM, mm_rv_s, d0]
      simp (disch := first | assumption | exact isSc1 | exact isSc3 | exact isSc5 | decide | omega) only [iX8_nextFault_5, iX8_nextFault_8, iX8_nextFault_11, iX8_nextFault_12, iX8_nextFault_13, Nat.reduceAdd, Nat.reduceSub, Nat.reduceMul, Nat.reduceLeDiff, mm_rv_s, mm_rv_n, true_and, and_true, if_true, if_false, not_true_eq_false, not_false_eq_true, nI_add, nz_0, nz_lt0, nz_0le, nz_0lt, nz_le0, nz_lt, nz_le, nz_eq, nz_cl, nz_in, nz_sub, nz_m1, pk_mul, set_o, set_ne, up_ne, up_set, n1_1, true_or, or_true, n1_01, n0_01, bI_01, bI_01b, bI_0, isSc1, isSc3, isSc5, ln_2, ln_4, ln_6, ln_8, ln_10, ln_11, ln_12, ln_13, ln_14, ln_16, ln_17, ln_18, ln_19, ln_20, ln_21, ln_23, ln_24, ln_25, ln_27, ln_28, ln_29, ln_31, ln_32, ln_33, ln_35, ln_36, ln_37, hr, and_self, decide_true, Bool.true_eq_false, show t ≤ B - 1 by omega, Nat.zero_le]
      refine m_fills hd1 w3 hv.okG w2 (fun f hf => ?_)
      have hd2 : isD (mm_set M1 37 f 31) B L n g := by rw [set_ne _ _ (by decide)]; exact hd1
      have hf2 : isCov (mm_set M1 37 f 37) B n g := by rw [set_o]; exact hf
      have hk2 : Kp M1 (mm_set M1 37 f) := Kp.set f (by decide)
      generalize mm_set M1 37 f = M2 at hd2 hf2 hk2 ⊢
      have d0 := hd2.1
      simp (disch := first | assumption | exact isSc1 | exact isSc3 | exact isSc5 | decide | omega) only [iX8_nextFault_16, iX8_nextFault_17, mm_rv_n]
      have loop : ∀ d b : Nat, b + d = B → wp 135 18 [some (.inr 30), some (.inl (nI t)), some (.inl (nI b))] [] M2 (fun r M3 => r = some (nxtF (wrB B L n g) d b) ∧ Kp M1 M3) := by
        intro d
        induction d with
        | zero =>
          intro b hb
          have hb : b = B := by omega
          subst hb
          rw [iX8_nextFault_18]
          simp (disch := first | assumption | exact isSc1 | exact isSc3 | exact isSc5 | decide | omega) only [iX8_nextFault_19, iX8_nextFault_20, iX8_nextFault_23, iX8_nextFault_24, iX8_nextFault_25, iX8_nextFault_44, iX8_nextFault_47, Nat.reduceAdd, Nat.reduceSub, Nat.reduceMul, Nat.reduceLeDiff, mm_rv_s, mm_rv_n, true_and, and_true, if_true, if_false, not_true_eq_false, not_false_eq_true, nI_add, nz_0, nz_lt0, nz_0le, nz_0lt, nz_le0, nz_lt, nz_le, nz_eq, nz_cl, nz_in, nz_sub, nz_m1, pk_mul, set_o, set_ne, up_ne, up_set, n1_1, true_or, or_true, n1_01, n0_01, bI_01, bI_01b, bI_0, isSc1, isSc3, isSc5, ln_2, ln_4, ln_6, ln_8, ln_10, ln_11, ln_12, ln_13, ln_14, ln_16, ln_17, ln_18, ln_19, ln_20, ln_21, ln_23, ln_24, ln_25, ln_27, ln_28, ln_29, ln_31, ln_32, ln_33, ln_35, ln_36, ln_37, d0, Nat.le_refl]
          first | exact hk2 | exact ⟨rfl, hk2⟩ | exact ⟨trivial, hk2⟩
        | succ d ih =>
          intro b hb
          rw [iX8_nextFault_18]
          simp (disch := first | assumption | exact isSc1 | exact isSc3 | exact isSc5 | decide | omega) only [iX8_nextFault_19, iX8_nextFault_20, iX8_nextFault_23, iX8_nextFault_24, iX8_nextFault_25, iX8_nextFault_28, iX8_nextFault_29, iX8_nextFault_30, Nat.reduceAdd, Nat.reduceSub, Nat.reduceMul, Nat.reduceLeDiff, mm_rv_s, mm_rv_n, true_and, and_true, if_true, if_false, not_true_eq_false, not_false_eq_true, nI_add, nz_0, nz_lt0, nz_0le, nz_0lt, nz_le0, nz_lt, nz_le, nz_eq, nz_cl, nz_in, nz_sub, nz_m1, pk_mul, set_o, set_ne, up_ne, up_set, n1_1, true_or, or_true, n1_01, n0_01, bI_01, bI_01b, bI_0, isSc1, isSc3, isSc5, ln_2, ln_4, ln_6, ln_8, ln_10, ln_11, ln_12, ln_13, ln_14, ln_16, ln_17, ln_18, ln_19, ln_20, ln_21, ln_23, ln_24, ln_25, ln_27, ln_28, ln_29, ln_31, ln_32, ln_33, ln_35, ln_36, ln_37, d0, show ¬ B ≤ b by omega, m_isWrong hd2 hv hf2 hL (show b < B by omega)]
          have := ih (b + 1) (by omega)
          unfold nxtF
          cases wrB B L n g b
          · simp (disch := first | assumption | exact isSc1 | exact isSc3 | exact isSc5 | decide | omega) only [iX8_nextFault_33, iX8_nextFault_36, iX8_nextFault_37, iX8_nextFault_38, iX8_nextFault_41, Nat.reduceAdd, Nat.reduceSub, Nat.reduceMul, Nat.reduceLeDiff, mm_rv_s, mm_rv_n, true_and, and_true, if_true, if_false, not_true_eq_false, not_false_eq_true, nI_add, nz_0, nz_lt0, nz_0le, nz_0lt, nz_le0, nz_lt, nz_le, nz_eq, nz_cl, nz_in, nz_sub, nz_m1, pk_mul, set_o, set_ne, up_ne, up_set, n1_1, true_or, or_true, n1_01, n0_01, bI_01, bI_01b, bI_0, isSc1, isSc3, isSc5, ln_2, ln_4, ln_6, ln_8, ln_10, ln_11, ln_12, ln_13, ln_14, ln_16, ln_17, ln_18, ln_19, ln_20, ln_21, ln_23, ln_24, ln_25, ln_27, ln_28, ln_29, ln_31, ln_32, ln_33, ln_35, ln_36, ln_37, bI, Bool.false_eq_true]
            exact this
          · simp (disch := first | assumption | exact isSc1 | exact isSc3 | exact isSc5 | decide | omega) only [iX8_nextFault_33, iX8_nextFault_36, iX8_nextFault_37, iX8_nextFault_38, iX8_nextFault_41, Nat.reduceAdd, Nat.reduceSub, Nat.reduceMul, Nat.reduceLeDiff, mm_rv_s, mm_rv_n, true_and, and_true, if_true, if_false, not_true_eq_false, not_false_eq_true, nI_add, nz_0, nz_lt0, nz_0le, nz_0lt, nz_le0, nz_lt, nz_le, nz_eq, nz_cl, nz_in, nz_sub, nz_m1, pk_mul, set_o, set_ne, up_ne, up_set, n1_1, true_or, or_true, n1_01, n0_01, bI_01, bI_01b, bI_0, isSc1, isSc3, isSc5, ln_2, ln_4, ln_6, ln_8, ln_10, ln_11, ln_12, ln_13, ln_14, ln_16, ln_17, ln_18, ln_19, ln_20, ln_21, ln_23, ln_24, ln_25, ln_27, ln_28, ln_29, ln_31, ln_32, ln_33, ln_35, ln_36, ln_37, bI]
            first | exact hk2 | exact ⟨rfl, hk2⟩ | exact ⟨trivial, hk2⟩
      exact loop (B - t) t (by omega)
  · refine pair_q hI (-1001) ?_ (fun M1 hk => ?_)
    · simp (disch := first | assumption | exact isSc1 | exact isSc3 | exact isSc5 | decide | omega) only [eX7_nextFault, iX7_nextFault_0, iX7_nextFault_1, iX7_nextFault_2, p_isBeat, x0, mm_rv_s]
      simp (disch := first | assumption | exact isSc1 | exact isSc3 | exact isSc5 | decide | omega) only [iX7_nextFault_5, iX7_nextFault_8, iX7_nextFault_11, bI_0, hr, decide_false, if_true, if_false, not_true_eq_false, not_false_eq_true, Bool.false_eq_true, true_and]
      first | exact Kp.rf M | exact ⟨rfl, Kp.rf M⟩ | exact ⟨trivial, Kp.rf M⟩
    · have hd1 := (hc.kp hk).2.2.2.2
      have d0 := hd1.1
      simp (disch := first | assumption | exact isSc1 | exact isSc3 | exact isSc5 | decide | omega) only [eX8_nextFault, iX8_nextFault_0, iX8_nextFault_1, iX8_nextFault_2, p_isBeatM, mm_rv_s, d0]
      simp (disch := first | assumption | exact isSc1 | exact isSc3 | exact isSc5 | decide | omega) only [iX8_nextFault_5, iX8_nextFault_8, iX8_nextFault_11, bI_0, hr, decide_false, if_true, if_false, not_true_eq_false, not_false_eq_true, Bool.false_eq_true, true_and]
      first | exact Kp.rf M1 | exact ⟨rfl, Kp.rf M1⟩ | exact ⟨trivial, Kp.rf M1⟩
end PW
