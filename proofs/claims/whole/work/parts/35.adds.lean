/-! PAIRS: addMove, addHold, addTurn, addRelease -/
section ADDS
variable {M : mm_M} {Q : mm_Q} {B L n h : Nat} {g : Nat → Sg} {H : Nat → St} {s : Sg}
theorem add_law (hI : Inv M) (hcur : Cur M B L n g) (hh : Hst M h H) (hs : okS s) (he : sB s + sS s ≤ B) :
    wc 95 [.inr 0, .inl (nI (pk s))] M (fun r M1 => ∃ v, r = some v ∧ M1 31 0 = nI B ∧ wc 109 [.inr 30, .inl (nI (sC s)), .inl (nI (sB s)), .inl (nI (sK s)), .inl (nI (sN s)), .inl (iZ (sW s)), .inl (nI (sV s))] M1 (fun r2 M2 => r2 = some v ∧ Inv M2)) := by
  obtain ⟨hv, hn, hL, hC0, hd⟩ := id hcur
  refine x_addSign hcur hh hs he (fun hr => ⟨_, rfl, hd.1, ?_⟩) (fun hr h60 => ⟨_, rfl, hd.1, ?_⟩) (fun hr h60 f2 M' hf hS hC => ⟨_, rfl, ?_, ?_⟩)
  · exact m_adds hv hd hn hh rfl rfl hs he (fun f _ => ⟨rfl, hI.kp (Kp.set f (by decide))⟩) (fun f hr2 => absurd hr2 hr) (fun hr2 => absurd hr2 hr)
  · exact m_adds hv hd hn hh rfl rfl hs he (fun f hr2 => absurd hr hr2) (fun f _ _ => ⟨rfl, hI.kp (Kp.set f (by decide))⟩) (fun _ h => absurd h60 (by omega))
  · rw [hS 31 (by decide), up_ne _ _ _ (by decide), set_ne _ _ (by decide)]
    exact hd.1
  · have sm : ∀ q, q ∉ [1, 2, 7, 8] → M' q = M q := fun q hq => by
      simp only [List.mem_cons, List.not_mem_nil, or_false, not_or] at hq
      rw [hS q (by simp only [List.mem_cons, List.not_mem_nil, or_false, not_or]; omega), up_ne _ _ _ (by omega), set_ne _ _ (by omega)]
    have s7 : M' 7 0 = nI (pushN h) := by rw [hS 7 (by decide), up_o, us]
    have s8 : M' 8 = f2 := by rw [hS 8 (by decide), up_ne _ _ _ (by decide), set_o]
    refine m_adds (M := M) (M1 := M') hv (by rw [sm 31 (by decide)]; exact hd) hn hh (by rw [sm 30 (by decide)]) (by rw [sm 32 (by decide)]) hs he (fun f hr2 => absurd hr hr2) (fun _ _ h => absurd h (by omega)) (fun _ _ f w2 d2 hw hd2 => ⟨rfl, ?_⟩)
    have sn : ∀ q, q ∉ [30, 31, 32, 37] → mm_set (mm_up (mm_set (mm_set M' 37 f) 32 w2) 30 2 (nI (pushN h))) 31 d2 q = M' q := fun q hq => by
      simp only [List.mem_cons, List.not_mem_nil, or_false, not_or] at hq
      rw [set_ne _ _ (by omega), up_ne _ _ _ (by omega), set_ne _ _ (by omega), set_ne _ _ (by omega)]
    refine change_inv hcur hh hI.2.2.1 hI.2.2.2 (B' := B) (L' := L) (n' := n + 1) (g' := insG g (pos (gtD g s) n) s) ?_ ?_ ?_ ?_ ⟨val_ins hv (by omega) hs he hr, by omega, hL, isC_cong (sn 1 (by decide)) (sn 2 (by decide)) hC, ?_⟩ (TK.of (fun q hq => ?_) ?_)
    · rw [sn 7 (by decide), s7]
    · rw [set_ne _ _ (by decide), up_o, us]
    · rw [sn 8 (by decide), s8]; exact hf
    · have e : mm_set (mm_up (mm_set (mm_set M' 37 f) 32 w2) 30 2 (nI (pushN h))) 31 d2 32 = w2 := by rw [set_ne _ _ (by decide), up_ne _ _ _ (by decide), set_o]
      rw [e]; exact hw
    · rw [set_o]; exact hd2
    · rw [sn q ?_, sm q ?_] <;> (simp only [List.mem_cons, List.not_mem_nil, or_false] at hq; rcases hq with rfl | rfl | rfl | rfl | rfl | rfl <;> decide)
    · rw [set_ne _ _ (by decide), up_o, un _ _ _ _ (by decide), set_ne _ _ (by decide), set_ne _ _ (by decide), sm 30 (by decide)]
-- the signs made
theorem g_move {c b l d v : Nat} (hs : okS (c, b, 0, l, (d : Int), v)) (hb : b < 128) : wc 28 [.inl (nI c), .inl (nI b), .inl (nI l), .inl (nI d), .inl (nI v)] M Q ↔ Q (some (nI (pk (c, b, 0, l, (d : Int), v)))) M := by
  simp (disch := first | assumption | exact isSc1 | exact isSc3 | exact isSc5 | decide | omega) only [eX4_move, iX4_move_0, iX4_move_1, iX4_move_2, iX4_move_3, iX4_move_4, iX4_move_5, iX4_move_7, iX4_move_8, iX4_move_11, Nat.reduceAdd, Nat.reduceSub, Nat.reduceMul, Nat.reduceLeDiff, mm_rv_s, mm_rv_n, true_and, and_true, if_true, if_false, not_true_eq_false, not_false_eq_true, nI_add, nz_0, nz_lt0, nz_0le, nz_0lt, nz_le0, nz_lt, nz_le, nz_eq, nz_cl, nz_in, nz_sub, nz_m1, pk_mul, set_o, set_ne, up_ne, up_set, n1_1, true_or, or_true, n1_01, n0_01, bI_01, bI_01b, bI_0, isSc1, isSc3, isSc5, ln_2, ln_4, ln_6, ln_8, ln_10, ln_11, ln_12, ln_13, ln_14, ln_16, ln_17, ln_18, ln_19, ln_20, ln_21, ln_23, ln_24, ln_25, ln_27, ln_28, ln_29, ln_31, ln_32, ln_33, ln_35, ln_36, ln_37]
  refine (g_packed (s := (c, b, 0, l, (d : Int), v)) hs hb).trans ?_
  simp (disch := first | assumption | exact isSc1 | exact isSc3 | exact isSc5 | decide | omega) only [iX4_move_0, iX4_move_1, iX4_move_2, iX4_move_3, iX4_move_4, iX4_move_5, iX4_move_7, iX4_move_8, iX4_move_11, Nat.reduceAdd, Nat.reduceSub, Nat.reduceMul, Nat.reduceLeDiff, mm_rv_s, mm_rv_n, true_and, and_true, if_true, if_false, not_true_eq_false, not_false_eq_true, nI_add, nz_0, nz_lt0, nz_0le, nz_0lt, nz_le0, nz_lt, nz_le, nz_eq, nz_cl, nz_in, nz_sub, nz_m1, pk_mul, set_o, set_ne, up_ne, up_set, n1_1, true_or, or_true, n1_01, n0_01, bI_01, bI_01b, bI_0, isSc1, isSc3, isSc5, ln_2, ln_4, ln_6, ln_8, ln_10, ln_11, ln_12, ln_13, ln_14, ln_16, ln_17, ln_18, ln_19, ln_20, ln_21, ln_23, ln_24, ln_25, ln_27, ln_28, ln_29, ln_31, ln_32, ln_33, ln_35, ln_36, ln_37]
theorem g_hold {c b : Nat} (hs : okS (c, b, 1, 0, 0, 0)) (hb : b < 128) : wc 29 [.inl (nI c), .inl (nI b)] M Q ↔ Q (some (nI (pk (c, b, 1, 0, 0, 0)))) M := by
  simp (disch := first | assumption | exact isSc1 | exact isSc3 | exact isSc5 | decide | omega) only [eX4_hold, iX4_hold_0, iX4_hold_1, iX4_hold_2, iX4_hold_3, iX4_hold_4, iX4_hold_5, iX4_hold_6, iX4_hold_7, iX4_hold_10, Nat.reduceAdd, Nat.reduceSub, Nat.reduceMul, Nat.reduceLeDiff, mm_rv_s, mm_rv_n, true_and, and_true, if_true, if_false, not_true_eq_false, not_false_eq_true, nI_add, nz_0, nz_lt0, nz_0le, nz_0lt, nz_le0, nz_lt, nz_le, nz_eq, nz_cl, nz_in, nz_sub, nz_m1, pk_mul, set_o, set_ne, up_ne, up_set, n1_1, true_or, or_true, n1_01, n0_01, bI_01, bI_01b, bI_0, isSc1, isSc3, isSc5, ln_2, ln_4, ln_6, ln_8, ln_10, ln_11, ln_12, ln_13, ln_14, ln_16, ln_17, ln_18, ln_19, ln_20, ln_21, ln_23, ln_24, ln_25, ln_27, ln_28, ln_29, ln_31, ln_32, ln_33, ln_35, ln_36, ln_37]
  refine (g_packed (s := (c, b, 1, 0, 0, 0)) hs hb).trans ?_
  simp (disch := first | assumption | exact isSc1 | exact isSc3 | exact isSc5 | decide | omega) only [iX4_hold_0, iX4_hold_1, iX4_hold_2, iX4_hold_3, iX4_hold_4, iX4_hold_5, iX4_hold_6, iX4_hold_7, iX4_hold_10, Nat.reduceAdd, Nat.reduceSub, Nat.reduceMul, Nat.reduceLeDiff, mm_rv_s, mm_rv_n, true_and, and_true, if_true, if_false, not_true_eq_false, not_false_eq_true, nI_add, nz_0, nz_lt0, nz_0le, nz_0lt, nz_le0, nz_lt, nz_le, nz_eq, nz_cl, nz_in, nz_sub, nz_m1, pk_mul, set_o, set_ne, up_ne, up_set, n1_1, true_or, or_true, n1_01, n0_01, bI_01, bI_01b, bI_0, isSc1, isSc3, isSc5, ln_2, ln_4, ln_6, ln_8, ln_10, ln_11, ln_12, ln_13, ln_14, ln_16, ln_17, ln_18, ln_19, ln_20, ln_21, ln_23, ln_24, ln_25, ln_27, ln_28, ln_29, ln_31, ln_32, ln_33, ln_35, ln_36, ln_37]
theorem g_turn {c b l : Nat} {a : Int} (hs : okS (c, b, 2, l, a, 0)) (hb : b < 128) : wc 30 [.inl (nI c), .inl (nI b), .inl (nI l), .inl (iZ a)] M Q ↔ Q (some (nI (pk (c, b, 2, l, a, 0)))) M := by
  simp (disch := first | assumption | exact isSc1 | exact isSc3 | exact isSc5 | decide | omega) only [eX4_turn, iX4_turn_0, iX4_turn_1, iX4_turn_2, iX4_turn_3, iX4_turn_4, iX4_turn_5, iX4_turn_6, iX4_turn_7, iX4_turn_10, Nat.reduceAdd, Nat.reduceSub, Nat.reduceMul, Nat.reduceLeDiff, mm_rv_s, mm_rv_n, true_and, and_true, if_true, if_false, not_true_eq_false, not_false_eq_true, nI_add, nz_0, nz_lt0, nz_0le, nz_0lt, nz_le0, nz_lt, nz_le, nz_eq, nz_cl, nz_in, nz_sub, nz_m1, pk_mul, set_o, set_ne, up_ne, up_set, n1_1, true_or, or_true, n1_01, n0_01, bI_01, bI_01b, bI_0, isSc1, isSc3, isSc5, ln_2, ln_4, ln_6, ln_8, ln_10, ln_11, ln_12, ln_13, ln_14, ln_16, ln_17, ln_18, ln_19, ln_20, ln_21, ln_23, ln_24, ln_25, ln_27, ln_28, ln_29, ln_31, ln_32, ln_33, ln_35, ln_36, ln_37]
  refine (g_packed (s := (c, b, 2, l, a, 0)) hs hb).trans ?_
  simp (disch := first | assumption | exact isSc1 | exact isSc3 | exact isSc5 | decide | omega) only [iX4_turn_0, iX4_turn_1, iX4_turn_2, iX4_turn_3, iX4_turn_4, iX4_turn_5, iX4_turn_6, iX4_turn_7, iX4_turn_10, Nat.reduceAdd, Nat.reduceSub, Nat.reduceMul, Nat.reduceLeDiff, mm_rv_s, mm_rv_n, true_and, and_true, if_true, if_false, not_true_eq_false, not_false_eq_true, nI_add, nz_0, nz_lt0, nz_0le, nz_0lt, nz_le0, nz_lt, nz_le, nz_eq, nz_cl, nz_in, nz_sub, nz_m1, pk_mul, set_o, set_ne, up_ne, up_set, n1_1, true_or, or_true, n1_01, n0_01, bI_01, bI_01b, bI_0, isSc1, isSc3, isSc5, ln_2, ln_4, ln_6, ln_8, ln_10, ln_11, ln_12, ln_13, ln_14, ln_16, ln_17, ln_18, ln_19, ln_20, ln_21, ln_23, ln_24, ln_25, ln_27, ln_28, ln_29, ln_31, ln_32, ln_33, ln_35, ln_36, ln_37]
theorem g_release {c b l : Nat} (hs : okS (c, b, 3, l, 0, 0)) (hb : b < 128) : wc 31 [.inl (nI c), .inl (nI b), .inl (nI l)] M Q ↔ Q (some (nI (pk (c, b, 3, l, 0, 0)))) M := by
  simp (disch := first | assumption | exact isSc1 | exact isSc3 | exact isSc5 | decide | omega) only [eX4_release, iX4_release_0, iX4_release_1, iX4_release_2, iX4_release_3, iX4_release_4, iX4_release_5, iX4_release_6, iX4_release_7, iX4_release_10, Nat.reduceAdd, Nat.reduceSub, Nat.reduceMul, Nat.reduceLeDiff, mm_rv_s, mm_rv_n, true_and, and_true, if_true, if_false, not_true_eq_false, not_false_eq_true, nI_add, nz_0, nz_lt0, nz_0le, nz_0lt, nz_le0, nz_lt, nz_le, nz_eq, nz_cl, nz_in, nz_sub, nz_m1, pk_mul, set_o, set_ne, up_ne, up_set, n1_1, true_or, or_true, n1_01, n0_01, bI_01, bI_01b, bI_0, isSc1, isSc3, isSc5, ln_2, ln_4, ln_6, ln_8, ln_10, ln_11, ln_12, ln_13, ln_14, ln_16, ln_17, ln_18, ln_19, ln_20, ln_21, ln_23, ln_24, ln_25, ln_27, ln_28, ln_29, ln_31, ln_32, ln_33, ln_35, ln_36, ln_37]
  refine (g_packed (s := (c, b, 3, l, 0, 0)) hs hb).trans ?_
  simp (disch := first | assumption | exact isSc1 | exact isSc3 | exact isSc5 | decide | omega) only [iX4_release_0, iX4_release_1, iX4_release_2, iX4_release_3, iX4_release_4, iX4_release_5, iX4_release_6, iX4_release_7, iX4_release_10, Nat.reduceAdd, Nat.reduceSub, Nat.reduceMul, Nat.reduceLeDiff, mm_rv_s, mm_rv_n, true_and, and_true, if_true, if_false, not_true_eq_false, not_false_eq_true, nI_add, nz_0, nz_lt0, nz_0le, nz_0lt, nz_le0, nz_lt, nz_le, nz_eq, nz_cl, nz_in, nz_sub, nz_m1, pk_mul, set_o, set_ne, up_ne, up_set, n1_1, true_or, or_true, n1_01, n0_01, bI_01, bI_01b, bI_0, isSc1, isSc3, isSc5, ln_2, ln_4, ln_6, ln_8, ln_10, ln_11, ln_12, ln_13, ln_14, ln_16, ln_17, ln_18, ln_19, ln_20, ln_21, ln_23, ln_24, ln_25, ln_27, ln_28, ln_29, ln_31, ln_32, ln_33, ln_35, ln_36, ln_37]
theorem span_nat {a b : Int32} (hB : 1 ≤ B) (hB2 : B ≤ 48) (h1 : (nI 0 ≤ a ∧ a ≤ nI B - nI 1) ∧ (nI 1 ≤ b ∧ b ≤ nI B - a)) : ∃ x y : Nat, a = nI x ∧ b = nI y ∧ x < B ∧ 1 ≤ y ∧ x + y ≤ B := by
  obtain ⟨⟨h1, h2⟩, h3, h4⟩ := h1
  rw [sub_one hB] at h2
  obtain ⟨x, rfl, -, hx⟩ := in_nat h1 h2 (by decide) (by omega)
  rw [nz_sub _ _ (by omega)] at h4
  obtain ⟨y, rfl, hy1, hy2⟩ := in_nat h3 h4 (by decide) (by omega)
  exact ⟨x, y, rfl, rfl, by omega, hy1, by omega⟩
theorem p_addMove (x0 : M 1 0 = nI B) (a1 a2 a3 a4 a5 : Int32) (h1 : ¬ ((nI 0 ≤ a1 ∧ a1 ≤ nI 5) ∧ ((nI 0 ≤ a2 ∧ a2 ≤ nI B - nI 1) ∧ (nI 1 ≤ a3 ∧ a3 ≤ nI B - a2)) ∧ (nI 0 ≤ a4 ∧ a4 ≤ nI 8) ∧ (nI 0 ≤ a5 ∧ a5 ≤ nI 2)) → Q (some (-1001)) M) (h2 : ((nI 0 ≤ a1 ∧ a1 ≤ nI 5) ∧ ((nI 0 ≤ a2 ∧ a2 ≤ nI B - nI 1) ∧ (nI 1 ≤ a3 ∧ a3 ≤ nI B - a2)) ∧ (nI 0 ≤ a4 ∧ a4 ≤ nI 8) ∧ (nI 0 ≤ a5 ∧ a5 ≤ nI 2)) → wc 28 [.inl a1, .inl a2, .inl a3, .inl a4, .inl a5] M (fun r M1 => ∃ v, r = some v ∧ wc 95 [.inr 0, .inl v] M1 (fun r M2 => ∃ v, r = some v ∧ Q (some v) M2))) : wc 63 [.inr 0, .inl a1, .inl a2, .inl a3, .inl a4, .inl a5] M Q := by
  simp (disch := first | assumption | exact isSc1 | exact isSc3 | exact isSc5 | decide | omega) only [eX7_addMove, iX7_addMove_0, iX7_addMove_1, iX7_addMove_2, iX7_addMove_3, iX7_addMove_6, iX7_addMove_9, iX7_addMove_10, iX7_addMove_11, iX7_addMove_12, iX7_addMove_15, iX7_addMove_18, iX7_addMove_20, iX7_addMove_21, iX7_addMove_23, iX7_addMove_26, iX7_addMove_29, iX7_addMove_31, iX7_addMove_32, iX7_addMove_33, iX7_addMove_36, iX7_addMove_39, iX7_addMove_42, iX7_addMove_43, iX7_addMove_44, iX7_addMove_45, iX7_addMove_46, iX7_addMove_47, iX7_addMove_49, iX7_addMove_51, iX7_addMove_54, iX7_addMove_57, Nat.reduceAdd, Nat.reduceSub, Nat.reduceMul, Nat.reduceLeDiff, mm_rv_s, mm_rv_n, true_and, and_true, if_true, if_false, not_true_eq_false, not_false_eq_true, nI_add, nz_0, nz_lt0, nz_0le, nz_0lt, nz_le0, nz_lt, nz_le, nz_eq, nz_cl, nz_in, nz_sub, nz_m1, pk_mul, set_o, set_ne, up_ne, up_set, n1_1, true_or, or_true, n1_01, n0_01, bI_01, bI_01b, bI_0, isSc1, isSc3, isSc5, ln_2, ln_4, ln_6, ln_8, ln_10, ln_11, ln_12, ln_13, ln_14, ln_16, ln_17, ln_18, ln_19, ln_20, ln_21, ln_23, ln_24, ln_25, ln_27, ln_28, ln_29, ln_31, ln_32, ln_33, ln_35, ln_36, ln_37, p_isColumn, p_isSpan, p_isWithin, p_isBeat, x0]
  by_cases c1 : (nI 0 ≤ a1 ∧ a1 ≤ nI 5)
  · skip
    by_cases c2 : ((nI 0 ≤ a2 ∧ a2 ≤ nI B - nI 1) ∧ (nI 1 ≤ a3 ∧ a3 ≤ nI B - a2))
    · skip
      by_cases c3 : (nI 0 ≤ a4 ∧ a4 ≤ nI 8)
      · skip
        by_cases c4 : (nI 0 ≤ a5 ∧ a5 ≤ nI 2)
        · simp only [c1, c2, c3, c4, and_self, decide_true, Bool.true_eq_false, not_false_eq_true, not_true_eq_false, if_true, if_false]
          refine wc_mono (h2 ⟨c1, c2, c3, c4⟩) (fun r M1 h => ?_)
          obtain ⟨v, rfl, h⟩ := h
          simp (disch := first | assumption | exact isSc1 | exact isSc3 | exact isSc5 | decide | omega) only [iX7_addMove_0, iX7_addMove_1, iX7_addMove_2, iX7_addMove_3, iX7_addMove_6, iX7_addMove_9, iX7_addMove_10, iX7_addMove_11, iX7_addMove_12, iX7_addMove_15, iX7_addMove_18, iX7_addMove_20, iX7_addMove_21, iX7_addMove_23, iX7_addMove_26, iX7_addMove_29, iX7_addMove_31, iX7_addMove_32, iX7_addMove_33, iX7_addMove_36, iX7_addMove_39, iX7_addMove_42, iX7_addMove_43, iX7_addMove_44, iX7_addMove_45, iX7_addMove_46, iX7_addMove_47, iX7_addMove_49, iX7_addMove_51, iX7_addMove_54, iX7_addMove_57, Nat.reduceAdd, Nat.reduceSub, Nat.reduceMul, Nat.reduceLeDiff, mm_rv_s, mm_rv_n, true_and, and_true, if_true, if_false, not_true_eq_false, not_false_eq_true, nI_add, nz_0, nz_lt0, nz_0le, nz_0lt, nz_le0, nz_lt, nz_le, nz_eq, nz_cl, nz_in, nz_sub, nz_m1, pk_mul, set_o, set_ne, up_ne, up_set, n1_1, true_or, or_true, n1_01, n0_01, bI_01, bI_01b, bI_0, isSc1, isSc3, isSc5, ln_2, ln_4, ln_6, ln_8, ln_10, ln_11, ln_12, ln_13, ln_14, ln_16, ln_17, ln_18, ln_19, ln_20, ln_21, ln_23, ln_24, ln_25, ln_27, ln_28, ln_29, ln_31, ln_32, ln_33, ln_35, ln_36, ln_37]
          refine wc_mono h (fun r M2 h => ?_)
          obtain ⟨v, rfl, h⟩ := h
          simp (disch := first | assumption | exact isSc1 | exact isSc3 | exact isSc5 | decide | omega) only [iX7_addMove_0, iX7_addMove_1, iX7_addMove_2, iX7_addMove_3, iX7_addMove_6, iX7_addMove_9, iX7_addMove_10, iX7_addMove_11, iX7_addMove_12, iX7_addMove_15, iX7_addMove_18, iX7_addMove_20, iX7_addMove_21, iX7_addMove_23, iX7_addMove_26, iX7_addMove_29, iX7_addMove_31, iX7_addMove_32, iX7_addMove_33, iX7_addMove_36, iX7_addMove_39, iX7_addMove_42, iX7_addMove_43, iX7_addMove_44, iX7_addMove_45, iX7_addMove_46, iX7_addMove_47, iX7_addMove_49, iX7_addMove_51, iX7_addMove_54, iX7_addMove_57, Nat.reduceAdd, Nat.reduceSub, Nat.reduceMul, Nat.reduceLeDiff, mm_rv_s, mm_rv_n, true_and, and_true, if_true, if_false, not_true_eq_false, not_false_eq_true, nI_add, nz_0, nz_lt0, nz_0le, nz_0lt, nz_le0, nz_lt, nz_le, nz_eq, nz_cl, nz_in, nz_sub, nz_m1, pk_mul, set_o, set_ne, up_ne, up_set, n1_1, true_or, or_true, n1_01, n0_01, bI_01, bI_01b, bI_0, isSc1, isSc3, isSc5, ln_2, ln_4, ln_6, ln_8, ln_10, ln_11, ln_12, ln_13, ln_14, ln_16, ln_17, ln_18, ln_19, ln_20, ln_21, ln_23, ln_24, ln_25, ln_27, ln_28, ln_29, ln_31, ln_32, ln_33, ln_35, ln_36, ln_37]
          exact h
        · simp only [c1, c2, c3, c4, and_self, decide_true, decide_false, Bool.true_eq_false, not_false_eq_true, not_true_eq_false, if_true, if_false]
          exact h1 (fun z => c4 z.2.2.2)
      · simp only [c1, c2, c3, and_self, decide_true, decide_false, Bool.true_eq_false, not_false_eq_true, not_true_eq_false, if_true, if_false]
        exact h1 (fun z => c3 z.2.2.1)
    · simp only [c1, c2, and_self, decide_true, decide_false, Bool.true_eq_false, not_false_eq_true, not_true_eq_false, if_true, if_false]
      exact h1 (fun z => c2 z.2.1)
  · simp only [c1, and_self, decide_true, decide_false, Bool.true_eq_false, not_false_eq_true, not_true_eq_false, if_true, if_false]
    exact h1 (fun z => c1 z.1)
theorem m_addMove (x0 : M 31 0 = nI B) (a1 a2 a3 a4 a5 : Int32) (h1 : ¬ ((nI 0 ≤ a1 ∧ a1 ≤ nI 5) ∧ ((nI 0 ≤ a2 ∧ a2 ≤ nI B - nI 1) ∧ (nI 1 ≤ a3 ∧ a3 ≤ nI B - a2)) ∧ (nI 0 ≤ a4 ∧ a4 ≤ nI 8) ∧ (nI 0 ≤ a5 ∧ a5 ≤ nI 2)) → Q (some (-1001)) M) (h2 : ((nI 0 ≤ a1 ∧ a1 ≤ nI 5) ∧ ((nI 0 ≤ a2 ∧ a2 ≤ nI B - nI 1) ∧ (nI 1 ≤ a3 ∧ a3 ≤ nI B - a2)) ∧ (nI 0 ≤ a4 ∧ a4 ≤ nI 8) ∧ (nI 0 ≤ a5 ∧ a5 ≤ nI 2)) → wc 109 [.inr 30, .inl a1, .inl a2, .inl (nI 0), .inl a3, .inl a4, .inl a5] M (fun r M2 => ∃ v, r = some v ∧ Q (some v) M2)) : wc 112 [.inr 30, .inl a1, .inl a2, .inl a3, .inl a4, .inl a5] M Q := by
  simp (disch := first | assumption | exact isSc1 | exact isSc3 | exact isSc5 | decide | omega) only [eX8_addMove, iX8_addMove_0, iX8_addMove_1, iX8_addMove_2, iX8_addMove_3, iX8_addMove_6, iX8_addMove_9, iX8_addMove_10, iX8_addMove_11, iX8_addMove_12, iX8_addMove_15, iX8_addMove_18, iX8_addMove_20, iX8_addMove_21, iX8_addMove_23, iX8_addMove_26, iX8_addMove_29, iX8_addMove_31, iX8_addMove_32, iX8_addMove_33, iX8_addMove_36, iX8_addMove_39, iX8_addMove_42, iX8_addMove_43, iX8_addMove_44, iX8_addMove_45, iX8_addMove_46, iX8_addMove_47, iX8_addMove_48, iX8_addMove_50, iX8_addMove_52, iX8_addMove_55, Nat.reduceAdd, Nat.reduceSub, Nat.reduceMul, Nat.reduceLeDiff, mm_rv_s, mm_rv_n, true_and, and_true, if_true, if_false, not_true_eq_false, not_false_eq_true, nI_add, nz_0, nz_lt0, nz_0le, nz_0lt, nz_le0, nz_lt, nz_le, nz_eq, nz_cl, nz_in, nz_sub, nz_m1, pk_mul, set_o, set_ne, up_ne, up_set, n1_1, true_or, or_true, n1_01, n0_01, bI_01, bI_01b, bI_0, isSc1, isSc3, isSc5, ln_2, ln_4, ln_6, ln_8, ln_10, ln_11, ln_12, ln_13, ln_14, ln_16, ln_17, ln_18, ln_19, ln_20, ln_21, ln_23, ln_24, ln_25, ln_27, ln_28, ln_29, ln_31, ln_32, ln_33, ln_35, ln_36, ln_37, p_isColumnM, m_isSpan, p_in, p_isBeatM, x0]
  by_cases c1 : (nI 0 ≤ a1 ∧ a1 ≤ nI 5)
  · skip
    by_cases c2 : ((nI 0 ≤ a2 ∧ a2 ≤ nI B - nI 1) ∧ (nI 1 ≤ a3 ∧ a3 ≤ nI B - a2))
    · skip
      by_cases c3 : (nI 0 ≤ a4 ∧ a4 ≤ nI 8)
      · skip
        by_cases c4 : (nI 0 ≤ a5 ∧ a5 ≤ nI 2)
        · simp only [c1, c2, c3, c4, and_self, decide_true, Bool.true_eq_false, not_false_eq_true, not_true_eq_false, if_true, if_false]
          refine wc_mono (h2 ⟨c1, c2, c3, c4⟩) (fun r M1 h => ?_)
          obtain ⟨v, rfl, h⟩ := h
          simp (disch := first | assumption | exact isSc1 | exact isSc3 | exact isSc5 | decide | omega) only [iX8_addMove_0, iX8_addMove_1, iX8_addMove_2, iX8_addMove_3, iX8_addMove_6, iX8_addMove_9, iX8_addMove_10, iX8_addMove_11, iX8_addMove_12, iX8_addMove_15, iX8_addMove_18, iX8_addMove_20, iX8_addMove_21, iX8_addMove_23, iX8_addMove_26, iX8_addMove_29, iX8_addMove_31, iX8_addMove_32, iX8_addMove_33, iX8_addMove_36, iX8_addMove_39, iX8_addMove_42, iX8_addMove_43, iX8_addMove_44, iX8_addMove_45, iX8_addMove_46, iX8_addMove_47, iX8_addMove_48, iX8_addMove_50, iX8_addMove_52, iX8_addMove_55, Nat.reduceAdd, Nat.reduceSub, Nat.reduceMul, Nat.reduceLeDiff, mm_rv_s, mm_rv_n, true_and, and_true, if_true, if_false, not_true_eq_false, not_false_eq_true, nI_add, nz_0, nz_lt0, nz_0le, nz_0lt, nz_le0, nz_lt, nz_le, nz_eq, nz_cl, nz_in, nz_sub, nz_m1, pk_mul, set_o, set_ne, up_ne, up_set, n1_1, true_or, or_true, n1_01, n0_01, bI_01, bI_01b, bI_0, isSc1, isSc3, isSc5, ln_2, ln_4, ln_6, ln_8, ln_10, ln_11, ln_12, ln_13, ln_14, ln_16, ln_17, ln_18, ln_19, ln_20, ln_21, ln_23, ln_24, ln_25, ln_27, ln_28, ln_29, ln_31, ln_32, ln_33, ln_35, ln_36, ln_37]
          exact h
        · simp only [c1, c2, c3, c4, and_self, decide_true, decide_false, Bool.true_eq_false, not_false_eq_true, not_true_eq_false, if_true, if_false]
          exact h1 (fun z => c4 z.2.2.2)
      · simp only [c1, c2, c3, and_self, decide_true, decide_false, Bool.true_eq_false, not_false_eq_true, not_true_eq_false, if_true, if_false]
        exact h1 (fun z => c3 z.2.2.1)
    · simp only [c1, c2, and_self, decide_true, decide_false, Bool.true_eq_false, not_false_eq_true, not_true_eq_false, if_true, if_false]
      exact h1 (fun z => c2 z.2.1)
  · simp only [c1, and_self, decide_true, decide_false, Bool.true_eq_false, not_false_eq_true, not_true_eq_false, if_true, if_false]
    exact h1 (fun z => c1 z.1)
theorem p_addHold (x0 : M 1 0 = nI B) (a1 a2 : Int32) (h1 : ¬ ((nI 0 ≤ a1 ∧ a1 ≤ nI 6) ∧ (nI 0 ≤ a2 ∧ a2 ≤ nI B - nI 1)) → Q (some (-1001)) M) (h2 : ((nI 0 ≤ a1 ∧ a1 ≤ nI 6) ∧ (nI 0 ≤ a2 ∧ a2 ≤ nI B - nI 1)) → wc 29 [.inl a1, .inl a2] M (fun r M1 => ∃ v, r = some v ∧ wc 95 [.inr 0, .inl v] M1 (fun r M2 => ∃ v, r = some v ∧ Q (some v) M2))) : wc 64 [.inr 0, .inl a1, .inl a2] M Q := by
  simp (disch := first | assumption | exact isSc1 | exact isSc3 | exact isSc5 | decide | omega) only [eX7_addHold, iX7_addHold_0, iX7_addHold_1, iX7_addHold_4, iX7_addHold_7, iX7_addHold_8, iX7_addHold_9, iX7_addHold_12, iX7_addHold_15, iX7_addHold_18, iX7_addHold_19, iX7_addHold_20, iX7_addHold_21, iX7_addHold_22, iX7_addHold_25, iX7_addHold_28, Nat.reduceAdd, Nat.reduceSub, Nat.reduceMul, Nat.reduceLeDiff, mm_rv_s, mm_rv_n, true_and, and_true, if_true, if_false, not_true_eq_false, not_false_eq_true, nI_add, nz_0, nz_lt0, nz_0le, nz_0lt, nz_le0, nz_lt, nz_le, nz_eq, nz_cl, nz_in, nz_sub, nz_m1, pk_mul, set_o, set_ne, up_ne, up_set, n1_1, true_or, or_true, n1_01, n0_01, bI_01, bI_01b, bI_0, isSc1, isSc3, isSc5, ln_2, ln_4, ln_6, ln_8, ln_10, ln_11, ln_12, ln_13, ln_14, ln_16, ln_17, ln_18, ln_19, ln_20, ln_21, ln_23, ln_24, ln_25, ln_27, ln_28, ln_29, ln_31, ln_32, ln_33, ln_35, ln_36, ln_37, p_isColumn, p_isSpan, p_isWithin, p_isBeat, x0]
  by_cases c1 : (nI 0 ≤ a1 ∧ a1 ≤ nI 6)
  · skip
    by_cases c2 : (nI 0 ≤ a2 ∧ a2 ≤ nI B - nI 1)
    · simp only [c1, c2, and_self, decide_true, Bool.true_eq_false, not_false_eq_true, not_true_eq_false, if_true, if_false]
      refine wc_mono (h2 ⟨c1, c2⟩) (fun r M1 h => ?_)
      obtain ⟨v, rfl, h⟩ := h
      simp (disch := first | assumption | exact isSc1 | exact isSc3 | exact isSc5 | decide | omega) only [iX7_addHold_0, iX7_addHold_1, iX7_addHold_4, iX7_addHold_7, iX7_addHold_8, iX7_addHold_9, iX7_addHold_12, iX7_addHold_15, iX7_addHold_18, iX7_addHold_19, iX7_addHold_20, iX7_addHold_21, iX7_addHold_22, iX7_addHold_25, iX7_addHold_28, Nat.reduceAdd, Nat.reduceSub, Nat.reduceMul, Nat.reduceLeDiff, mm_rv_s, mm_rv_n, true_and, and_true, if_true, if_false, not_true_eq_false, not_false_eq_true, nI_add, nz_0, nz_lt0, nz_0le, nz_0lt, nz_le0, nz_lt, nz_le, nz_eq, nz_cl, nz_in, nz_sub, nz_m1, pk_mul, set_o, set_ne, up_ne, up_set, n1_1, true_or, or_true, n1_01, n0_01, bI_01, bI_01b, bI_0, isSc1, isSc3, isSc5, ln_2, ln_4, ln_6, ln_8, ln_10, ln_11, ln_12, ln_13, ln_14, ln_16, ln_17, ln_18, ln_19, ln_20, ln_21, ln_23, ln_24, ln_25, ln_27, ln_28, ln_29, ln_31, ln_32, ln_33, ln_35, ln_36, ln_37]
      refine wc_mono h (fun r M2 h => ?_)
      obtain ⟨v, rfl, h⟩ := h
      simp (disch := first | assumption | exact isSc1 | exact isSc3 | exact isSc5 | decide | omega) only [iX7_addHold_0, iX7_addHold_1, iX7_addHold_4, iX7_addHold_7, iX7_addHold_8, iX7_addHold_9, iX7_addHold_12, iX7_addHold_15, iX7_addHold_18, iX7_addHold_19, iX7_addHold_20, iX7_addHold_21, iX7_addHold_22, iX7_addHold_25, iX7_addHold_28, Nat.reduceAdd, Nat.reduceSub, Nat.reduceMul, Nat.reduceLeDiff, mm_rv_s, mm_rv_n, true_and, and_true, if_true, if_false, not_true_eq_false, not_false_eq_true, nI_add, nz_0, nz_lt0, nz_0le, nz_0lt, nz_le0, nz_lt, nz_le, nz_eq, nz_cl, nz_in, nz_sub, nz_m1, pk_mul, set_o, set_ne, up_ne, up_set, n1_1, true_or, or_true, n1_01, n0_01, bI_01, bI_01b, bI_0, isSc1, isSc3, isSc5, ln_2, ln_4, ln_6, ln_8, ln_10, ln_11, ln_12, ln_13, ln_14, ln_16, ln_17, ln_18, ln_19, ln_20, ln_21, ln_23, ln_24, ln_25, ln_27, ln_28, ln_29, ln_31, ln_32, ln_33, ln_35, ln_36, ln_37]
      exact h
    · simp only [c1, c2, and_self, decide_true, decide_false, Bool.true_eq_false, not_false_eq_true, not_true_eq_false, if_true, if_false]
      exact h1 (fun z => c2 z.2)
  · simp only [c1, and_self, decide_true, decide_false, Bool.true_eq_false, not_false_eq_true, not_true_eq_false, if_true, if_false]
    exact h1 (fun z => c1 z.1)
theorem m_addHold (x0 : M 31 0 = nI B) (a1 a2 : Int32) (h1 : ¬ ((nI 0 ≤ a1 ∧ a1 ≤ nI 6) ∧ (nI 0 ≤ a2 ∧ a2 ≤ nI B - nI 1)) → Q (some (-1001)) M) (h2 : ((nI 0 ≤ a1 ∧ a1 ≤ nI 6) ∧ (nI 0 ≤ a2 ∧ a2 ≤ nI B - nI 1)) → wc 109 [.inr 30, .inl a1, .inl a2, .inl (nI 1), .inl (nI 0), .inl (nI 0), .inl (nI 0)] M (fun r M2 => ∃ v, r = some v ∧ Q (some v) M2)) : wc 113 [.inr 30, .inl a1, .inl a2] M Q := by
  simp (disch := first | assumption | exact isSc1 | exact isSc3 | exact isSc5 | decide | omega) only [eX8_addHold, iX8_addHold_0, iX8_addHold_1, iX8_addHold_4, iX8_addHold_7, iX8_addHold_8, iX8_addHold_9, iX8_addHold_12, iX8_addHold_15, iX8_addHold_16, iX8_addHold_17, iX8_addHold_18, iX8_addHold_19, iX8_addHold_20, iX8_addHold_21, iX8_addHold_22, iX8_addHold_25, iX8_addHold_28, iX8_addHold_31, Nat.reduceAdd, Nat.reduceSub, Nat.reduceMul, Nat.reduceLeDiff, mm_rv_s, mm_rv_n, true_and, and_true, if_true, if_false, not_true_eq_false, not_false_eq_true, nI_add, nz_0, nz_lt0, nz_0le, nz_0lt, nz_le0, nz_lt, nz_le, nz_eq, nz_cl, nz_in, nz_sub, nz_m1, pk_mul, set_o, set_ne, up_ne, up_set, n1_1, true_or, or_true, n1_01, n0_01, bI_01, bI_01b, bI_0, isSc1, isSc3, isSc5, ln_2, ln_4, ln_6, ln_8, ln_10, ln_11, ln_12, ln_13, ln_14, ln_16, ln_17, ln_18, ln_19, ln_20, ln_21, ln_23, ln_24, ln_25, ln_27, ln_28, ln_29, ln_31, ln_32, ln_33, ln_35, ln_36, ln_37, p_isColumnM, m_isSpan, p_in, p_isBeatM, x0]
  by_cases c1 : (nI 0 ≤ a1 ∧ a1 ≤ nI 6)
  · skip
    by_cases c2 : (nI 0 ≤ a2 ∧ a2 ≤ nI B - nI 1)
    · simp only [c1, c2, and_self, decide_true, Bool.true_eq_false, not_false_eq_true, not_true_eq_false, if_true, if_false]
      refine wc_mono (h2 ⟨c1, c2⟩) (fun r M1 h => ?_)
      obtain ⟨v, rfl, h⟩ := h
      simp (disch := first | assumption | exact isSc1 | exact isSc3 | exact isSc5 | decide | omega) only [iX8_addHold_0, iX8_addHold_1, iX8_addHold_4, iX8_addHold_7, iX8_addHold_8, iX8_addHold_9, iX8_addHold_12, iX8_addHold_15, iX8_addHold_16, iX8_addHold_17, iX8_addHold_18, iX8_addHold_19, iX8_addHold_20, iX8_addHold_21, iX8_addHold_22, iX8_addHold_25, iX8_addHold_28, iX8_addHold_31, Nat.reduceAdd, Nat.reduceSub, Nat.reduceMul, Nat.reduceLeDiff, mm_rv_s, mm_rv_n, true_and, and_true, if_true, if_false, not_true_eq_false, not_false_eq_true, nI_add, nz_0, nz_lt0, nz_0le, nz_0lt, nz_le0, nz_lt, nz_le, nz_eq, nz_cl, nz_in, nz_sub, nz_m1, pk_mul, set_o, set_ne, up_ne, up_set, n1_1, true_or, or_true, n1_01, n0_01, bI_01, bI_01b, bI_0, isSc1, isSc3, isSc5, ln_2, ln_4, ln_6, ln_8, ln_10, ln_11, ln_12, ln_13, ln_14, ln_16, ln_17, ln_18, ln_19, ln_20, ln_21, ln_23, ln_24, ln_25, ln_27, ln_28, ln_29, ln_31, ln_32, ln_33, ln_35, ln_36, ln_37]
      exact h
    · simp only [c1, c2, and_self, decide_true, decide_false, Bool.true_eq_false, not_false_eq_true, not_true_eq_false, if_true, if_false]
      exact h1 (fun z => c2 z.2)
  · simp only [c1, and_self, decide_true, decide_false, Bool.true_eq_false, not_false_eq_true, not_true_eq_false, if_true, if_false]
    exact h1 (fun z => c1 z.1)
theorem p_addTurn (x0 : M 1 0 = nI B) (a1 a2 a3 : Int32) (h1 : ¬ (((nI 0 ≤ a1 ∧ a1 ≤ nI B - nI 1) ∧ (nI 1 ≤ a2 ∧ a2 ≤ nI B - a1)) ∧ ((-8 : Int32) ≤ a3 ∧ a3 ≤ nI 8) ∧ ¬ a3 = 0) → Q (some (-1001)) M) (h2 : (((nI 0 ≤ a1 ∧ a1 ≤ nI B - nI 1) ∧ (nI 1 ≤ a2 ∧ a2 ≤ nI B - a1)) ∧ ((-8 : Int32) ≤ a3 ∧ a3 ≤ nI 8) ∧ ¬ a3 = 0) → wc 30 [.inl (nI 6), .inl a1, .inl a2, .inl a3] M (fun r M1 => ∃ v, r = some v ∧ wc 95 [.inr 0, .inl v] M1 (fun r M2 => ∃ v, r = some v ∧ Q (some v) M2))) : wc 65 [.inr 0, .inl a1, .inl a2, .inl a3] M Q := by
  simp (disch := first | assumption | exact isSc1 | exact isSc3 | exact isSc5 | decide | omega) only [eX7_addTurn, iX7_addTurn_0, iX7_addTurn_1, iX7_addTurn_2, iX7_addTurn_3, iX7_addTurn_6, iX7_addTurn_9, iX7_addTurn_10, iX7_addTurn_12, iX7_addTurn_14, iX7_addTurn_17, iX7_addTurn_20, iX7_addTurn_21, iX7_addTurn_24, iX7_addTurn_27, iX7_addTurn_28, iX7_addTurn_29, iX7_addTurn_31, iX7_addTurn_32, iX7_addTurn_33, iX7_addTurn_34, iX7_addTurn_37, iX7_addTurn_40, Nat.reduceAdd, Nat.reduceSub, Nat.reduceMul, Nat.reduceLeDiff, mm_rv_s, mm_rv_n, true_and, and_true, if_true, if_false, not_true_eq_false, not_false_eq_true, nI_add, nz_0, nz_lt0, nz_0le, nz_0lt, nz_le0, nz_lt, nz_le, nz_eq, nz_cl, nz_in, nz_sub, nz_m1, pk_mul, set_o, set_ne, up_ne, up_set, n1_1, true_or, or_true, n1_01, n0_01, bI_01, bI_01b, bI_0, isSc1, isSc3, isSc5, ln_2, ln_4, ln_6, ln_8, ln_10, ln_11, ln_12, ln_13, ln_14, ln_16, ln_17, ln_18, ln_19, ln_20, ln_21, ln_23, ln_24, ln_25, ln_27, ln_28, ln_29, ln_31, ln_32, ln_33, ln_35, ln_36, ln_37, p_isColumn, p_isSpan, p_isWithin, p_isBeat, x0]
  by_cases c1 : ((nI 0 ≤ a1 ∧ a1 ≤ nI B - nI 1) ∧ (nI 1 ≤ a2 ∧ a2 ≤ nI B - a1))
  · skip
    by_cases c2 : ((-8 : Int32) ≤ a3 ∧ a3 ≤ nI 8)
    · skip
      by_cases c3 : ¬ a3 = 0
      · simp only [c1, c2, c3, and_self, decide_true, Bool.true_eq_false, not_false_eq_true, not_true_eq_false, if_true, if_false]
        refine wc_mono (h2 ⟨c1, c2, c3⟩) (fun r M1 h => ?_)
        obtain ⟨v, rfl, h⟩ := h
        simp (disch := first | assumption | exact isSc1 | exact isSc3 | exact isSc5 | decide | omega) only [iX7_addTurn_0, iX7_addTurn_1, iX7_addTurn_2, iX7_addTurn_3, iX7_addTurn_6, iX7_addTurn_9, iX7_addTurn_10, iX7_addTurn_12, iX7_addTurn_14, iX7_addTurn_17, iX7_addTurn_20, iX7_addTurn_21, iX7_addTurn_24, iX7_addTurn_27, iX7_addTurn_28, iX7_addTurn_29, iX7_addTurn_31, iX7_addTurn_32, iX7_addTurn_33, iX7_addTurn_34, iX7_addTurn_37, iX7_addTurn_40, Nat.reduceAdd, Nat.reduceSub, Nat.reduceMul, Nat.reduceLeDiff, mm_rv_s, mm_rv_n, true_and, and_true, if_true, if_false, not_true_eq_false, not_false_eq_true, nI_add, nz_0, nz_lt0, nz_0le, nz_0lt, nz_le0, nz_lt, nz_le, nz_eq, nz_cl, nz_in, nz_sub, nz_m1, pk_mul, set_o, set_ne, up_ne, up_set, n1_1, true_or, or_true, n1_01, n0_01, bI_01, bI_01b, bI_0, isSc1, isSc3, isSc5, ln_2, ln_4, ln_6, ln_8, ln_10, ln_11, ln_12, ln_13, ln_14, ln_16, ln_17, ln_18, ln_19, ln_20, ln_21, ln_23, ln_24, ln_25, ln_27, ln_28, ln_29, ln_31, ln_32, ln_33, ln_35, ln_36, ln_37]
        refine wc_mono h (fun r M2 h => ?_)
        obtain ⟨v, rfl, h⟩ := h
        simp (disch := first | assumption | exact isSc1 | exact isSc3 | exact isSc5 | decide | omega) only [iX7_addTurn_0, iX7_addTurn_1, iX7_addTurn_2, iX7_addTurn_3, iX7_addTurn_6, iX7_addTurn_9, iX7_addTurn_10, iX7_addTurn_12, iX7_addTurn_14, iX7_addTurn_17, iX7_addTurn_20, iX7_addTurn_21, iX7_addTurn_24, iX7_addTurn_27, iX7_addTurn_28, iX7_addTurn_29, iX7_addTurn_31, iX7_addTurn_32, iX7_addTurn_33, iX7_addTurn_34, iX7_addTurn_37, iX7_addTurn_40, Nat.reduceAdd, Nat.reduceSub, Nat.reduceMul, Nat.reduceLeDiff, mm_rv_s, mm_rv_n, true_and, and_true, if_true, if_false, not_true_eq_false, not_false_eq_true, nI_add, nz_0, nz_lt0, nz_0le, nz_0lt, nz_le0, nz_lt, nz_le, nz_eq, nz_cl, nz_in, nz_sub, nz_m1, pk_mul, set_o, set_ne, up_ne, up_set, n1_1, true_or, or_true, n1_01, n0_01, bI_01, bI_01b, bI_0, isSc1, isSc3, isSc5, ln_2, ln_4, ln_6, ln_8, ln_10, ln_11, ln_12, ln_13, ln_14, ln_16, ln_17, ln_18, ln_19, ln_20, ln_21, ln_23, ln_24, ln_25, ln_27, ln_28, ln_29, ln_31, ln_32, ln_33, ln_35, ln_36, ln_37]
        exact h
      · simp only [c1, c2, c3, and_self, decide_true, decide_false, Bool.true_eq_false, not_false_eq_true, not_true_eq_false, if_true, if_false]
        exact h1 (fun z => c3 z.2.2)
    · simp only [c1, c2, and_self, decide_true, decide_false, Bool.true_eq_false, not_false_eq_true, not_true_eq_false, if_true, if_false]
      exact h1 (fun z => c2 z.2.1)
  · simp only [c1, and_self, decide_true, decide_false, Bool.true_eq_false, not_false_eq_true, not_true_eq_false, if_true, if_false]
    exact h1 (fun z => c1 z.1)
theorem m_addTurn (x0 : M 31 0 = nI B) (a1 a2 a3 : Int32) (h1 : ¬ (((nI 0 ≤ a1 ∧ a1 ≤ nI B - nI 1) ∧ (nI 1 ≤ a2 ∧ a2 ≤ nI B - a1)) ∧ ((-8 : Int32) ≤ a3 ∧ a3 ≤ nI 8) ∧ ¬ a3 = 0) → Q (some (-1001)) M) (h2 : (((nI 0 ≤ a1 ∧ a1 ≤ nI B - nI 1) ∧ (nI 1 ≤ a2 ∧ a2 ≤ nI B - a1)) ∧ ((-8 : Int32) ≤ a3 ∧ a3 ≤ nI 8) ∧ ¬ a3 = 0) → wc 109 [.inr 30, .inl (nI 6), .inl a1, .inl (nI 2), .inl a2, .inl a3, .inl (nI 0)] M (fun r M2 => ∃ v, r = some v ∧ Q (some v) M2)) : wc 114 [.inr 30, .inl a1, .inl a2, .inl a3] M Q := by
  simp (disch := first | assumption | exact isSc1 | exact isSc3 | exact isSc5 | decide | omega) only [eX8_addTurn, iX8_addTurn_0, iX8_addTurn_1, iX8_addTurn_2, iX8_addTurn_3, iX8_addTurn_6, iX8_addTurn_9, iX8_addTurn_10, iX8_addTurn_12, iX8_addTurn_14, iX8_addTurn_17, iX8_addTurn_20, iX8_addTurn_21, iX8_addTurn_24, iX8_addTurn_25, iX8_addTurn_27, iX8_addTurn_28, iX8_addTurn_29, iX8_addTurn_30, iX8_addTurn_31, iX8_addTurn_32, iX8_addTurn_35, iX8_addTurn_38, iX8_addTurn_41, Nat.reduceAdd, Nat.reduceSub, Nat.reduceMul, Nat.reduceLeDiff, mm_rv_s, mm_rv_n, true_and, and_true, if_true, if_false, not_true_eq_false, not_false_eq_true, nI_add, nz_0, nz_lt0, nz_0le, nz_0lt, nz_le0, nz_lt, nz_le, nz_eq, nz_cl, nz_in, nz_sub, nz_m1, pk_mul, set_o, set_ne, up_ne, up_set, n1_1, true_or, or_true, n1_01, n0_01, bI_01, bI_01b, bI_0, isSc1, isSc3, isSc5, ln_2, ln_4, ln_6, ln_8, ln_10, ln_11, ln_12, ln_13, ln_14, ln_16, ln_17, ln_18, ln_19, ln_20, ln_21, ln_23, ln_24, ln_25, ln_27, ln_28, ln_29, ln_31, ln_32, ln_33, ln_35, ln_36, ln_37, p_isColumnM, m_isSpan, p_in, p_isBeatM, x0]
  by_cases c1 : ((nI 0 ≤ a1 ∧ a1 ≤ nI B - nI 1) ∧ (nI 1 ≤ a2 ∧ a2 ≤ nI B - a1))
  · skip
    by_cases c2 : ((-8 : Int32) ≤ a3 ∧ a3 ≤ nI 8)
    · skip
      by_cases c3 : ¬ a3 = 0
      · simp only [c1, c2, c3, and_self, decide_true, Bool.true_eq_false, not_false_eq_true, not_true_eq_false, if_true, if_false]
        refine wc_mono (h2 ⟨c1, c2, c3⟩) (fun r M1 h => ?_)
        obtain ⟨v, rfl, h⟩ := h
        simp (disch := first | assumption | exact isSc1 | exact isSc3 | exact isSc5 | decide | omega) only [iX8_addTurn_0, iX8_addTurn_1, iX8_addTurn_2, iX8_addTurn_3, iX8_addTurn_6, iX8_addTurn_9, iX8_addTurn_10, iX8_addTurn_12, iX8_addTurn_14, iX8_addTurn_17, iX8_addTurn_20, iX8_addTurn_21, iX8_addTurn_24, iX8_addTurn_25, iX8_addTurn_27, iX8_addTurn_28, iX8_addTurn_29, iX8_addTurn_30, iX8_addTurn_31, iX8_addTurn_32, iX8_addTurn_35, iX8_addTurn_38, iX8_addTurn_41, Nat.reduceAdd, Nat.reduceSub, Nat.reduceMul, Nat.reduceLeDiff, mm_rv_s, mm_rv_n, true_and, and_true, if_true, if_false, not_true_eq_false, not_false_eq_true, nI_add, nz_0, nz_lt0, nz_0le, nz_0lt, nz_le0, nz_lt, nz_le, nz_eq, nz_cl, nz_in, nz_sub, nz_m1, pk_mul, set_o, set_ne, up_ne, up_set, n1_1, true_or, or_true, n1_01, n0_01, bI_01, bI_01b, bI_0, isSc1, isSc3, isSc5, ln_2, ln_4, ln_6, ln_8, ln_10, ln_11, ln_12, ln_13, ln_14, ln_16, ln_17, ln_18, ln_19, ln_20, ln_21, ln_23, ln_24, ln_25, ln_27, ln_28, ln_29, ln_31, ln_32, ln_33, ln_35, ln_36, ln_37]
        exact h
      · simp only [c1, c2, c3, and_self, decide_true, decide_false, Bool.true_eq_false, not_false_eq_true, not_true_eq_false, if_true, if_false]
        rw [if_pos (Decidable.not_not.mp c3)]
        exact h1 (fun z => c3 z.2.2)
    · simp only [c1, c2, and_self, decide_true, decide_false, Bool.true_eq_false, not_false_eq_true, not_true_eq_false, if_true, if_false]
      exact h1 (fun z => c2 z.2.1)
  · simp only [c1, and_self, decide_true, decide_false, Bool.true_eq_false, not_false_eq_true, not_true_eq_false, if_true, if_false]
    exact h1 (fun z => c1 z.1)
theorem p_addRelease (x0 : M 1 0 = nI B) (a1 a2 a3 : Int32) (h1 : ¬ ((nI 0 ≤ a1 ∧ a1 ≤ nI 6) ∧ ((nI 0 ≤ a2 ∧ a2 ≤ nI B - nI 1) ∧ (nI 1 ≤ a3 ∧ a3 ≤ nI B - a2))) → Q (some (-1001)) M) (h2 : ((nI 0 ≤ a1 ∧ a1 ≤ nI 6) ∧ ((nI 0 ≤ a2 ∧ a2 ≤ nI B - nI 1) ∧ (nI 1 ≤ a3 ∧ a3 ≤ nI B - a2))) → wc 31 [.inl a1, .inl a2, .inl a3] M (fun r M1 => ∃ v, r = some v ∧ wc 95 [.inr 0, .inl v] M1 (fun r M2 => ∃ v, r = some v ∧ Q (some v) M2))) : wc 66 [.inr 0, .inl a1, .inl a2, .inl a3] M Q := by
  simp (disch := first | assumption | exact isSc1 | exact isSc3 | exact isSc5 | decide | omega) only [eX7_addRelease, iX7_addRelease_0, iX7_addRelease_1, iX7_addRelease_4, iX7_addRelease_7, iX7_addRelease_8, iX7_addRelease_9, iX7_addRelease_10, iX7_addRelease_13, iX7_addRelease_16, iX7_addRelease_19, iX7_addRelease_20, iX7_addRelease_21, iX7_addRelease_22, iX7_addRelease_23, iX7_addRelease_24, iX7_addRelease_27, iX7_addRelease_30, Nat.reduceAdd, Nat.reduceSub, Nat.reduceMul, Nat.reduceLeDiff, mm_rv_s, mm_rv_n, true_and, and_true, if_true, if_false, not_true_eq_false, not_false_eq_true, nI_add, nz_0, nz_lt0, nz_0le, nz_0lt, nz_le0, nz_lt, nz_le, nz_eq, nz_cl, nz_in, nz_sub, nz_m1, pk_mul, set_o, set_ne, up_ne, up_set, n1_1, true_or, or_true, n1_01, n0_01, bI_01, bI_01b, bI_0, isSc1, isSc3, isSc5, ln_2, ln_4, ln_6, ln_8, ln_10, ln_11, ln_12, ln_13, ln_14, ln_16, ln_17, ln_18, ln_19, ln_20, ln_21, ln_23, ln_24, ln_25, ln_27, ln_28, ln_29, ln_31, ln_32, ln_33, ln_35, ln_36, ln_37, p_isColumn, p_isSpan, p_isWithin, p_isBeat, x0]
  by_cases c1 : (nI 0 ≤ a1 ∧ a1 ≤ nI 6)
  · skip
    by_cases c2 : ((nI 0 ≤ a2 ∧ a2 ≤ nI B - nI 1) ∧ (nI 1 ≤ a3 ∧ a3 ≤ nI B - a2))
    · simp only [c1, c2, and_self, decide_true, Bool.true_eq_false, not_false_eq_true, not_true_eq_false, if_true, if_false]
      refine wc_mono (h2 ⟨c1, c2⟩) (fun r M1 h => ?_)
      obtain ⟨v, rfl, h⟩ := h
      simp (disch := first | assumption | exact isSc1 | exact isSc3 | exact isSc5 | decide | omega) only [iX7_addRelease_0, iX7_addRelease_1, iX7_addRelease_4, iX7_addRelease_7, iX7_addRelease_8, iX7_addRelease_9, iX7_addRelease_10, iX7_addRelease_13, iX7_addRelease_16, iX7_addRelease_19, iX7_addRelease_20, iX7_addRelease_21, iX7_addRelease_22, iX7_addRelease_23, iX7_addRelease_24, iX7_addRelease_27, iX7_addRelease_30, Nat.reduceAdd, Nat.reduceSub, Nat.reduceMul, Nat.reduceLeDiff, mm_rv_s, mm_rv_n, true_and, and_true, if_true, if_false, not_true_eq_false, not_false_eq_true, nI_add, nz_0, nz_lt0, nz_0le, nz_0lt, nz_le0, nz_lt, nz_le, nz_eq, nz_cl, nz_in, nz_sub, nz_m1, pk_mul, set_o, set_ne, up_ne, up_set, n1_1, true_or, or_true, n1_01, n0_01, bI_01, bI_01b, bI_0, isSc1, isSc3, isSc5, ln_2, ln_4, ln_6, ln_8, ln_10, ln_11, ln_12, ln_13, ln_14, ln_16, ln_17, ln_18, ln_19, ln_20, ln_21, ln_23, ln_24, ln_25, ln_27, ln_28, ln_29, ln_31, ln_32, ln_33, ln_35, ln_36, ln_37]
      refine wc_mono h (fun r M2 h => ?_)
      obtain ⟨v, rfl, h⟩ := h
      simp (disch := first | assumption | exact isSc1 | exact isSc3 | exact isSc5 | decide | omega) only [iX7_addRelease_0, iX7_addRelease_1, iX7_addRelease_4, iX7_addRelease_7, iX7_addRelease_8, iX7_addRelease_9, iX7_addRelease_10, iX7_addRelease_13, iX7_addRelease_16, iX7_addRelease_19, iX7_addRelease_20, iX7_addRelease_21, iX7_addRelease_22, iX7_addRelease_23, iX7_addRelease_24, iX7_addRelease_27, iX7_addRelease_30, Nat.reduceAdd, Nat.reduceSub, Nat.reduceMul, Nat.reduceLeDiff, mm_rv_s, mm_rv_n, true_and, and_true, if_true, if_false, not_true_eq_false, not_false_eq_true, nI_add, nz_0, nz_lt0, nz_0le, nz_0lt, nz_le0, nz_lt, nz_le, nz_eq, nz_cl, nz_in, nz_sub, nz_m1, pk_mul, set_o, set_ne, up_ne, up_set, n1_1, true_or, or_true, n1_01, n0_01, bI_01, bI_01b, bI_0, isSc1, isSc3, isSc5, ln_2, ln_4, ln_6, ln_8, ln_10, ln_11, ln_12, ln_13, ln_14, ln_16, ln_17, ln_18, ln_19, ln_20, ln_21, ln_23, ln_24, ln_25, ln_27, ln_28, ln_29, ln_31, ln_32, ln_33, ln_35, ln_36, ln_37]
      exact h
    · simp only [c1, c2, and_self, decide_true, decide_false, Bool.true_eq_false, not_false_eq_true, not_true_eq_false, if_true, if_false]
      exact h1 (fun z => c2 z.2)
  · simp only [c1, and_self, decide_true, decide_false, Bool.true_eq_false, not_false_eq_true, not_true_eq_false, if_true, if_false]
    exact h1 (fun z => c1 z.1)
theorem m_addRelease (x0 : M 31 0 = nI B) (a1 a2 a3 : Int32) (h1 : ¬ ((nI 0 ≤ a1 ∧ a1 ≤ nI 6) ∧ ((nI 0 ≤ a2 ∧ a2 ≤ nI B - nI 1) ∧ (nI 1 ≤ a3 ∧ a3 ≤ nI B - a2))) → Q (some (-1001)) M) (h2 : ((nI 0 ≤ a1 ∧ a1 ≤ nI 6) ∧ ((nI 0 ≤ a2 ∧ a2 ≤ nI B - nI 1) ∧ (nI 1 ≤ a3 ∧ a3 ≤ nI B - a2))) → wc 109 [.inr 30, .inl a1, .inl a2, .inl (nI 3), .inl a3, .inl (nI 0), .inl (nI 0)] M (fun r M2 => ∃ v, r = some v ∧ Q (some v) M2)) : wc 115 [.inr 30, .inl a1, .inl a2, .inl a3] M Q := by
  simp (disch := first | assumption | exact isSc1 | exact isSc3 | exact isSc5 | decide | omega) only [eX8_addRelease, iX8_addRelease_0, iX8_addRelease_1, iX8_addRelease_4, iX8_addRelease_7, iX8_addRelease_8, iX8_addRelease_9, iX8_addRelease_10, iX8_addRelease_13, iX8_addRelease_16, iX8_addRelease_17, iX8_addRelease_18, iX8_addRelease_19, iX8_addRelease_20, iX8_addRelease_21, iX8_addRelease_22, iX8_addRelease_23, iX8_addRelease_26, iX8_addRelease_29, iX8_addRelease_32, Nat.reduceAdd, Nat.reduceSub, Nat.reduceMul, Nat.reduceLeDiff, mm_rv_s, mm_rv_n, true_and, and_true, if_true, if_false, not_true_eq_false, not_false_eq_true, nI_add, nz_0, nz_lt0, nz_0le, nz_0lt, nz_le0, nz_lt, nz_le, nz_eq, nz_cl, nz_in, nz_sub, nz_m1, pk_mul, set_o, set_ne, up_ne, up_set, n1_1, true_or, or_true, n1_01, n0_01, bI_01, bI_01b, bI_0, isSc1, isSc3, isSc5, ln_2, ln_4, ln_6, ln_8, ln_10, ln_11, ln_12, ln_13, ln_14, ln_16, ln_17, ln_18, ln_19, ln_20, ln_21, ln_23, ln_24, ln_25, ln_27, ln_28, ln_29, ln_31, ln_32, ln_33, ln_35, ln_36, ln_37, p_isColumnM, m_isSpan, p_in, p_isBeatM, x0]
  by_cases c1 : (nI 0 ≤ a1 ∧ a1 ≤ nI 6)
  · skip
    by_cases c2 : ((nI 0 ≤ a2 ∧ a2 ≤ nI B - nI 1) ∧ (nI 1 ≤ a3 ∧ a3 ≤ nI B - a2))
    · simp only [c1, c2, and_self, decide_true, Bool.true_eq_false, not_false_eq_true, not_true_eq_false, if_true, if_false]
      refine wc_mono (h2 ⟨c1, c2⟩) (fun r M1 h => ?_)
      obtain ⟨v, rfl, h⟩ := h
      simp (disch := first | assumption | exact isSc1 | exact isSc3 | exact isSc5 | decide | omega) only [iX8_addRelease_0, iX8_addRelease_1, iX8_addRelease_4, iX8_addRelease_7, iX8_addRelease_8, iX8_addRelease_9, iX8_addRelease_10, iX8_addRelease_13, iX8_addRelease_16, iX8_addRelease_17, iX8_addRelease_18, iX8_addRelease_19, iX8_addRelease_20, iX8_addRelease_21, iX8_addRelease_22, iX8_addRelease_23, iX8_addRelease_26, iX8_addRelease_29, iX8_addRelease_32, Nat.reduceAdd, Nat.reduceSub, Nat.reduceMul, Nat.reduceLeDiff, mm_rv_s, mm_rv_n, true_and, and_true, if_true, if_false, not_true_eq_false, not_false_eq_true, nI_add, nz_0, nz_lt0, nz_0le, nz_0lt, nz_le0, nz_lt, nz_le, nz_eq, nz_cl, nz_in, nz_sub, nz_m1, pk_mul, set_o, set_ne, up_ne, up_set, n1_1, true_or, or_true, n1_01, n0_01, bI_01, bI_01b, bI_0, isSc1, isSc3, isSc5, ln_2, ln_4, ln_6, ln_8, ln_10, ln_11, ln_12, ln_13, ln_14, ln_16, ln_17, ln_18, ln_19, ln_20, ln_21, ln_23, ln_24, ln_25, ln_27, ln_28, ln_29, ln_31, ln_32, ln_33, ln_35, ln_36, ln_37]
      exact h
    · simp only [c1, c2, and_self, decide_true, decide_false, Bool.true_eq_false, not_false_eq_true, not_true_eq_false, if_true, if_false]
      exact h1 (fun z => c2 z.2)
  · simp only [c1, and_self, decide_true, decide_false, Bool.true_eq_false, not_false_eq_true, not_true_eq_false, if_true, if_false]
    exact h1 (fun z => c1 z.1)
theorem nI_m8 : (-8 : Int32) = iZ (-8) := rfl
theorem bad_pair {kx km : Nat} {as : List mm_V} (hI : Inv M) (hx : wc kx (.inr 0 :: as) M (fun r M1 => ∃ v, r = some v ∧ M1 = M ∧ wc km (.inr 30 :: as) M1 (fun r2 M2 => r2 = some v ∧ M2 = M1))) : lw_pair Inv M kx km as := by
  refine wc_mono hx (fun r M1 h => ?_)
  obtain ⟨v, e, rfl, h⟩ := h
  exact ⟨v, e, wc_mono h (fun r2 M2 h2 => ⟨h2.1, h2.2 ▸ hI⟩)⟩
theorem pr_addMove (hI : Inv M) (a1 a2 a3 a4 a5 : Int32) : lw_pair Inv M 63 112 [.inl a1, .inl a2, .inl a3, .inl a4, .inl a5] := by
  obtain ⟨⟨B, L, n, g, hc⟩, ⟨h, H, hh⟩, ht, hw⟩ := id hI
  obtain ⟨hv, hn, hL, ⟨x0, x1, x2, x3⟩, hd⟩ := id hc
  have w1 := hv.1
  have w2 := hv.2.1
  refine p_addMove x0 a1 a2 a3 a4 a5 (fun hr => ⟨_, rfl, ?_⟩) (fun hr => ?_)
  · exact m_addMove hd.1 a1 a2 a3 a4 a5 (fun _ => ⟨rfl, hI⟩) (fun hr2 => absurd hr2 hr)
  · obtain ⟨c1, c2, c3, c4⟩ := id hr
    obtain ⟨c, rfl, -, hc2⟩ := in_nat c1.1 c1.2 (by decide) (by decide)
    obtain ⟨b, l, rfl, rfl, hb1, hb2, hb3⟩ := span_nat (by omega) (by omega) c2
    obtain ⟨d, rfl, -, hd2⟩ := in_nat c3.1 c3.2 (by decide) (by decide)
    obtain ⟨v, rfl, -, hv2⟩ := in_nat c4.1 c4.2 (by decide) (by decide)
    have hs : okS (c, b, 0, l, (d : Int), v) := by simp only [okS, sC, sK, sN, sW, sV]; omega
    refine (g_move hs (by omega)).mpr ⟨_, rfl, ?_⟩
    refine wc_mono (add_law hI hc hh hs hb3) (fun r M1 hq => ?_)
    obtain ⟨x, rfl, e31, hq⟩ := hq
    refine ⟨x, rfl, x, rfl, m_addMove e31 _ _ _ _ _ (fun hr2 => absurd hr hr2) (fun _ => ?_)⟩
    exact wc_mono hq (fun r M2 h2 => ⟨x, h2.1, rfl, h2.2⟩)
theorem pr_addHold (hI : Inv M) (a1 a2 : Int32) : lw_pair Inv M 64 113 [.inl a1, .inl a2] := by
  obtain ⟨⟨B, L, n, g, hc⟩, ⟨h, H, hh⟩, ht, hw⟩ := id hI
  obtain ⟨hv, hn, hL, ⟨x0, x1, x2, x3⟩, hd⟩ := id hc
  have w1 := hv.1
  have w2 := hv.2.1
  refine p_addHold x0 a1 a2 (fun hr => ⟨_, rfl, ?_⟩) (fun hr => ?_)
  · exact m_addHold hd.1 a1 a2 (fun _ => ⟨rfl, hI⟩) (fun hr2 => absurd hr2 hr)
  · obtain ⟨c1, c2⟩ := id hr
    obtain ⟨c, rfl, -, hc2⟩ := in_nat c1.1 c1.2 (by decide) (by decide)
    obtain ⟨b, rfl, hb⟩ := in_upto (by omega) c2
    have hs : okS (c, b, 1, 0, 0, 0) := by simp [okS, sC, sK, sN, sW, sV] <;> omega
    have he : sB (c, b, 1, 0, 0, 0) + sS (c, b, 1, 0, 0, 0) ≤ B := by simp only [sS, sB, sK, if_true]; omega
    refine (g_hold hs (by omega)).mpr ⟨_, rfl, ?_⟩
    refine wc_mono (add_law hI hc hh hs he) (fun r M1 hq => ?_)
    obtain ⟨x, rfl, e31, hq⟩ := hq
    refine ⟨x, rfl, x, rfl, m_addHold e31 _ _ (fun hr2 => absurd hr hr2) (fun _ => ?_)⟩
    exact wc_mono hq (fun r M2 h2 => ⟨x, h2.1, rfl, h2.2⟩)
theorem pr_addTurn (hI : Inv M) (a1 a2 a3 : Int32) : lw_pair Inv M 65 114 [.inl a1, .inl a2, .inl a3] := by
  obtain ⟨⟨B, L, n, g, hc⟩, ⟨h, H, hh⟩, ht, hw⟩ := id hI
  obtain ⟨hv, hn, hL, ⟨x0, x1, x2, x3⟩, hd⟩ := id hc
  have w1 := hv.1
  have w2 := hv.2.1
  refine p_addTurn x0 a1 a2 a3 (fun hr => ⟨_, rfl, ?_⟩) (fun hr => ?_)
  · exact m_addTurn hd.1 a1 a2 a3 (fun _ => ⟨rfl, hI⟩) (fun hr2 => absurd hr2 hr)
  · obtain ⟨c1, c2, c3⟩ := id hr
    obtain ⟨b, l, rfl, rfl, hb1, hb2, hb3⟩ := span_nat (by omega) (by omega) c1
    obtain ⟨z, rfl, hz1, hz2⟩ := in_int (l := -8) (h := 8) c2.1 c2.2 (by decide) (by decide)
    have hz : z ≠ 0 := fun e => c3 (by rw [e]; rfl)
    have hs : okS (6, b, 2, l, z, 0) := by simp [okS, sC, sK, sN, sW, sV] <;> omega
    refine (g_turn hs (by omega)).mpr ⟨_, rfl, ?_⟩
    refine wc_mono (add_law hI hc hh hs hb3) (fun r M1 hq => ?_)
    obtain ⟨x, rfl, e31, hq⟩ := hq
    refine ⟨x, rfl, x, rfl, m_addTurn e31 _ _ _ (fun hr2 => absurd hr hr2) (fun _ => ?_)⟩
    exact wc_mono hq (fun r M2 h2 => ⟨x, h2.1, rfl, h2.2⟩)
theorem pr_addRelease (hI : Inv M) (a1 a2 a3 : Int32) : lw_pair Inv M 66 115 [.inl a1, .inl a2, .inl a3] := by
  obtain ⟨⟨B, L, n, g, hc⟩, ⟨h, H, hh⟩, ht, hw⟩ := id hI
  obtain ⟨hv, hn, hL, ⟨x0, x1, x2, x3⟩, hd⟩ := id hc
  have w1 := hv.1
  have w2 := hv.2.1
  refine p_addRelease x0 a1 a2 a3 (fun hr => ⟨_, rfl, ?_⟩) (fun hr => ?_)
  · exact m_addRelease hd.1 a1 a2 a3 (fun _ => ⟨rfl, hI⟩) (fun hr2 => absurd hr2 hr)
  · obtain ⟨c1, c2⟩ := id hr
    obtain ⟨c, rfl, -, hc2⟩ := in_nat c1.1 c1.2 (by decide) (by decide)
    obtain ⟨b, l, rfl, rfl, hb1, hb2, hb3⟩ := span_nat (by omega) (by omega) c2
    have hs : okS (c, b, 3, l, 0, 0) := by simp [okS, sC, sK, sN, sW, sV] <;> omega
    refine (g_release hs (by omega)).mpr ⟨_, rfl, ?_⟩
    refine wc_mono (add_law hI hc hh hs hb3) (fun r M1 hq => ?_)
    obtain ⟨x, rfl, e31, hq⟩ := hq
    refine ⟨x, rfl, x, rfl, m_addRelease e31 _ _ _ (fun hr2 => absurd hr hr2) (fun _ => ?_)⟩
    exact wc_mono hq (fun r M2 h2 => ⟨x, h2.1, rfl, h2.2⟩)
end ADDS
