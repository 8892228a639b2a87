/-! PAIRS: reset, undo -/
section RESET
variable {M : mm_M} {Q : mm_Q} {B L n h : Nat} {g : Nat → Sg} {H : Nat → St} {s : Sg}
theorem p_reset (hcur : Cur M B L n g) (hh : Hst M h H) (v : Int32) (h1 : ¬ (nI 4 ≤ v ∧ v ≤ nI 48) → Q (some (-1001)) M)
    (h2 : (nI 4 ≤ v ∧ v ≤ nI 48) → ∀ f2, (∀ k, k < pushN h → hC f2 k (pushH h H (B, L, n, g) k)) → Q (some (nI B)) (mm_up (mm_up (mm_up (mm_set M 8 f2) 7 0 (nI (pushN h))) 1 0 v) 1 2 (nI 0))) : wc 62 [.inr 0, .inl v] M Q := by
  have x0 := hcur.2.2.2.1.1
  simp (disch := first | assumption | exact isSc1 | exact isSc3 | exact isSc5 | decide | omega) only [eX7_reset, iX7_reset_0, iX7_reset_1, iX7_reset_2, iX7_reset_4, iX7_reset_7, iX7_reset_10, iX7_reset_13, iX7_reset_14, iX7_reset_15, iX7_reset_18, iX7_reset_21, iX7_reset_22, iX7_reset_23, iX7_reset_26, iX7_reset_27, iX7_reset_30, iX7_reset_33, iX7_reset_34, iX7_reset_37, iX7_reset_38, iX7_reset_41, iX7_reset_42, Nat.reduceAdd, Nat.reduceSub, Nat.reduceMul, Nat.reduceLeDiff, mm_rv_s, mm_rv_n, true_and, and_true, if_true, if_false, not_true_eq_false, not_false_eq_true, nI_add, nz_0, nz_lt0, nz_0le, nz_0lt, nz_le0, nz_lt, nz_le, nz_eq, nz_cl, nz_in, nz_sub, nz_m1, pk_mul, set_o, set_ne, up_ne, up_set, n1_1, true_or, or_true, n1_01, n0_01, bI_01, bI_01b, bI_0, isSc1, isSc3, isSc5, ln_2, ln_4, ln_6, ln_8, ln_10, ln_11, ln_12, ln_13, ln_14, ln_16, ln_17, ln_18, ln_19, ln_20, ln_21, ln_23, ln_24, ln_25, ln_27, ln_28, ln_29, ln_31, ln_32, ln_33, ln_35, ln_36, ln_37, p_isWithin, x0]
  by_cases hr : nI 4 ≤ v ∧ v ≤ nI 48
  · simp only [hr, and_self, decide_true, Bool.true_eq_false, not_false_eq_true, if_true]
    refine x_keep hcur hh (fun f2 hf => ?_)
    simp (disch := first | assumption | exact isSc1 | exact isSc3 | exact isSc5 | decide | omega) only [iX7_reset_0, iX7_reset_1, iX7_reset_2, iX7_reset_4, iX7_reset_7, iX7_reset_10, iX7_reset_13, iX7_reset_14, iX7_reset_15, iX7_reset_18, iX7_reset_21, iX7_reset_22, iX7_reset_23, iX7_reset_26, iX7_reset_27, iX7_reset_30, iX7_reset_33, iX7_reset_34, iX7_reset_37, iX7_reset_38, iX7_reset_41, iX7_reset_42, Nat.reduceAdd, Nat.reduceSub, Nat.reduceMul, Nat.reduceLeDiff, mm_rv_s, mm_rv_n, true_and, and_true, if_true, if_false, not_true_eq_false, not_false_eq_true, nI_add, nz_0, nz_lt0, nz_0le, nz_0lt, nz_le0, nz_lt, nz_le, nz_eq, nz_cl, nz_in, nz_sub, nz_m1, pk_mul, set_o, set_ne, up_ne, up_set, n1_1, true_or, or_true, n1_01, n0_01, bI_01, bI_01b, bI_0, isSc1, isSc3, isSc5, ln_2, ln_4, ln_6, ln_8, ln_10, ln_11, ln_12, ln_13, ln_14, ln_16, ln_17, ln_18, ln_19, ln_20, ln_21, ln_23, ln_24, ln_25, ln_27, ln_28, ln_29, ln_31, ln_32, ln_33, ln_35, ln_36, ln_37, p_empty isSc1]
    exact h2 hr f2 hf
  · simp only [hr, decide_false, not_true_eq_false, if_false]
    exact h1 hr
theorem m_reset {M1 : mm_M} (hd : isD (M1 31) B L n g) (hn : n ≤ 60) (hh : Hst M h H) (h30 : M1 30 2 = M 30 2) (h32 : M1 32 = M 32) (v : Int32) (h1 : ¬ (nI 4 ≤ v ∧ v ≤ nI 48) → Q (some (-1001)) M1)
    (h2 : (nI 4 ≤ v ∧ v ≤ nI 48) → ∀ w2, (∀ k, k < pushN h → hD w2 k (pushH h H (B, L, n, g) k)) → Q (some (nI B)) (mm_up (mm_up (mm_up (mm_set M1 32 w2) 30 2 (nI (pushN h))) 31 0 v) 31 2 (nI 0))) : wc 111 [.inr 30, .inl v] M1 Q := by
  have x0 := hd.1
  simp (disch := first | assumption | exact isSc1 | exact isSc3 | exact isSc5 | decide | omega) only [eX8_reset, iX8_reset_0, iX8_reset_1, iX8_reset_2, iX8_reset_4, iX8_reset_7, iX8_reset_10, iX8_reset_13, iX8_reset_14, iX8_reset_15, iX8_reset_18, iX8_reset_19, iX8_reset_22, iX8_reset_23, iX8_reset_24, iX8_reset_25, iX8_reset_26, iX8_reset_29, iX8_reset_30, iX8_reset_31, iX8_reset_32, iX8_reset_33, iX8_reset_36, iX8_reset_37, iX8_reset_38, iX8_reset_39, iX8_reset_40, Nat.reduceAdd, Nat.reduceSub, Nat.reduceMul, Nat.reduceLeDiff, mm_rv_s, mm_rv_n, true_and, and_true, if_true, if_false, not_true_eq_false, not_false_eq_true, nI_add, nz_0, nz_lt0, nz_0le, nz_0lt, nz_le0, nz_lt, nz_le, nz_eq, nz_cl, nz_in, nz_sub, nz_m1, pk_mul, set_o, set_ne, up_ne, up_set, n1_1, true_or, or_true, n1_01, n0_01, bI_01, bI_01b, bI_0, isSc1, isSc3, isSc5, ln_2, ln_4, ln_6, ln_8, ln_10, ln_11, ln_12, ln_13, ln_14, ln_16, ln_17, ln_18, ln_19, ln_20, ln_21, ln_23, ln_24, ln_25, ln_27, ln_28, ln_29, ln_31, ln_32, ln_33, ln_35, ln_36, ln_37, p_in]
  by_cases hr : nI 4 ≤ v ∧ v ≤ nI 48
  · simp only [hr, and_self, decide_true, Bool.true_eq_false, not_false_eq_true, if_true]
    refine x_records hd hn hh h30 h32 (fun w2 hw => ?_)
    simp (disch := first | assumption | exact isSc1 | exact isSc3 | exact isSc5 | decide | omega) only [iX8_reset_0, iX8_reset_1, iX8_reset_2, iX8_reset_4, iX8_reset_7, iX8_reset_10, iX8_reset_13, iX8_reset_14, iX8_reset_15, iX8_reset_18, iX8_reset_19, iX8_reset_22, iX8_reset_23, iX8_reset_24, iX8_reset_25, iX8_reset_26, iX8_reset_29, iX8_reset_30, iX8_reset_31, iX8_reset_32, iX8_reset_33, iX8_reset_36, iX8_reset_37, iX8_reset_38, iX8_reset_39, iX8_reset_40, Nat.reduceAdd, Nat.reduceSub, Nat.reduceMul, Nat.reduceLeDiff, mm_rv_s, mm_rv_n, true_and, and_true, if_true, if_false, not_true_eq_false, not_false_eq_true, nI_add, nz_0, nz_lt0, nz_0le, nz_0lt, nz_le0, nz_lt, nz_le, nz_eq, nz_cl, nz_in, nz_sub, nz_m1, pk_mul, set_o, set_ne, up_ne, up_set, n1_1, true_or, or_true, n1_01, n0_01, bI_01, bI_01b, bI_0, isSc1, isSc3, isSc5, ln_2, ln_4, ln_6, ln_8, ln_10, ln_11, ln_12, ln_13, ln_14, ln_16, ln_17, ln_18, ln_19, ln_20, ln_21, ln_23, ln_24, ln_25, ln_27, ln_28, ln_29, ln_31, ln_32, ln_33, ln_35, ln_36, ln_37, x0]
    exact h2 hr w2 hw
  · simp only [hr, decide_false, not_true_eq_false, if_false]
    exact h1 hr
theorem pr_reset (hI : Inv M) (a1 : Int32) : lw_pair Inv M 62 111 [.inl a1] := by
  obtain ⟨⟨B, L, n, g, hc⟩, ⟨h, H, hh⟩, ht, hw⟩ := id hI
  obtain ⟨hv, hn, hL, ⟨x0, x1, x2, x3⟩, hd⟩ := id hc
  refine p_reset hc hh a1 (fun hr => ⟨_, rfl, ?_⟩) (fun hr f2 hf => ⟨_, rfl, ?_⟩)
  · exact m_reset hd hn hh rfl rfl a1 (fun _ => ⟨rfl, hI⟩) (fun hr2 => absurd hr2 hr)
  · have sm : ∀ q, q ∉ [1, 7, 8] → mm_up (mm_up (mm_up (mm_set M 8 f2) 7 0 (nI (pushN h))) 1 0 a1) 1 2 (nI 0) q = M q := fun q hq => by
      simp only [List.mem_cons, List.not_mem_nil, or_false, not_or] at hq
      rw [up_ne _ _ _ (by omega), up_ne _ _ _ (by omega), up_ne _ _ _ (by omega), set_ne _ _ (by omega)]
    have s7 : mm_up (mm_up (mm_up (mm_set M 8 f2) 7 0 (nI (pushN h))) 1 0 a1) 1 2 (nI 0) 7 0 = nI (pushN h) := by simp [mm_up, mm_set, upd]
    have s8 : mm_up (mm_up (mm_up (mm_set M 8 f2) 7 0 (nI (pushN h))) 1 0 a1) 1 2 (nI 0) 8 = f2 := by simp [mm_up, mm_set]
    have s10 : mm_up (mm_up (mm_up (mm_set M 8 f2) 7 0 (nI (pushN h))) 1 0 a1) 1 2 (nI 0) 1 0 = a1 := by simp [mm_up, mm_set, upd]
    have s11 : mm_up (mm_up (mm_up (mm_set M 8 f2) 7 0 (nI (pushN h))) 1 0 a1) 1 2 (nI 0) 1 1 = M 1 1 := by simp [mm_up, mm_set, upd]
    have s12 : mm_up (mm_up (mm_up (mm_set M 8 f2) 7 0 (nI (pushN h))) 1 0 a1) 1 2 (nI 0) 1 2 = nI 0 := by simp [mm_up, mm_set, upd]
    generalize mm_up (mm_up (mm_up (mm_set M 8 f2) 7 0 (nI (pushN h))) 1 0 a1) 1 2 (nI 0) = M1 at sm s7 s8 s10 s11 s12
    refine m_reset (M := M) (M1 := M1) (B := B) (L := L) (n := n) (g := g) (by rw [sm 31 (by decide)]; exact hd) hn hh (by rw [sm 30 (by decide)]) (by rw [sm 32 (by decide)]) a1 (fun hr2 => absurd hr hr2) (fun _ w2 hw2 => ⟨rfl, ?_⟩)
    obtain ⟨k, rfl, hk1, hk2⟩ := in_nat hr.1 hr.2 (by decide) (by decide)
    have sn : ∀ q, q ∉ [30, 31, 32] → mm_up (mm_up (mm_up (mm_set M1 32 w2) 30 2 (nI (pushN h))) 31 0 (nI k)) 31 2 (nI 0) q = M1 q := fun q hq => by
      simp only [List.mem_cons, List.not_mem_nil, or_false, not_or] at hq
      rw [up_ne _ _ _ (by omega), up_ne _ _ _ (by omega), up_ne _ _ _ (by omega), set_ne _ _ (by omega)]
    have t31 : mm_up (mm_up (mm_up (mm_set M1 32 w2) 30 2 (nI (pushN h))) 31 0 (nI k)) 31 2 (nI 0) 31 1 = M1 31 1 := by simp [mm_up, mm_set, upd]
    refine change_inv hc hh ht hw (B' := k) (L' := L) (n' := 0) (g' := g) ?_ ?_ ?_ ?_ ⟨⟨hk1, hk2, by omega, fun i hi => absurd hi (by omega), fun i j _ hj => absurd hj (by omega), fun i j _ hj => absurd hj (by omega)⟩, by omega, hL, ⟨?_, ?_, ?_, fun i hi => absurd hi (by omega)⟩, ⟨?_, ?_, ?_, fun i hi => absurd hi (by omega)⟩⟩ (TK.of (fun q hq => ?_) ?_)
    · rw [sn 7 (by decide), s7]
    · simp [mm_up, mm_set, upd]
    · rw [sn 8 (by decide), s8]; exact hf
    · have e : mm_up (mm_up (mm_up (mm_set M1 32 w2) 30 2 (nI (pushN h))) 31 0 (nI k)) 31 2 (nI 0) 32 = w2 := by simp [mm_up, mm_set]
      rw [e]; exact hw2
    · rw [sn 1 (by decide), s10]
    · rw [sn 1 (by decide), s11, x1]
    · rw [sn 1 (by decide), s12]
    · simp [mm_up, mm_set, upd]
    · rw [t31, sm 31 (by decide)]; exact hd.2.1
    · simp [mm_up, mm_set, upd]
    · rw [sn q ?_, sm q ?_] <;> (simp only [List.mem_cons, List.not_mem_nil, or_false] at hq; rcases hq with rfl | rfl | rfl | rfl | rfl | rfl <;> decide)
    · have e : mm_up (mm_up (mm_up (mm_set M1 32 w2) 30 2 (nI (pushN h))) 31 0 (nI k)) 31 2 (nI 0) 30 5 = M1 30 5 := by simp [mm_up, mm_set, upd]
      rw [e, sm 30 (by decide)]
theorem pr_undo (hI : Inv M) : lw_pair Inv M 71 122 [] := by
  obtain ⟨⟨B, L, n, g, hc⟩, ⟨h, H, hh⟩, ht, hw⟩ := id hI
  obtain ⟨hh6, z1, z2, z3⟩ := id hh
  cases h with
  | zero =>
    have px : ∀ {Q : mm_Q}, wc 71 [.inr 0] M Q ↔ Q (some (-1002)) M := by
      intro Q
      simp (disch := first | assumption | exact isSc1 | exact isSc3 | exact isSc5 | decide | omega) only [eX7_undo, iX7_undo_0, iX7_undo_1, iX7_undo_4, iX7_undo_7, iX7_undo_10, iX7_undo_13, iX7_undo_14, iX7_undo_15, iX7_undo_18, iX7_undo_19, iX7_undo_22, iX7_undo_25, iX7_undo_26, iX7_undo_29, iX7_undo_32, Nat.reduceAdd, Nat.reduceSub, Nat.reduceMul, Nat.reduceLeDiff, mm_rv_s, mm_rv_n, true_and, and_true, if_true, if_false, not_true_eq_false, not_false_eq_true, nI_add, nz_0, nz_lt0, nz_0le, nz_0lt, nz_le0, nz_lt, nz_le, nz_eq, nz_cl, nz_in, nz_sub, nz_m1, pk_mul, set_o, set_ne, up_ne, up_set, n1_1, true_or, or_true, n1_01, n0_01, bI_01, bI_01b, bI_0, isSc1, isSc3, isSc5, ln_2, ln_4, ln_6, ln_8, ln_10, ln_11, ln_12, ln_13, ln_14, ln_16, ln_17, ln_18, ln_19, ln_20, ln_21, ln_23, ln_24, ln_25, ln_27, ln_28, ln_29, ln_31, ln_32, ln_33, ln_35, ln_36, ln_37, z1, not_true_eq_false, if_false]
    have pm : ∀ {Q : mm_Q}, wc 122 [.inr 30] M Q ↔ Q (some (-1002)) M := by
      intro Q
      simp (disch := first | assumption | exact isSc1 | exact isSc3 | exact isSc5 | decide | omega) only [eX8_undo, iX8_undo_0, iX8_undo_1, iX8_undo_4, iX8_undo_7, iX8_undo_10, Nat.reduceAdd, Nat.reduceSub, Nat.reduceMul, Nat.reduceLeDiff, mm_rv_s, mm_rv_n, true_and, and_true, if_true, if_false, not_true_eq_false, not_false_eq_true, nI_add, nz_0, nz_lt0, nz_0le, nz_0lt, nz_le0, nz_lt, nz_le, nz_eq, nz_cl, nz_in, nz_sub, nz_m1, pk_mul, set_o, set_ne, up_ne, up_set, n1_1, true_or, or_true, n1_01, n0_01, bI_01, bI_01b, bI_0, isSc1, isSc3, isSc5, ln_2, ln_4, ln_6, ln_8, ln_10, ln_11, ln_12, ln_13, ln_14, ln_16, ln_17, ln_18, ln_19, ln_20, ln_21, ln_23, ln_24, ln_25, ln_27, ln_28, ln_29, ln_31, ln_32, ln_33, ln_35, ln_36, ln_37, z2, not_true_eq_false, if_false]
    exact px.mpr ⟨_, rfl, pm.mpr ⟨rfl, hI⟩⟩
  | succ h =>
    obtain ⟨hC1, hD1, hk⟩ := z3 h (by omega)
    generalize hS : H h = S at hC1 hD1 hk
    obtain ⟨B', L', n', g'⟩ := S
    have px : ∀ {Q : mm_Q}, (∀ f2, (∀ i, i < n' → f2 i = nI (pk (g' i))) → Q (some (nI h)) (mm_set (mm_up (mm_up (mm_up (mm_up M 7 0 (nI h)) 1 0 (nI B')) 1 1 (nI L')) 1 2 (nI n')) 2 f2)) → wc 71 [.inr 0] M Q := by
      intro Q hQ
      simp (disch := first | assumption | exact isSc1 | exact isSc3 | exact isSc5 | decide | omega) only [eX7_undo, iX7_undo_0, iX7_undo_1, iX7_undo_4, iX7_undo_7, iX7_undo_10, iX7_undo_13, iX7_undo_14, iX7_undo_15, iX7_undo_18, iX7_undo_19, iX7_undo_22, Nat.reduceAdd, Nat.reduceSub, Nat.reduceMul, Nat.reduceLeDiff, mm_rv_s, mm_rv_n, true_and, and_true, if_true, if_false, not_true_eq_false, not_false_eq_true, nI_add, nz_0, nz_lt0, nz_0le, nz_0lt, nz_le0, nz_lt, nz_le, nz_eq, nz_cl, nz_in, nz_sub, nz_m1, pk_mul, set_o, set_ne, up_ne, up_set, n1_1, true_or, or_true, n1_01, n0_01, bI_01, bI_01b, bI_0, isSc1, isSc3, isSc5, ln_2, ln_4, ln_6, ln_8, ln_10, ln_11, ln_12, ln_13, ln_14, ln_16, ln_17, ln_18, ln_19, ln_20, ln_21, ln_23, ln_24, ln_25, ln_27, ln_28, ln_29, ln_31, ln_32, ln_33, ln_35, ln_36, ln_37, z1, Nat.succ_ne_zero]
      refine p_restore z1 (by omega) hC1 hk.2.1 (fun f2 hf => ?_)
      have e7 : mm_set (mm_up (mm_up (mm_up (mm_up M 7 0 (nI h)) 1 0 (nI B')) 1 1 (nI L')) 1 2 (nI n')) 2 f2 7 0 = nI h := by simp [mm_up, mm_set, upd]
      simp (disch := first | assumption | exact isSc1 | exact isSc3 | exact isSc5 | decide | omega) only [iX7_undo_25, iX7_undo_26, iX7_undo_29, iX7_undo_32, Nat.reduceAdd, Nat.reduceSub, Nat.reduceMul, Nat.reduceLeDiff, mm_rv_s, mm_rv_n, true_and, and_true, if_true, if_false, not_true_eq_false, not_false_eq_true, nI_add, nz_0, nz_lt0, nz_0le, nz_0lt, nz_le0, nz_lt, nz_le, nz_eq, nz_cl, nz_in, nz_sub, nz_m1, pk_mul, set_o, set_ne, up_ne, up_set, n1_1, true_or, or_true, n1_01, n0_01, bI_01, bI_01b, bI_0, isSc1, isSc3, isSc5, ln_2, ln_4, ln_6, ln_8, ln_10, ln_11, ln_12, ln_13, ln_14, ln_16, ln_17, ln_18, ln_19, ln_20, ln_21, ln_23, ln_24, ln_25, ln_27, ln_28, ln_29, ln_31, ln_32, ln_33, ln_35, ln_36, ln_37, e7]
      exact hQ f2 hf
    refine px (fun f2 hf => ⟨_, rfl, ?_⟩)
    have sm : ∀ q, q ∉ [1, 2, 7] → mm_set (mm_up (mm_up (mm_up (mm_up M 7 0 (nI h)) 1 0 (nI B')) 1 1 (nI L')) 1 2 (nI n')) 2 f2 q = M q := fun q hq => by
      simp only [List.mem_cons, List.not_mem_nil, or_false, not_or] at hq
      rw [set_ne _ _ (by omega), up_ne _ _ _ (by omega), up_ne _ _ _ (by omega), up_ne _ _ _ (by omega), up_ne _ _ _ (by omega)]
    have s7 : mm_set (mm_up (mm_up (mm_up (mm_up M 7 0 (nI h)) 1 0 (nI B')) 1 1 (nI L')) 1 2 (nI n')) 2 f2 7 0 = nI h := by simp [mm_up, mm_set, upd]
    have sC : isC (mm_set (mm_up (mm_up (mm_up (mm_up M 7 0 (nI h)) 1 0 (nI B')) 1 1 (nI L')) 1 2 (nI n')) 2 f2) 1 B' L' n' g' := by
      refine ⟨by simp [mm_up, mm_set, upd], by simp [mm_up, mm_set, upd], by simp [mm_up, mm_set, upd], fun i hi => ?_⟩
      rw [← hf i hi]
      simp [mm_set]
    generalize mm_set (mm_up (mm_up (mm_up (mm_up M 7 0 (nI h)) 1 0 (nI B')) 1 1 (nI L')) 1 2 (nI n')) 2 f2 = M1 at sm s7 sC
    refine m_undo (M := M1) (by rw [sm 30 (by decide)]; exact z2) (by omega) (by rw [sm 32 (by decide)]; exact hD1) hk.2.1 (fun d2 hd2 => ⟨rfl, ?_⟩)
    have sn : ∀ q, q ∉ [30, 31] → mm_set (mm_up M1 30 2 (nI h)) 31 d2 q = M1 q := fun q hq => by
      simp only [List.mem_cons, List.not_mem_nil, or_false, not_or] at hq
      rw [set_ne _ _ (by omega), up_ne _ _ _ (by omega)]
    have tk : TK M (mm_set (mm_up M1 30 2 (nI h)) 31 d2) := by
      refine TK.of (fun q hq => ?_) ?_
      · rw [sn q ?_, sm q ?_] <;> (simp only [List.mem_cons, List.not_mem_nil, or_false] at hq; rcases hq with rfl | rfl | rfl | rfl | rfl | rfl <;> decide)
      · have e : mm_set (mm_up M1 30 2 (nI h)) 31 d2 30 5 = M1 30 5 := by simp [mm_up, mm_set, upd]
        rw [e, sm 30 (by decide)]
    obtain ⟨t, c, ht⟩ := ht
    refine ⟨⟨B', L', n', g', hk.1, hk.2.1, hk.2.2, isC_cong (sn 1 (by decide)) (sn 2 (by decide)) sC, by rw [set_o]; exact hd2⟩, ⟨h, H, by omega, by rw [sn 7 (by decide), s7], by simp [mm_up, mm_set, upd], fun k hk2 => ?_⟩, ⟨t, c, ht.tk tk⟩, hw.tk tk⟩
    rw [sn 8 (by decide), sm 8 (by decide), sn 32 (by decide), sm 32 (by decide)]
    exact z3 k (by omega)
end RESET
