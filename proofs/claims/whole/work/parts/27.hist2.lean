/-! THE HISTORIES: taken back; the reference's -/
theorem isD_cong {d d' : Nat → Int32} {B L n : Nat} {g : Nat → Sg} (hn : n ≤ 120) (h : ∀ x, x < 723 → d' x = d x) (hD : isD d B L n g) : isD d' B L n g := by
  obtain ⟨a0, a1, a2, a3⟩ := hD
  refine ⟨by rw [h 0 (by decide), a0], by rw [h 1 (by decide), a1], by rw [h 2 (by decide), a2], fun i hi => ?_⟩
  obtain ⟨b1, b2, b3, b4, b5, b6⟩ := a3 i hi
  exact ⟨by rw [h _ (by omega), b1], by rw [h _ (by omega), b2], by rw [h _ (by omega), b3], by rw [h _ (by omega), b4], by rw [h _ (by omega), b5], by rw [h _ (by omega), b6]⟩
section HIST2
variable {B L n h : Nat} {g : Nat → Sg} {M : mm_M} {Q : mm_Q}
theorem p_restore (hsz : M 7 0 = nI (h + 1)) (hhh : h ≤ 5) (hH : hC (M 8) h (B, L, n, g)) (hn : n ≤ 60)
    (hQ : ∀ f2, (∀ i, i < n → f2 i = nI (pk (g i))) → Q none (mm_set (mm_up (mm_up (mm_up (mm_up M 7 0 (nI h)) 1 0 (nI B)) 1 1 (nI L)) 1 2 (nI n)) 2 f2)) : wc 4 [.inr 7, .inr 1] M Q := by
  obtain ⟨a0, a1, a2, a3⟩ := hH
  have e0 : M 8 (h * 63) = nI B := by rw [← a0]; congr 1; omega
  have e1 : M 8 (h * 63 + 1) = nI L := by rw [← a1]; congr 1; omega
  have e2 : M 8 (h * 63 + 2) = nI n := by rw [← a2]; congr 1; omega
  have eh : h + 1 - 1 = h := by omega
  have u7 : ∀ v, mm_up M 7 0 v 7 0 = v := fun v => by simp [mm_up, upd]
  simp (disch := first | assumption | exact isSc1 | exact isSc3 | exact isSc5 | decide | omega) only [eX1_restore, iX1_restore_0, iX1_restore_1, iX1_restore_4, iX1_restore_7, iX1_restore_8, iX1_restore_9, iX1_restore_10, iX1_restore_13, iX1_restore_14, iX1_restore_15, iX1_restore_18, iX1_restore_19, iX1_restore_22, iX1_restore_24, iX1_restore_25, iX1_restore_26, iX1_restore_27, iX1_restore_28, iX1_restore_31, iX1_restore_32, iX1_restore_33, iX1_restore_34, iX1_restore_35, iX1_restore_38, iX1_restore_39, iX1_restore_40, iX1_restore_43, iX1_restore_44, iX1_restore_45, iX1_restore_46, iX1_restore_47, iX1_restore_50, iX1_restore_51, iX1_restore_52, iX1_restore_55, iX1_restore_56, iX1_restore_57, iX1_restore_58, iX1_restore_59, iX1_restore_62, iX1_restore_63, Nat.reduceAdd, Nat.reduceSub, Nat.reduceMul, Nat.reduceLeDiff, mm_rv_s, mm_rv_n, true_and, and_true, if_true, if_false, not_true_eq_false, not_false_eq_true, nI_add, nz_0, nz_lt0, nz_0le, nz_0lt, nz_le0, nz_lt, nz_le, nz_eq, nz_cl, nz_in, nz_sub, nz_m1, pk_mul, set_o, set_ne, up_ne, up_set, n1_1, true_or, or_true, n1_01, n0_01, bI_01, bI_01b, bI_0, isSc1, isSc3, isSc5, ln_2, ln_4, ln_6, ln_8, ln_10, ln_11, ln_12, ln_13, ln_14, ln_16, ln_17, ln_18, ln_19, ln_20, ln_21, ln_23, ln_24, ln_25, ln_27, ln_28, ln_29, ln_31, ln_32, ln_33, ln_35, ln_36, ln_37, hsz, Nat.succ_ne_zero, eh, u7, e0, e1, e2, Nat.add_zero]
  have loop : ∀ (M1 : mm_M), M1 8 = M 8 → M1 1 2 = nI n → ∀ d i : Nat, i + d = n → ∀ f : Nat → Int32, (∀ j, j < i → f j = nI (pk (g j))) → (∀ f2, (∀ i, i < n → f2 i = nI (pk (g i))) → Q none (mm_set M1 2 f2)) → wp 4 64 [some (.inr 7), some (.inr 1), some (.inl (nI (h * 63))), some (.inl (nI i))] [] (mm_set M1 2 f) Q := by
    intro M1 h8 h12 d
    induction d with
    | zero =>
      intro i hi f hf hq
      have hi : i = n := by omega
      subst hi
      rw [iX1_restore_64]
      simp (disch := first | assumption | exact isSc1 | exact isSc3 | exact isSc5 | decide | omega) only [iX1_restore_65, iX1_restore_66, iX1_restore_69, iX1_restore_100, Nat.reduceAdd, Nat.reduceSub, Nat.reduceMul, Nat.reduceLeDiff, mm_rv_s, mm_rv_n, true_and, and_true, if_true, if_false, not_true_eq_false, not_false_eq_true, nI_add, nz_0, nz_lt0, nz_0le, nz_0lt, nz_le0, nz_lt, nz_le, nz_eq, nz_cl, nz_in, nz_sub, nz_m1, pk_mul, set_o, set_ne, up_ne, up_set, n1_1, true_or, or_true, n1_01, n0_01, bI_01, bI_01b, bI_0, isSc1, isSc3, isSc5, ln_2, ln_4, ln_6, ln_8, ln_10, ln_11, ln_12, ln_13, ln_14, ln_16, ln_17, ln_18, ln_19, ln_20, ln_21, ln_23, ln_24, ln_25, ln_27, ln_28, ln_29, ln_31, ln_32, ln_33, ln_35, ln_36, ln_37, h12, Nat.le_refl]
      exact hq f hf
    | succ d ih =>
      intro i hi f hf hq
      have e3 := a3 i (show i < n by omega)
      have e4 : M 8 (h * 63 + 3 + i) = nI (pk (g i)) := by rw [← e3]; congr 1; omega
      rw [iX1_restore_64]
      simp (disch := first | assumption | exact isSc1 | exact isSc3 | exact isSc5 | decide | omega) only [iX1_restore_65, iX1_restore_66, iX1_restore_69, iX1_restore_72, iX1_restore_73, iX1_restore_75, iX1_restore_78, iX1_restore_79, iX1_restore_82, iX1_restore_83, iX1_restore_84, iX1_restore_87, iX1_restore_88, iX1_restore_89, iX1_restore_90, iX1_restore_91, iX1_restore_92, iX1_restore_93, iX1_restore_94, iX1_restore_97, Nat.reduceAdd, Nat.reduceSub, Nat.reduceMul, Nat.reduceLeDiff, mm_rv_s, mm_rv_n, true_and, and_true, if_true, if_false, not_true_eq_false, not_false_eq_true, nI_add, nz_0, nz_lt0, nz_0le, nz_0lt, nz_le0, nz_lt, nz_le, nz_eq, nz_cl, nz_in, nz_sub, nz_m1, pk_mul, set_o, set_ne, up_ne, up_set, n1_1, true_or, or_true, n1_01, n0_01, bI_01, bI_01b, bI_0, isSc1, isSc3, isSc5, ln_2, ln_4, ln_6, ln_8, ln_10, ln_11, ln_12, ln_13, ln_14, ln_16, ln_17, ln_18, ln_19, ln_20, ln_21, ln_23, ln_24, ln_25, ln_27, ln_28, ln_29, ln_31, ln_32, ln_33, ln_35, ln_36, ln_37, h12, h8, show ¬ n ≤ i by omega, show ¬ 60 ≤ i by omega, e4]
      refine ih (i + 1) (by omega) _ (fun j hj => ?_) hq
      by_cases hj2 : j = i
      · subst hj2; rw [us]
      · rw [un _ _ _ _ hj2, hf j (by omega)]
  have fin := loop (mm_up (mm_up (mm_up (mm_up M 7 0 (nI h)) 1 0 (nI B)) 1 1 (nI L)) 1 2 (nI n)) (by rw [up_ne _ _ _ (by decide), up_ne _ _ _ (by decide), up_ne _ _ _ (by decide), up_ne _ _ _ (by decide)]) (by rw [up_o, us]) n 0 (by omega) (M 2) (fun j hj => absurd hj (by omega)) hQ
  have e5 : mm_up (mm_up (mm_up (mm_up M 7 0 (nI h)) 1 0 (nI B)) 1 1 (nI L)) 1 2 (nI n) 2 = M 2 := by rw [up_ne _ _ _ (by decide), up_ne _ _ _ (by decide), up_ne _ _ _ (by decide), up_ne _ _ _ (by decide)]
  rw [← e5, set_id] at fin
  exact fin
theorem m_rec_tail {hh : Nat} {M1 : mm_M} {l1 : Option mm_V} (hsz : M1 30 2 = nI hh) (hhh : hh ≤ 5)
    (hQ : ∀ w2, (∀ x, x < 723 → w2 (723 * hh + x) = M1 31 x) → (∀ x, x < 723 * hh → w2 x = M1 32 x) → Q none (mm_up (mm_set M1 32 w2) 30 2 (nI (hh + 1)))) : wp 103 50 [some (.inr 30), l1] [] M1 Q := by
  simp (disch := first | assumption | exact isSc1 | exact isSc3 | exact isSc5 | decide | omega) only [iX8_records_50, iX8_records_51, Nat.reduceAdd, Nat.reduceSub, Nat.reduceMul, Nat.reduceLeDiff, mm_rv_s, mm_rv_n, true_and, and_true, if_true, if_false, not_true_eq_false, not_false_eq_true, nI_add, nz_0, nz_lt0, nz_0le, nz_0lt, nz_le0, nz_lt, nz_le, nz_eq, nz_cl, nz_in, nz_sub, nz_m1, pk_mul, set_o, set_ne, up_ne, up_set, n1_1, true_or, or_true, n1_01, n0_01, bI_01, bI_01b, bI_0, isSc1, isSc3, isSc5, ln_2, ln_4, ln_6, ln_8, ln_10, ln_11, ln_12, ln_13, ln_14, ln_16, ln_17, ln_18, ln_19, ln_20, ln_21, ln_23, ln_24, ln_25, ln_27, ln_28, ln_29, ln_31, ln_32, ln_33, ln_35, ln_36, ln_37]
  have loop : ∀ d i : Nat, i + d = 723 → ∀ w : Nat → Int32, (∀ x, x < i → w (723 * hh + x) = M1 31 x) → (∀ x, x < 723 * hh → w x = M1 32 x) → wp 103 52 [some (.inr 30), some (.inl (nI i))] [] (mm_set M1 32 w) Q := by
    intro d
    induction d with
    | zero =>
      intro i hi w hw hw2
      have hi : i = 723 := by omega
      subst hi
      rw [iX8_records_52]
      simp (disch := first | assumption | exact isSc1 | exact isSc3 | exact isSc5 | decide | omega) only [iX8_records_53, iX8_records_56, iX8_records_86, iX8_records_87, iX8_records_88, iX8_records_91, iX8_records_92, iX8_records_93, iX8_records_96, Nat.reduceAdd, Nat.reduceSub, Nat.reduceMul, Nat.reduceLeDiff, mm_rv_s, mm_rv_n, true_and, and_true, if_true, if_false, not_true_eq_false, not_false_eq_true, nI_add, nz_0, nz_lt0, nz_0le, nz_0lt, nz_le0, nz_lt, nz_le, nz_eq, nz_cl, nz_in, nz_sub, nz_m1, pk_mul, set_o, set_ne, up_ne, up_set, n1_1, true_or, or_true, n1_01, n0_01, bI_01, bI_01b, bI_0, isSc1, isSc3, isSc5, ln_2, ln_4, ln_6, ln_8, ln_10, ln_11, ln_12, ln_13, ln_14, ln_16, ln_17, ln_18, ln_19, ln_20, ln_21, ln_23, ln_24, ln_25, ln_27, ln_28, ln_29, ln_31, ln_32, ln_33, ln_35, ln_36, ln_37, hsz]
      exact hQ w hw hw2
    | succ d ih =>
      intro i hi w hw hw2
      rw [iX8_records_52]
      simp (disch := first | assumption | exact isSc1 | exact isSc3 | exact isSc5 | decide | omega) only [iX8_records_53, iX8_records_56, iX8_records_59, iX8_records_60, iX8_records_63, iX8_records_66, iX8_records_67, iX8_records_70, iX8_records_71, iX8_records_72, iX8_records_73, iX8_records_74, iX8_records_77, iX8_records_78, iX8_records_79, iX8_records_80, iX8_records_83, Nat.reduceAdd, Nat.reduceSub, Nat.reduceMul, Nat.reduceLeDiff, mm_rv_s, mm_rv_n, true_and, and_true, if_true, if_false, not_true_eq_false, not_false_eq_true, nI_add, nz_0, nz_lt0, nz_0le, nz_0lt, nz_le0, nz_lt, nz_le, nz_eq, nz_cl, nz_in, nz_sub, nz_m1, pk_mul, set_o, set_ne, up_ne, up_set, n1_1, true_or, or_true, n1_01, n0_01, bI_01, bI_01b, bI_0, isSc1, isSc3, isSc5, ln_2, ln_4, ln_6, ln_8, ln_10, ln_11, ln_12, ln_13, ln_14, ln_16, ln_17, ln_18, ln_19, ln_20, ln_21, ln_23, ln_24, ln_25, ln_27, ln_28, ln_29, ln_31, ln_32, ln_33, ln_35, ln_36, ln_37, hsz, show ¬ 723 ≤ i by omega]
      refine ih (i + 1) (by omega) _ (fun x hx => ?_) (fun x hx => ?_)
      · by_cases hj : x = i
        · subst hj; rw [us]
        · rw [un _ _ _ _ (by omega), hw x (by omega)]
      · rw [un _ _ _ _ (by omega), hw2 x hx]
  have := loop 723 0 (by omega) (M1 32) (fun x hx => absurd hx (by omega)) (fun x _ => rfl)
  rw [set_id] at this
  exact this
theorem m_records {H : Nat → St} (hD0 : isD (M 31) B L n g) (hn : n ≤ 60) (hsz : M 30 2 = nI h) (hhh : h ≤ 6) (hH : ∀ k, k < h → hD (M 32) k (H k)) (hHn : ∀ k, k < h → (H k).2.2.1 ≤ 60)
    (hQ : ∀ w2, (∀ k, k < pushN h → hD w2 k (pushH h H (B, L, n, g) k)) → Q none (mm_up (mm_set M 32 w2) 30 2 (nI (pushN h)))) : wc 103 [.inr 30] M Q := by
  by_cases h6 : h = 6
  · subst h6
    simp (disch := first | assumption | exact isSc1 | exact isSc3 | exact isSc5 | decide | omega) only [eX8_records, iX8_records_0, iX8_records_1, iX8_records_4, iX8_records_6, iX8_records_9, iX8_records_10, Nat.reduceAdd, Nat.reduceSub, Nat.reduceMul, Nat.reduceLeDiff, mm_rv_s, mm_rv_n, true_and, and_true, if_true, if_false, not_true_eq_false, not_false_eq_true, nI_add, nz_0, nz_lt0, nz_0le, nz_0lt, nz_le0, nz_lt, nz_le, nz_eq, nz_cl, nz_in, nz_sub, nz_m1, pk_mul, set_o, set_ne, up_ne, up_set, n1_1, true_or, or_true, n1_01, n0_01, bI_01, bI_01b, bI_0, isSc1, isSc3, isSc5, ln_2, ln_4, ln_6, ln_8, ln_10, ln_11, ln_12, ln_13, ln_14, ln_16, ln_17, ln_18, ln_19, ln_20, ln_21, ln_23, ln_24, ln_25, ln_27, ln_28, ln_29, ln_31, ln_32, ln_33, ln_35, ln_36, ln_37, hsz]
    have loop : ∀ d i : Nat, i + d = 3615 → wp 103 11 [some (.inr 30), some (.inl (nI i))] [] (mm_set M 32 (fun x => if x < i then M 32 (x + 723) else M 32 x)) Q := by
      intro d
      induction d with
      | zero =>
        intro i hi
        have hi : i = 3615 := by omega
        subst hi
        rw [iX8_records_11]
        simp (disch := first | assumption | exact isSc1 | exact isSc3 | exact isSc5 | decide | omega) only [iX8_records_12, iX8_records_15, iX8_records_40, iX8_records_41, iX8_records_42, iX8_records_45, iX8_records_46, iX8_records_47, Nat.reduceAdd, Nat.reduceSub, Nat.reduceMul, Nat.reduceLeDiff, mm_rv_s, mm_rv_n, true_and, and_true, if_true, if_false, not_true_eq_false, not_false_eq_true, nI_add, nz_0, nz_lt0, nz_0le, nz_0lt, nz_le0, nz_lt, nz_le, nz_eq, nz_cl, nz_in, nz_sub, nz_m1, pk_mul, set_o, set_ne, up_ne, up_set, n1_1, true_or, or_true, n1_01, n0_01, bI_01, bI_01b, bI_0, isSc1, isSc3, isSc5, ln_2, ln_4, ln_6, ln_8, ln_10, ln_11, ln_12, ln_13, ln_14, ln_16, ln_17, ln_18, ln_19, ln_20, ln_21, ln_23, ln_24, ln_25, ln_27, ln_28, ln_29, ln_31, ln_32, ln_33, ln_35, ln_36, ln_37, hsz]
        refine m_rec_tail (hh := 5) rfl (by decide) (fun w2 hw hw2 => ?_)
        have e4 : mm_up (mm_set (mm_up (mm_set M 32 (fun x => if x < 3615 then M 32 (x + 723) else M 32 x)) 30 2 (nI 5)) 32 w2) 30 2 (nI (5 + 1)) = mm_up (mm_set M 32 w2) 30 2 (nI 6) := by
          funext q j
          unfold mm_up mm_set upd
          by_cases q7 : q = 30
          · subst q7; simp; split <;> rfl
          · by_cases q8 : q = 32 <;> simp [q7, q8]
        rw [e4]
        refine hQ w2 (fun k hk => ?_)
        have hk : k < 6 := hk
        unfold pushH
        rw [if_pos rfl]
        by_cases hk5 : k < 5
        · rw [if_pos hk5]
          refine isD_cong (by have := hHn (k + 1) (by omega); omega) (fun x hx => ?_) (hH (k + 1) (by omega))
          show w2 (723 * k + x) = _
          rw [hw2 _ (by omega), up_ne _ _ _ (by decide), set_o, if_pos (by omega)]
          congr 1
          omega
        · rw [if_neg hk5]
          have : k = 5 := by omega
          subst this
          refine isD_cong (by show n ≤ 120; omega) (fun x hx => ?_) hD0
          show w2 (723 * 5 + x) = _
          rw [hw x hx, up_ne _ _ _ (by decide), set_ne _ _ (by decide)]
      | succ d ih =>
        intro i hi
        rw [iX8_records_11]
        simp (disch := first | assumption | exact isSc1 | exact isSc3 | exact isSc5 | decide | omega) only [iX8_records_12, iX8_records_15, iX8_records_18, iX8_records_19, iX8_records_22, iX8_records_23, iX8_records_24, iX8_records_27, iX8_records_28, iX8_records_31, iX8_records_32, iX8_records_33, iX8_records_34, iX8_records_37, Nat.reduceAdd, Nat.reduceSub, Nat.reduceMul, Nat.reduceLeDiff, mm_rv_s, mm_rv_n, true_and, and_true, if_true, if_false, not_true_eq_false, not_false_eq_true, nI_add, nz_0, nz_lt0, nz_0le, nz_0lt, nz_le0, nz_lt, nz_le, nz_eq, nz_cl, nz_in, nz_sub, nz_m1, pk_mul, set_o, set_ne, up_ne, up_set, n1_1, true_or, or_true, n1_01, n0_01, bI_01, bI_01b, bI_0, isSc1, isSc3, isSc5, ln_2, ln_4, ln_6, ln_8, ln_10, ln_11, ln_12, ln_13, ln_14, ln_16, ln_17, ln_18, ln_19, ln_20, ln_21, ln_23, ln_24, ln_25, ln_27, ln_28, ln_29, ln_31, ln_32, ln_33, ln_35, ln_36, ln_37, show ¬ 3615 ≤ i by omega]
        rw [if_neg (by omega)]
        have e : upd (fun x => if x < i then M 32 (x + 723) else M 32 x) i (M 32 (i + 723)) = (fun x => if x < i + 1 then M 32 (x + 723) else M 32 x) := by
          funext x
          unfold upd
          by_cases hx : x = i
          · subst hx; simp
          · by_cases hx2 : x < i
            · simp [hx, hx2, show x < i + 1 by omega]
            · simp [hx, hx2, show ¬ x < i + 1 by omega]
        rw [e]
        exact ih (i + 1) (by omega)
    have := loop 3615 0 (by omega)
    have e : mm_set M 32 (fun x => if x < 0 then M 32 (x + 723) else M 32 x) = M := by
      simp [set_id]
    rw [e] at this
    exact this
  · simp (disch := first | assumption | exact isSc1 | exact isSc3 | exact isSc5 | decide | omega) only [eX8_records, iX8_records_0, iX8_records_1, iX8_records_4, iX8_records_6, Nat.reduceAdd, Nat.reduceSub, Nat.reduceMul, Nat.reduceLeDiff, mm_rv_s, mm_rv_n, true_and, and_true, if_true, if_false, not_true_eq_false, not_false_eq_true, nI_add, nz_0, nz_lt0, nz_0le, nz_0lt, nz_le0, nz_lt, nz_le, nz_eq, nz_cl, nz_in, nz_sub, nz_m1, pk_mul, set_o, set_ne, up_ne, up_set, n1_1, true_or, or_true, n1_01, n0_01, bI_01, bI_01b, bI_0, isSc1, isSc3, isSc5, ln_2, ln_4, ln_6, ln_8, ln_10, ln_11, ln_12, ln_13, ln_14, ln_16, ln_17, ln_18, ln_19, ln_20, ln_21, ln_23, ln_24, ln_25, ln_27, ln_28, ln_29, ln_31, ln_32, ln_33, ln_35, ln_36, ln_37, hsz, h6]
    refine m_rec_tail (hh := h) hsz (by omega) (fun w2 hw hw2 => ?_)
    have e4 : nI (h + 1) = nI (pushN h) := by unfold pushN; rw [if_neg h6]
    rw [e4]
    refine hQ w2 (fun k hk => ?_)
    have hk : k < h + 1 := by unfold pushN at hk; rw [if_neg h6] at hk; exact hk
    unfold pushH
    rw [if_neg h6]
    by_cases hk5 : k < h
    · rw [if_pos hk5]
      refine isD_cong (by have := hHn k hk5; omega) (fun x hx => ?_) (hH k hk5)
      show w2 (723 * k + x) = _
      rw [hw2 _ (by omega)]
    · rw [if_neg hk5]
      have : k = h := by omega
      subst this
      refine isD_cong (by show n ≤ 120; omega) (fun x hx => ?_) hD0
      exact hw x hx
theorem m_undo (hsz : M 30 2 = nI (h + 1)) (hhh : h ≤ 5) (hH : hD (M 32) h (B, L, n, g)) (hn : n ≤ 60)
    (hQ : ∀ d2, isD d2 B L n g → Q (some (nI h)) (mm_set (mm_up M 30 2 (nI h)) 31 d2)) : wc 122 [.inr 30] M Q := by
  have eh : h + 1 - 1 = h := by omega
  have u7 : ∀ v, mm_up M 30 2 v 30 2 = v := fun v => by simp [mm_up, upd]
  simp (disch := first | assumption | exact isSc1 | exact isSc3 | exact isSc5 | decide | omega) only [eX8_undo, iX8_undo_0, iX8_undo_1, iX8_undo_4, iX8_undo_7, iX8_undo_10, iX8_undo_11, iX8_undo_12, iX8_undo_13, iX8_undo_16, iX8_undo_17, iX8_undo_18, iX8_undo_21, iX8_undo_22, Nat.reduceAdd, Nat.reduceSub, Nat.reduceMul, Nat.reduceLeDiff, mm_rv_s, mm_rv_n, true_and, and_true, if_true, if_false, not_true_eq_false, not_false_eq_true, nI_add, nz_0, nz_lt0, nz_0le, nz_0lt, nz_le0, nz_lt, nz_le, nz_eq, nz_cl, nz_in, nz_sub, nz_m1, pk_mul, set_o, set_ne, up_ne, up_set, n1_1, true_or, or_true, n1_01, n0_01, bI_01, bI_01b, bI_0, isSc1, isSc3, isSc5, ln_2, ln_4, ln_6, ln_8, ln_10, ln_11, ln_12, ln_13, ln_14, ln_16, ln_17, ln_18, ln_19, ln_20, ln_21, ln_23, ln_24, ln_25, ln_27, ln_28, ln_29, ln_31, ln_32, ln_33, ln_35, ln_36, ln_37, hsz, Nat.succ_ne_zero, eh]
  have loop : ∀ d i : Nat, i + d = 723 → ∀ f : Nat → Int32, (∀ x, x < i → f x = M 32 (723 * h + x)) → wp 122 23 [some (.inr 30), some (.inl (nI i))] [] (mm_set (mm_up M 30 2 (nI h)) 31 f) Q := by
    intro d
    induction d with
    | zero =>
      intro i hi f hf
      have hi : i = 723 := by omega
      subst hi
      rw [iX8_undo_23]
      simp (disch := first | assumption | exact isSc1 | exact isSc3 | exact isSc5 | decide | omega) only [iX8_undo_24, iX8_undo_27, iX8_undo_57, iX8_undo_58, iX8_undo_61, Nat.reduceAdd, Nat.reduceSub, Nat.reduceMul, Nat.reduceLeDiff, mm_rv_s, mm_rv_n, true_and, and_true, if_true, if_false, not_true_eq_false, not_false_eq_true, nI_add, nz_0, nz_lt0, nz_0le, nz_0lt, nz_le0, nz_lt, nz_le, nz_eq, nz_cl, nz_in, nz_sub, nz_m1, pk_mul, set_o, set_ne, up_ne, up_set, n1_1, true_or, or_true, n1_01, n0_01, bI_01, bI_01b, bI_0, isSc1, isSc3, isSc5, ln_2, ln_4, ln_6, ln_8, ln_10, ln_11, ln_12, ln_13, ln_14, ln_16, ln_17, ln_18, ln_19, ln_20, ln_21, ln_23, ln_24, ln_25, ln_27, ln_28, ln_29, ln_31, ln_32, ln_33, ln_35, ln_36, ln_37, u7]
      exact hQ f (isD_cong (by omega) hf hH)
    | succ d ih =>
      intro i hi f hf
      rw [iX8_undo_23]
      simp (disch := first | assumption | exact isSc1 | exact isSc3 | exact isSc5 | decide | omega) only [iX8_undo_24, iX8_undo_27, iX8_undo_30, iX8_undo_31, iX8_undo_34, iX8_undo_35, iX8_undo_36, iX8_undo_39, iX8_undo_42, iX8_undo_43, iX8_undo_46, iX8_undo_47, iX8_undo_48, iX8_undo_49, iX8_undo_50, iX8_undo_51, iX8_undo_54, Nat.reduceAdd, Nat.reduceSub, Nat.reduceMul, Nat.reduceLeDiff, mm_rv_s, mm_rv_n, true_and, and_true, if_true, if_false, not_true_eq_false, not_false_eq_true, nI_add, nz_0, nz_lt0, nz_0le, nz_0lt, nz_le0, nz_lt, nz_le, nz_eq, nz_cl, nz_in, nz_sub, nz_m1, pk_mul, set_o, set_ne, up_ne, up_set, n1_1, true_or, or_true, n1_01, n0_01, bI_01, bI_01b, bI_0, isSc1, isSc3, isSc5, ln_2, ln_4, ln_6, ln_8, ln_10, ln_11, ln_12, ln_13, ln_14, ln_16, ln_17, ln_18, ln_19, ln_20, ln_21, ln_23, ln_24, ln_25, ln_27, ln_28, ln_29, ln_31, ln_32, ln_33, ln_35, ln_36, ln_37, u7, show ¬ 723 ≤ i by omega]
      refine ih (i + 1) (by omega) _ (fun x hx => ?_)
      by_cases hj : x = i
      · subst hj; rw [us]
      · rw [un _ _ _ _ hj, hf x (by omega)]
  have := loop 723 0 (by omega) (M 31) (fun x hx => absurd hx (by omega))
  rw [show mm_set (mm_up M 30 2 (nI h)) 31 (M 31) = mm_up M 30 2 (nI h) from by
    have e := set_id (mm_up M 30 2 (nI h)) 31
    rw [up_ne _ _ _ (by decide)] at e
    exact e] at this
  exact this
end HIST2
