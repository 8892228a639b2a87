/-! PAIRS: removeSign, sign, signAt -/
def delG (g : Nat → Sg) (k : Nat) : Nat → Sg := fun i => if i < k then g i else g (i + 1)
theorem val_del {B n k : Nat} {g : Nat → Sg} (hv : Val B n g) (hk : k < n) : Val B (n - 1) (delG g k) := by
  obtain ⟨w1, w2, w3, v1, v2, v3⟩ := hv
  have e : ∀ i, i < n - 1 → (i < k ∧ delG g k i = g i) ∨ (k ≤ i ∧ delG g k i = g (i + 1)) := by
    intro i hi
    unfold delG
    by_cases h : i < k
    · exact Or.inl ⟨h, if_pos h⟩
    · exact Or.inr ⟨by omega, if_neg h⟩
  refine ⟨w1, w2, by omega, fun i hi => ?_, fun i j hij hj => ?_, fun i j hij hj hc => ?_⟩
  · rcases e i hi with ⟨h, e1⟩ | ⟨h, e1⟩ <;> rw [e1]
    · exact v1 i (by omega)
    · exact v1 (i + 1) (by omega)
  · rcases e i (by omega) with ⟨h, e1⟩ | ⟨h, e1⟩ <;> rcases e j hj with ⟨h2, e2⟩ | ⟨h2, e2⟩ <;> rw [e1, e2]
    · exact v2 i j hij (by omega)
    · exact v2 i (j + 1) (by omega) (by omega)
    · omega
    · exact v2 (i + 1) (j + 1) (by omega) (by omega)
  · rcases e i (by omega) with ⟨h, e1⟩ | ⟨h, e1⟩ <;> rcases e j hj with ⟨h2, e2⟩ | ⟨h2, e2⟩ <;> rw [e1, e2] at hc ⊢
    · exact v3 i j hij (by omega) hc
    · exact v3 i (j + 1) (by omega) (by omega) hc
    · omega
    · exact v3 (i + 1) (j + 1) (by omega) (by omega) hc
section REM
variable {M : mm_M} {Q : mm_Q} {B L n h : Nat} {g : Nat → Sg} {H : Nat → St} {s : Sg}
theorem p_takeOut (hC : isC M 1 B L n g) (hn : n ≤ 60) {k : Nat} (hk : k < n) (hQ : ∀ f2, (∀ i, i < n - 1 → f2 i = nI (pk (delG g k i))) → Q none (mm_up (mm_set M 2 f2) 1 2 (nI (n - 1)))) : wc 11 [.inr 1, .inl (nI k)] M Q := by
  obtain ⟨x0, x1, x2, x3⟩ := hC
  simp (disch := first | assumption | exact isSc1 | exact isSc3 | exact isSc5 | decide | omega) only [eX2_takeOut, iX2_takeOut_0, iX2_takeOut_1, iX2_takeOut_4, iX2_takeOut_5, iX2_takeOut_6, iX2_takeOut_9, iX2_takeOut_12, iX2_takeOut_13, iX2_takeOut_14, Nat.reduceAdd, Nat.reduceSub, Nat.reduceMul, Nat.reduceLeDiff, mm_rv_s, mm_rv_n, true_and, and_true, if_true, if_false, not_true_eq_false, not_false_eq_true, nI_add, nz_0, nz_lt0, nz_0le, nz_0lt, nz_le0, nz_lt, nz_le, nz_eq, nz_cl, nz_in, nz_sub, nz_m1, pk_mul, set_o, set_ne, up_ne, up_set, n1_1, true_or, or_true, n1_01, n0_01, bI_01, bI_01b, bI_0, isSc1, isSc3, isSc5, ln_2, ln_4, ln_6, ln_8, ln_10, ln_11, ln_12, ln_13, ln_14, ln_16, ln_17, ln_18, ln_19, ln_20, ln_21, ln_23, ln_24, ln_25, ln_27, ln_28, ln_29, ln_31, ln_32, ln_33, ln_35, ln_36, ln_37, x2, hk, show ¬ n ≤ k by omega]
  have loop : ∀ d i : Nat, i + d = n - 1 → k ≤ i → ∀ f : Nat → Int32, (∀ j, j < i → f j = nI (pk (delG g k j))) → (∀ j, i ≤ j → j < n → f j = nI (pk (g j))) → wp 11 15 [some (.inr 1), some (.inl (nI k)), some (.inl (nI i))] [] (mm_set M 2 f) Q := by
    intro d
    induction d with
    | zero =>
      intro i hi hki f hf hf2
      have hi : i = n - 1 := by omega
      subst hi
      rw [iX2_takeOut_15]
      simp (disch := first | assumption | exact isSc1 | exact isSc3 | exact isSc5 | decide | omega) only [iX2_takeOut_16, iX2_takeOut_17, iX2_takeOut_20, iX2_takeOut_21, iX2_takeOut_22, iX2_takeOut_45, iX2_takeOut_46, iX2_takeOut_47, iX2_takeOut_50, iX2_takeOut_51, iX2_takeOut_52, iX2_takeOut_55, Nat.reduceAdd, Nat.reduceSub, Nat.reduceMul, Nat.reduceLeDiff, mm_rv_s, mm_rv_n, true_and, and_true, if_true, if_false, not_true_eq_false, not_false_eq_true, nI_add, nz_0, nz_lt0, nz_0le, nz_0lt, nz_le0, nz_lt, nz_le, nz_eq, nz_cl, nz_in, nz_sub, nz_m1, pk_mul, set_o, set_ne, up_ne, up_set, n1_1, true_or, or_true, n1_01, n0_01, bI_01, bI_01b, bI_0, isSc1, isSc3, isSc5, ln_2, ln_4, ln_6, ln_8, ln_10, ln_11, ln_12, ln_13, ln_14, ln_16, ln_17, ln_18, ln_19, ln_20, ln_21, ln_23, ln_24, ln_25, ln_27, ln_28, ln_29, ln_31, ln_32, ln_33, ln_35, ln_36, ln_37, x2, Nat.le_refl]
      exact hQ f hf
    | succ d ih =>
      intro i hi hki f hf hf2
      rw [iX2_takeOut_15]
      simp (disch := first | assumption | exact isSc1 | exact isSc3 | exact isSc5 | decide | omega) only [iX2_takeOut_16, iX2_takeOut_17, iX2_takeOut_20, iX2_takeOut_21, iX2_takeOut_22, iX2_takeOut_25, iX2_takeOut_26, iX2_takeOut_29, iX2_takeOut_30, iX2_takeOut_31, iX2_takeOut_34, iX2_takeOut_35, iX2_takeOut_36, iX2_takeOut_37, iX2_takeOut_38, iX2_takeOut_39, iX2_takeOut_42, Nat.reduceAdd, Nat.reduceSub, Nat.reduceMul, Nat.reduceLeDiff, mm_rv_s, mm_rv_n, true_and, and_true, if_true, if_false, not_true_eq_false, not_false_eq_true, nI_add, nz_0, nz_lt0, nz_0le, nz_0lt, nz_le0, nz_lt, nz_le, nz_eq, nz_cl, nz_in, nz_sub, nz_m1, pk_mul, set_o, set_ne, up_ne, up_set, n1_1, true_or, or_true, n1_01, n0_01, bI_01, bI_01b, bI_0, isSc1, isSc3, isSc5, ln_2, ln_4, ln_6, ln_8, ln_10, ln_11, ln_12, ln_13, ln_14, ln_16, ln_17, ln_18, ln_19, ln_20, ln_21, ln_23, ln_24, ln_25, ln_27, ln_28, ln_29, ln_31, ln_32, ln_33, ln_35, ln_36, ln_37, x2, show ¬ n - 1 ≤ i by omega]
      refine ih (i + 1) (by omega) (by omega) _ (fun j hj => ?_) (fun j hj hjn => ?_)
      · by_cases hji : j = i
        · subst hji
          rw [us, hf2 _ (by omega) (by omega)]
          unfold delG
          rw [if_neg (by omega)]
        · rw [un _ _ _ _ hji]; exact hf j (by omega)
      · rw [un _ _ _ _ (by omega)]; exact hf2 j (by omega) hjn
  have := loop (n - 1 - k) k (by omega) (Nat.le_refl k) (M 2) (fun j hj => by rw [x3 j (by omega)]; unfold delG; rw [if_pos hj]) (fun j _ hj => x3 j hj)
  rw [set_id] at this
  exact this
theorem m_rm {M1 : mm_M} (hd : isD (M1 31) B L n g) (hn : n ≤ 60) {k : Nat} (hk : k < n) (hQ : ∀ d2, isD d2 B L (n - 1) (delG g k) → Q (some (nI (n - 1))) (mm_set M1 31 d2)) : wp 116 16 [some (.inr 30), some (.inl (nI k)), none, none] [] M1 Q := by
  obtain ⟨c0, c1, c2, c3⟩ := hd
  simp (disch := first | assumption | exact isSc1 | exact isSc3 | exact isSc5 | decide | omega) only [iX8_removeSign_16, iX8_removeSign_17, iX8_removeSign_20, iX8_removeSign_21, iX8_removeSign_22, iX8_removeSign_23, iX8_removeSign_24, iX8_removeSign_25, iX8_removeSign_26, iX8_removeSign_27, Nat.reduceAdd, Nat.reduceSub, Nat.reduceMul, Nat.reduceLeDiff, mm_rv_s, mm_rv_n, true_and, and_true, if_true, if_false, not_true_eq_false, not_false_eq_true, nI_add, nz_0, nz_lt0, nz_0le, nz_0lt, nz_le0, nz_lt, nz_le, nz_eq, nz_cl, nz_in, nz_sub, nz_m1, pk_mul, set_o, set_ne, up_ne, up_set, n1_1, true_or, or_true, n1_01, n0_01, bI_01, bI_01b, bI_0, isSc1, isSc3, isSc5, ln_2, ln_4, ln_6, ln_8, ln_10, ln_11, ln_12, ln_13, ln_14, ln_16, ln_17, ln_18, ln_19, ln_20, ln_21, ln_23, ln_24, ln_25, ln_27, ln_28, ln_29, ln_31, ln_32, ln_33, ln_35, ln_36, ln_37, c2]
  have loop : ∀ r i : Nat, i + r = n - 1 → k ≤ i → ∀ (d : Nat → Int32) (l3 : Option mm_V), d 0 = nI B → d 1 = nI L → d 2 = nI (n - 1) → (∀ j, j < i → fD d j (delG g k j)) → (∀ j, i ≤ j → j < n → fD d j (g j)) → wp 116 28 [some (.inr 30), some (.inl (nI k)), some (.inl (nI i)), l3] [] (mm_set M1 31 d) Q := by
    intro r
    induction r with
    | zero =>
      intro i hi hki d l3 e0 e1 e2 hf hf2
      have hi : i = n - 1 := by omega
      subst hi
      rw [iX8_removeSign_28]
      simp (disch := first | assumption | exact isSc1 | exact isSc3 | exact isSc5 | decide | omega) only [iX8_removeSign_29, iX8_removeSign_30, iX8_removeSign_33, iX8_removeSign_34, iX8_removeSign_35, iX8_removeSign_77, iX8_removeSign_78, iX8_removeSign_81, iX8_removeSign_82, iX8_removeSign_83, Nat.reduceAdd, Nat.reduceSub, Nat.reduceMul, Nat.reduceLeDiff, mm_rv_s, mm_rv_n, true_and, and_true, if_true, if_false, not_true_eq_false, not_false_eq_true, nI_add, nz_0, nz_lt0, nz_0le, nz_0lt, nz_le0, nz_lt, nz_le, nz_eq, nz_cl, nz_in, nz_sub, nz_m1, pk_mul, set_o, set_ne, up_ne, up_set, n1_1, true_or, or_true, n1_01, n0_01, bI_01, bI_01b, bI_0, isSc1, isSc3, isSc5, ln_2, ln_4, ln_6, ln_8, ln_10, ln_11, ln_12, ln_13, ln_14, ln_16, ln_17, ln_18, ln_19, ln_20, ln_21, ln_23, ln_24, ln_25, ln_27, ln_28, ln_29, ln_31, ln_32, ln_33, ln_35, ln_36, ln_37, e2, Nat.le_refl]
      exact hQ d ⟨e0, e1, e2, hf⟩
    | succ r ih =>
      intro i hi hki d l3 e0 e1 e2 hf hf2
      rw [iX8_removeSign_28]
      simp (disch := first | assumption | exact isSc1 | exact isSc3 | exact isSc5 | decide | omega) only [iX8_removeSign_29, iX8_removeSign_30, iX8_removeSign_33, iX8_removeSign_34, iX8_removeSign_35, iX8_removeSign_38, iX8_removeSign_39, Nat.reduceAdd, Nat.reduceSub, Nat.reduceMul, Nat.reduceLeDiff, mm_rv_s, mm_rv_n, true_and, and_true, if_true, if_false, not_true_eq_false, not_false_eq_true, nI_add, nz_0, nz_lt0, nz_0le, nz_0lt, nz_le0, nz_lt, nz_le, nz_eq, nz_cl, nz_in, nz_sub, nz_m1, pk_mul, set_o, set_ne, up_ne, up_set, n1_1, true_or, or_true, n1_01, n0_01, bI_01, bI_01b, bI_0, isSc1, isSc3, isSc5, ln_2, ln_4, ln_6, ln_8, ln_10, ln_11, ln_12, ln_13, ln_14, ln_16, ln_17, ln_18, ln_19, ln_20, ln_21, ln_23, ln_24, ln_25, ln_27, ln_28, ln_29, ln_31, ln_32, ln_33, ln_35, ln_36, ln_37, e2, show ¬ n - 1 ≤ i by omega]
      have st : ∀ (f : Nat) (d : Nat → Int32) (v : Int32), (f = 3 ∨ f = 123 ∨ f = 243 ∨ f = 363 ∨ f = 483 ∨ f = 603) → d (f + i + 1) = v → (wp 116 40 [some (.inr 30), some (.inl (nI k)), some (.inl (nI i)), some (.inl (nI f))] [] (mm_set M1 31 d) Q ↔ wp 116 40 [some (.inr 30), some (.inl (nI k)), some (.inl (nI i)), some (.inl (nI (f + 120)))] [] (mm_set M1 31 (upd d (f + i) v)) Q) := by
        intro f d v hf hv
        rw [iX8_removeSign_40]
        simp (disch := first | assumption | exact isSc1 | exact isSc3 | exact isSc5 | decide | omega) only [iX8_removeSign_41, iX8_removeSign_44, iX8_removeSign_47, iX8_removeSign_48, iX8_removeSign_51, iX8_removeSign_52, iX8_removeSign_53, iX8_removeSign_54, iX8_removeSign_55, iX8_removeSign_58, iX8_removeSign_59, iX8_removeSign_60, iX8_removeSign_61, iX8_removeSign_62, iX8_removeSign_63, iX8_removeSign_64, iX8_removeSign_65, iX8_removeSign_68, Nat.reduceAdd, Nat.reduceSub, Nat.reduceMul, Nat.reduceLeDiff, mm_rv_s, mm_rv_n, true_and, and_true, if_true, if_false, not_true_eq_false, not_false_eq_true, nI_add, nz_0, nz_lt0, nz_0le, nz_0lt, nz_le0, nz_lt, nz_le, nz_eq, nz_cl, nz_in, nz_sub, nz_m1, pk_mul, set_o, set_ne, up_ne, up_set, n1_1, true_or, or_true, n1_01, n0_01, bI_01, bI_01b, bI_0, isSc1, isSc3, isSc5, ln_2, ln_4, ln_6, ln_8, ln_10, ln_11, ln_12, ln_13, ln_14, ln_16, ln_17, ln_18, ln_19, ln_20, ln_21, ln_23, ln_24, ln_25, ln_27, ln_28, ln_29, ln_31, ln_32, ln_33, ln_35, ln_36, ln_37, show ¬ 723 ≤ f by omega, hv]
      obtain ⟨f1, f2, f3, f4, f5, f6⟩ := hf2 (i + 1) (by omega) (by omega)
      rw [st 3 d _ (by omega) f1, st 123 _ (nI (sB (g (i + 1)))) (by omega) (by rw [un _ _ _ _ (by omega)]; exact f2), st 243 _ (nI (sK (g (i + 1)))) (by omega) (by rw [un _ _ _ _ (by omega), un _ _ _ _ (by omega)]; exact f3), st 363 _ (nI (sN (g (i + 1)))) (by omega) (by rw [un _ _ _ _ (by omega), un _ _ _ _ (by omega), un _ _ _ _ (by omega)]; exact f4), st 483 _ (iZ (sW (g (i + 1)))) (by omega) (by rw [un _ _ _ _ (by omega), un _ _ _ _ (by omega), un _ _ _ _ (by omega), un _ _ _ _ (by omega)]; exact f5), st 603 _ (nI (sV (g (i + 1)))) (by omega) (by rw [un _ _ _ _ (by omega), un _ _ _ _ (by omega), un _ _ _ _ (by omega), un _ _ _ _ (by omega), un _ _ _ _ (by omega)]; exact f6)]
      rw [iX8_removeSign_40]
      simp (disch := first | assumption | exact isSc1 | exact isSc3 | exact isSc5 | decide | omega) only [iX8_removeSign_41, iX8_removeSign_44, iX8_removeSign_71, iX8_removeSign_74, Nat.reduceAdd, Nat.reduceSub, Nat.reduceMul, Nat.reduceLeDiff, mm_rv_s, mm_rv_n, true_and, and_true, if_true, if_false, not_true_eq_false, not_false_eq_true, nI_add, nz_0, nz_lt0, nz_0le, nz_0lt, nz_le0, nz_lt, nz_le, nz_eq, nz_cl, nz_in, nz_sub, nz_m1, pk_mul, set_o, set_ne, up_ne, up_set, n1_1, true_or, or_true, n1_01, n0_01, bI_01, bI_01b, bI_0, isSc1, isSc3, isSc5, ln_2, ln_4, ln_6, ln_8, ln_10, ln_11, ln_12, ln_13, ln_14, ln_16, ln_17, ln_18, ln_19, ln_20, ln_21, ln_23, ln_24, ln_25, ln_27, ln_28, ln_29, ln_31, ln_32, ln_33, ln_35, ln_36, ln_37, Nat.le_refl]
      have eD : upd (upd (upd (upd (upd (upd d (3 + i) (nI (sC (g (i + 1))))) (123 + i) (nI (sB (g (i + 1))))) (243 + i) (nI (sK (g (i + 1))))) (363 + i) (nI (sN (g (i + 1))))) (483 + i) (iZ (sW (g (i + 1))))) (603 + i) (nI (sV (g (i + 1)))) = putD d i (nI (sC (g (i + 1)))) (nI (sB (g (i + 1)))) (nI (sK (g (i + 1)))) (nI (sN (g (i + 1)))) (iZ (sW (g (i + 1)))) (nI (sV (g (i + 1)))) := rfl
      rw [eD]
      refine ih (i + 1) (by omega) (by omega) _ _ ?_ ?_ ?_ (fun j hj => ?_) (fun j hj hjn => ?_)
      · rw [putD_lo (by decide), e0]
      · rw [putD_lo (by decide), e1]
      · rw [putD_lo (by decide), e2]
      · by_cases hji : j = i
        · subst hji
          have e : delG g k j = g (j + 1) := by unfold delG; rw [if_neg (by omega)]
          rw [e]
          exact putD_at (g (j + 1)) (by omega)
        · exact putD_ne hji (by omega) (by omega) (hf j (by omega))
      · exact putD_ne (by omega) (by omega) (by omega) (hf2 j (by omega) hjn)
  have := loop (n - 1 - k) k (by omega) (Nat.le_refl k) (upd (M1 31) 2 (nI (n - 1))) none (by rw [un _ _ _ _ (by decide), c0]) (by rw [un _ _ _ _ (by decide), c1]) (us _ _ _) (fun j hj => ?_) (fun j _ hj => ?_)
  · have e : mm_up M1 31 2 (nI (n - 1)) = mm_set M1 31 (upd (M1 31) 2 (nI (n - 1))) := rfl
    first
    | exact this
    | (rw [e]; exact this)
  · have e : delG g k j = g j := by unfold delG; rw [if_pos hj]
    rw [e]
    obtain ⟨f1, f2, f3, f4, f5, f6⟩ := c3 j (by omega)
    exact ⟨by rw [un _ _ _ _ (by omega), f1], by rw [un _ _ _ _ (by omega), f2], by rw [un _ _ _ _ (by omega), f3], by rw [un _ _ _ _ (by omega), f4], by rw [un _ _ _ _ (by omega), f5], by rw [un _ _ _ _ (by omega), f6]⟩
  · obtain ⟨f1, f2, f3, f4, f5, f6⟩ := c3 j (by omega)
    exact ⟨by rw [un _ _ _ _ (by omega), f1], by rw [un _ _ _ _ (by omega), f2], by rw [un _ _ _ _ (by omega), f3], by rw [un _ _ _ _ (by omega), f4], by rw [un _ _ _ _ (by omega), f5], by rw [un _ _ _ _ (by omega), f6]⟩
theorem p_removeSign (hcur : Cur M B L n g) (hh : Hst M h H) (v : Int32) (h1 : ¬ (nI 0 ≤ v ∧ v ≤ nI n - nI 1) → Q (some (-1001)) M)
    (h2 : ∀ k, v = nI k → k < n → ∀ f2 f3, (∀ k, k < pushN h → hC f2 k (pushH h H (B, L, n, g) k)) → (∀ i, i < n - 1 → f3 i = nI (pk (delG g k i))) → Q (some (nI (n - 1))) (mm_up (mm_set (mm_up (mm_set M 8 f2) 7 0 (nI (pushN h))) 2 f3) 1 2 (nI (n - 1)))) : wc 67 [.inr 0, .inl v] M Q := by
  have x2 := hcur.2.2.2.1.2.2.1
  have hn := hcur.2.1
  simp (disch := first | assumption | exact isSc1 | exact isSc3 | exact isSc5 | decide | omega) only [eX7_removeSign, iX7_removeSign_0, iX7_removeSign_1, iX7_removeSign_2, iX7_removeSign_3, iX7_removeSign_6, iX7_removeSign_9, iX7_removeSign_10, iX7_removeSign_11, p_isWithin, x2, isSc1, ln_2, mm_rv_s, true_and]
  by_cases hr : nI 0 ≤ v ∧ v ≤ nI n - nI 1
  · obtain ⟨k, rfl, hk⟩ := in_upto (by omega) hr
    simp (disch := first | assumption | exact isSc1 | exact isSc3 | exact isSc5 | decide | omega) only [iX7_removeSign_14, iX7_removeSign_17, iX7_removeSign_20, iX7_removeSign_21, iX7_removeSign_22, iX7_removeSign_25, iX7_removeSign_26, iX7_removeSign_29, Nat.reduceAdd, Nat.reduceSub, Nat.reduceMul, Nat.reduceLeDiff, mm_rv_s, mm_rv_n, true_and, and_true, if_true, if_false, not_true_eq_false, not_false_eq_true, nI_add, nz_0, nz_lt0, nz_0le, nz_0lt, nz_le0, nz_lt, nz_le, nz_eq, nz_cl, nz_in, nz_sub, nz_m1, pk_mul, set_o, set_ne, up_ne, up_set, n1_1, true_or, or_true, n1_01, n0_01, bI_01, bI_01b, bI_0, isSc1, isSc3, isSc5, ln_2, ln_4, ln_6, ln_8, ln_10, ln_11, ln_12, ln_13, ln_14, ln_16, ln_17, ln_18, ln_19, ln_20, ln_21, ln_23, ln_24, ln_25, ln_27, ln_28, ln_29, ln_31, ln_32, ln_33, ln_35, ln_36, ln_37, show 0 ≤ k ∧ k ≤ n - 1 by omega, show k ≤ n - 1 by omega, Nat.zero_le, and_self, decide_true, Bool.true_eq_false]
    refine x_keep hcur hh (fun f2 hf => ?_)
    simp (disch := first | assumption | exact isSc1 | exact isSc3 | exact isSc5 | decide | omega) only [iX7_removeSign_32, iX7_removeSign_33, iX7_removeSign_36, iX7_removeSign_37, Nat.reduceAdd, Nat.reduceSub, Nat.reduceMul, Nat.reduceLeDiff, mm_rv_s, mm_rv_n, true_and, and_true, if_true, if_false, not_true_eq_false, not_false_eq_true, nI_add, nz_0, nz_lt0, nz_0le, nz_0lt, nz_le0, nz_lt, nz_le, nz_eq, nz_cl, nz_in, nz_sub, nz_m1, pk_mul, set_o, set_ne, up_ne, up_set, n1_1, true_or, or_true, n1_01, n0_01, bI_01, bI_01b, bI_0, isSc1, isSc3, isSc5, ln_2, ln_4, ln_6, ln_8, ln_10, ln_11, ln_12, ln_13, ln_14, ln_16, ln_17, ln_18, ln_19, ln_20, ln_21, ln_23, ln_24, ln_25, ln_27, ln_28, ln_29, ln_31, ln_32, ln_33, ln_35, ln_36, ln_37]
    refine p_takeOut (isC_cong (M := M) (by rw [up_ne _ _ _ (by decide), set_ne _ _ (by decide)]) (by rw [up_ne _ _ _ (by decide), set_ne _ _ (by decide)]) hcur.2.2.2.1) hn hk (fun f3 hf3 => ?_)
    simp (disch := first | assumption | exact isSc1 | exact isSc3 | exact isSc5 | decide | omega) only [iX7_removeSign_40, iX7_removeSign_41, iX7_removeSign_44, iX7_removeSign_47, Nat.reduceAdd, Nat.reduceSub, Nat.reduceMul, Nat.reduceLeDiff, mm_rv_s, mm_rv_n, true_and, and_true, if_true, if_false, not_true_eq_false, not_false_eq_true, nI_add, nz_0, nz_lt0, nz_0le, nz_0lt, nz_le0, nz_lt, nz_le, nz_eq, nz_cl, nz_in, nz_sub, nz_m1, pk_mul, set_o, set_ne, up_ne, up_set, n1_1, true_or, or_true, n1_01, n0_01, bI_01, bI_01b, bI_0, isSc1, isSc3, isSc5, ln_2, ln_4, ln_6, ln_8, ln_10, ln_11, ln_12, ln_13, ln_14, ln_16, ln_17, ln_18, ln_19, ln_20, ln_21, ln_23, ln_24, ln_25, ln_27, ln_28, ln_29, ln_31, ln_32, ln_33, ln_35, ln_36, ln_37, up_o, us]
    exact h2 k rfl hk f2 f3 hf hf3
  · simp (disch := first | assumption | exact isSc1 | exact isSc3 | exact isSc5 | decide | omega) only [iX7_removeSign_14, iX7_removeSign_17, iX7_removeSign_20, Nat.reduceAdd, Nat.reduceSub, Nat.reduceMul, Nat.reduceLeDiff, mm_rv_s, mm_rv_n, true_and, and_true, if_true, if_false, not_true_eq_false, not_false_eq_true, nI_add, nz_0, nz_lt0, nz_0le, nz_0lt, nz_le0, nz_lt, nz_le, nz_eq, nz_cl, nz_in, nz_sub, nz_m1, pk_mul, set_o, set_ne, up_ne, up_set, n1_1, true_or, or_true, n1_01, n0_01, bI_01, bI_01b, bI_0, isSc1, isSc3, isSc5, ln_2, ln_4, ln_6, ln_8, ln_10, ln_11, ln_12, ln_13, ln_14, ln_16, ln_17, ln_18, ln_19, ln_20, ln_21, ln_23, ln_24, ln_25, ln_27, ln_28, ln_29, ln_31, ln_32, ln_33, ln_35, ln_36, ln_37, hr, decide_false]
    exact h1 hr
theorem m_removeSign {M1 : mm_M} (hd : isD (M1 31) B L n g) (hn : n ≤ 60) (hh : Hst M h H) (h30 : M1 30 2 = M 30 2) (h32 : M1 32 = M 32) (v : Int32) (h1 : ¬ (nI 0 ≤ v ∧ v ≤ nI n - nI 1) → Q (some (-1001)) M1)
    (h2 : ∀ k, v = nI k → k < n → ∀ w2 d2, (∀ k, k < pushN h → hD w2 k (pushH h H (B, L, n, g) k)) → isD d2 B L (n - 1) (delG g k) → Q (some (nI (n - 1))) (mm_set (mm_up (mm_set M1 32 w2) 30 2 (nI (pushN h))) 31 d2)) : wc 116 [.inr 30, .inl v] M1 Q := by
  have x2 := hd.2.2.1
  simp (disch := first | assumption | exact isSc1 | exact isSc3 | exact isSc5 | decide | omega) only [eX8_removeSign, iX8_removeSign_0, iX8_removeSign_1, iX8_removeSign_2, m_isSign, x2]
  by_cases hr : nI 0 ≤ v ∧ v ≤ nI n - nI 1
  · obtain ⟨k, rfl, hk⟩ := in_upto (by omega) hr
    simp (disch := first | assumption | exact isSc1 | exact isSc3 | exact isSc5 | decide | omega) only [iX8_removeSign_5, iX8_removeSign_8, iX8_removeSign_11, iX8_removeSign_12, iX8_removeSign_13, Nat.reduceAdd, Nat.reduceSub, Nat.reduceMul, Nat.reduceLeDiff, mm_rv_s, mm_rv_n, true_and, and_true, if_true, if_false, not_true_eq_false, not_false_eq_true, nI_add, nz_0, nz_lt0, nz_0le, nz_0lt, nz_le0, nz_lt, nz_le, nz_eq, nz_cl, nz_in, nz_sub, nz_m1, pk_mul, set_o, set_ne, up_ne, up_set, n1_1, true_or, or_true, n1_01, n0_01, bI_01, bI_01b, bI_0, isSc1, isSc3, isSc5, ln_2, ln_4, ln_6, ln_8, ln_10, ln_11, ln_12, ln_13, ln_14, ln_16, ln_17, ln_18, ln_19, ln_20, ln_21, ln_23, ln_24, ln_25, ln_27, ln_28, ln_29, ln_31, ln_32, ln_33, ln_35, ln_36, ln_37, show 0 ≤ k ∧ k ≤ n - 1 by omega, show k ≤ n - 1 by omega, Nat.zero_le, and_self, decide_true, Bool.true_eq_false]
    refine x_records hd hn hh h30 h32 (fun w2 hw => ?_)
    simp (disch := first | assumption | exact isSc1 | exact isSc3 | exact isSc5 | decide | omega) only [mm_rv_n]
    refine m_rm (n := n) (g := g) (by rw [up_ne _ _ _ (by decide), set_ne _ _ (by decide)]; exact hd) hn hk (fun d2 hd2 => ?_)
    exact h2 k rfl hk w2 d2 hw hd2
  · simp (disch := first | assumption | exact isSc1 | exact isSc3 | exact isSc5 | decide | omega) only [iX8_removeSign_5, iX8_removeSign_8, iX8_removeSign_11, Nat.reduceAdd, Nat.reduceSub, Nat.reduceMul, Nat.reduceLeDiff, mm_rv_s, mm_rv_n, true_and, and_true, if_true, if_false, not_true_eq_false, not_false_eq_true, nI_add, nz_0, nz_lt0, nz_0le, nz_0lt, nz_le0, nz_lt, nz_le, nz_eq, nz_cl, nz_in, nz_sub, nz_m1, pk_mul, set_o, set_ne, up_ne, up_set, n1_1, true_or, or_true, n1_01, n0_01, bI_01, bI_01b, bI_0, isSc1, isSc3, isSc5, ln_2, ln_4, ln_6, ln_8, ln_10, ln_11, ln_12, ln_13, ln_14, ln_16, ln_17, ln_18, ln_19, ln_20, ln_21, ln_23, ln_24, ln_25, ln_27, ln_28, ln_29, ln_31, ln_32, ln_33, ln_35, ln_36, ln_37, hr, decide_false]
    exact h1 hr
theorem pr_removeSign (hI : Inv M) (a1 : Int32) : lw_pair Inv M 67 116 [.inl a1] := by
  obtain ⟨⟨B, L, n, g, hc⟩, ⟨h, H, hh⟩, ht, hw⟩ := id hI
  obtain ⟨hv, hn, hL, ⟨x0, x1, x2, x3⟩, hd⟩ := id hc
  refine p_removeSign hc hh a1 (fun hr => ⟨_, rfl, ?_⟩) (fun k hk hkn f2 f3 hf hf3 => ⟨_, rfl, ?_⟩)
  · refine m_removeSign hd hn hh rfl rfl a1 (fun _ => ⟨rfl, hI⟩) (fun k hk hkn => absurd ?_ hr)
    subst hk
    rw [sub_one (show 1 ≤ n by omega)]
    refine ⟨(nI_leI (by decide) (by omega)).mpr (by omega), (nI_leI (by omega) (by omega)).mpr (by omega)⟩
  · have sm : ∀ q, q ∉ [1, 2, 7, 8] → mm_up (mm_set (mm_up (mm_set M 8 f2) 7 0 (nI (pushN h))) 2 f3) 1 2 (nI (n - 1)) q = M q := fun q hq => by
      simp only [List.mem_cons, List.not_mem_nil, or_false, not_or] at hq
      rw [up_ne _ _ _ (by omega), set_ne _ _ (by omega), up_ne _ _ _ (by omega), set_ne _ _ (by omega)]
    have s7 : mm_up (mm_set (mm_up (mm_set M 8 f2) 7 0 (nI (pushN h))) 2 f3) 1 2 (nI (n - 1)) 7 0 = nI (pushN h) := by simp [mm_up, mm_set, upd]
    have s8 : mm_up (mm_set (mm_up (mm_set M 8 f2) 7 0 (nI (pushN h))) 2 f3) 1 2 (nI (n - 1)) 8 = f2 := by simp [mm_up, mm_set]
    have sC : isC (mm_up (mm_set (mm_up (mm_set M 8 f2) 7 0 (nI (pushN h))) 2 f3) 1 2 (nI (n - 1))) 1 B L (n - 1) (delG g k) := by
      refine ⟨?_, ?_, by simp [mm_up, mm_set, upd], fun i hi => ?_⟩
      · rw [← x0]; simp [mm_up, mm_set, upd]
      · rw [← x1]; simp [mm_up, mm_set, upd]
      · rw [← hf3 i hi]; simp [mm_up, mm_set]
    generalize mm_up (mm_set (mm_up (mm_set M 8 f2) 7 0 (nI (pushN h))) 2 f3) 1 2 (nI (n - 1)) = M1 at sm s7 s8 sC
    refine m_removeSign (M := M) (M1 := M1) (B := B) (L := L) (n := n) (g := g) (by rw [sm 31 (by decide)]; exact hd) hn hh (by rw [sm 30 (by decide)]) (by rw [sm 32 (by decide)]) a1 (fun hr2 => absurd ?_ hr2) (fun k2 hk2 _ w2 d2 hw2 hd2 => ⟨rfl, ?_⟩)
    · subst hk
      rw [sub_one (show 1 ≤ n by omega)]
      exact ⟨(nI_leI (by decide) (by omega)).mpr (by omega), (nI_leI (by omega) (by omega)).mpr (by omega)⟩
    have ek : k2 = k := by
      have : nI k2 = nI k := by rw [← hk, ← hk2]
      exact (nI_eq (by omega) (by omega)).mp this
    subst ek
    have sn : ∀ q, q ∉ [30, 31, 32] → mm_set (mm_up (mm_set M1 32 w2) 30 2 (nI (pushN h))) 31 d2 q = M1 q := fun q hq => by
      simp only [List.mem_cons, List.not_mem_nil, or_false, not_or] at hq
      rw [set_ne _ _ (by omega), up_ne _ _ _ (by omega), set_ne _ _ (by omega)]
    refine change_inv hc hh ht hw (B' := B) (L' := L) (n' := n - 1) (g' := delG g k2) ?_ ?_ ?_ ?_ ⟨val_del hv hkn, by omega, hL, isC_cong (sn 1 (by decide)) (sn 2 (by decide)) sC, by rw [set_o]; exact hd2⟩ (TK.of (fun q hq => ?_) ?_)
    · rw [sn 7 (by decide), s7]
    · simp [mm_up, mm_set, upd]
    · rw [sn 8 (by decide), s8]; exact hf
    · have e : mm_set (mm_up (mm_set M1 32 w2) 30 2 (nI (pushN h))) 31 d2 32 = w2 := by simp [mm_up, mm_set]
      rw [e]; exact hw2
    · rw [sn q ?_, sm q ?_] <;> (simp only [List.mem_cons, List.not_mem_nil, or_false] at hq; rcases hq with rfl | rfl | rfl | rfl | rfl | rfl <;> decide)
    · have e : mm_set (mm_up (mm_set M1 32 w2) 30 2 (nI (pushN h))) 31 d2 30 5 = M1 30 5 := by simp [mm_up, mm_set, upd]
      rw [e, sm 30 (by decide)]
end REM
