/-! THE WEIGHT, by the class: flights, and what is asked of it -/
section WG2
variable {B L n : Nat} {g : Nat → Sg} {M : mm_M} {Q : mm_Q}
theorem p_measureFlights {F : Nat → Nat} (hB : 4 ≤ B) (hB2 : B ≤ 48) (h9 : M 9 0 = nI B) (hF : ∀ t, t < B → M 12 t = nI (F t)) (hF3 : ∀ t, t < B → F t ≤ 3) (hQ : ∀ f, (∀ t, t < B → f t = nI (flN F B t)) → Q none (mm_set M 14 f)) : wc 55 [.inr 9] M Q := by
  have back : ∀ (l1 : Option mm_V) (t : Nat), t + 1 < B → ∀ f : Nat → Int32, (∀ s, t < s → s < B → f s = nI (flN F B s)) → (∀ s, s ≤ t → f s = nI (upN F (s + 1))) → wp 55 49 [some (.inr 9), l1, some (.inl (nI t))] [] (mm_set M 14 f) Q := by
    intro l1 t
    induction t with
    | zero =>
      intro ht f h1 h2
      have e0 : f 0 = nI (upN F 1) := h2 0 (Nat.le_refl 0)
      have e1 := h1 1 (by omega) (by omega)
      have hb : flN F B 0 = if 0 < upN F 1 ∧ 0 < flN F B 1 then flN F B 1 else upN F 1 := flN_back F (B := B) (t := 0) ht
      have hu : upN F 1 ≤ 1 := upN_le F 1
      have hl := flN_le F (show 1 < B by omega)
      have fin : ∀ f2 : Nat → Int32, (∀ s, s ≠ 0 → f2 s = f s) → f2 0 = nI (flN F B 0) → wp 55 87 [some (.inr 9), l1, some (.inl (nI 0))] [] (mm_set M 14 f2) Q := by
        intro f2 k1 k2
        have em : nI 0 + (-1 : Int32) = -1 := by decide
        have lt : (-1 : Int32) < 0 := by decide
        simp (disch := first | assumption | exact isSc1 | exact isSc3 | exact isSc5 | decide | omega) only [iX6_measureFlights_87, iX6_measureFlights_90, Nat.reduceAdd, Nat.reduceSub, Nat.reduceMul, Nat.reduceLeDiff, mm_rv_s, mm_rv_n, true_and, and_true, if_true, if_false, not_true_eq_false, not_false_eq_true, nI_add, nz_0, nz_lt0, nz_0le, nz_0lt, nz_le0, nz_lt, nz_le, nz_eq, nz_cl, nz_in, nz_sub, nz_m1, pk_mul, set_o, set_ne, up_ne, up_set, n1_1, true_or, or_true, n1_01, n0_01, bI_01, bI_01b, bI_0, isSc1, isSc3, isSc5, ln_2, ln_4, ln_6, ln_8, ln_10, ln_11, ln_12, ln_13, ln_14, ln_16, ln_17, ln_18, ln_19, ln_20, ln_21, ln_23, ln_24, ln_25, ln_27, ln_28, ln_29, em]
        rw [iX6_measureFlights_49]
        simp (disch := first | assumption | exact isSc1 | exact isSc3 | exact isSc5 | decide | omega) only [iX6_measureFlights_50, iX6_measureFlights_93, lt, if_true]
        refine hQ f2 (fun s hs => ?_)
        by_cases e : s = 0
        · rw [e]; exact k2
        · rw [k1 s e]; exact h1 s (by omega) hs
      rw [iX6_measureFlights_49]
      simp (disch := first | assumption | exact isSc1 | exact isSc3 | exact isSc5 | decide | omega) only [iX6_measureFlights_50, iX6_measureFlights_53, iX6_measureFlights_54, iX6_measureFlights_57, iX6_measureFlights_58, iX6_measureFlights_59, Nat.reduceAdd, Nat.reduceSub, Nat.reduceMul, Nat.reduceLeDiff, mm_rv_s, mm_rv_n, true_and, and_true, if_true, if_false, not_true_eq_false, not_false_eq_true, nI_add, nz_0, nz_lt0, nz_0le, nz_0lt, nz_le0, nz_lt, nz_le, nz_eq, nz_cl, nz_in, nz_sub, nz_m1, pk_mul, set_o, set_ne, up_ne, up_set, n1_1, true_or, or_true, n1_01, n0_01, bI_01, bI_01b, bI_0, isSc1, isSc3, isSc5, ln_2, ln_4, ln_6, ln_8, ln_10, ln_11, ln_12, ln_13, ln_14, ln_16, ln_17, ln_18, ln_19, ln_20, ln_21, ln_23, ln_24, ln_25, ln_27, ln_28, ln_29, e0]
      by_cases hp : upN F 1 = 0
      · simp (disch := first | assumption | exact isSc1 | exact isSc3 | exact isSc5 | decide | omega) only [Nat.reduceAdd, Nat.reduceSub, Nat.reduceMul, Nat.reduceLeDiff, mm_rv_s, mm_rv_n, true_and, and_true, if_true, if_false, not_true_eq_false, not_false_eq_true, nI_add, nz_0, nz_lt0, nz_0le, nz_0lt, nz_le0, nz_lt, nz_le, nz_eq, nz_cl, nz_in, nz_sub, nz_m1, pk_mul, set_o, set_ne, up_ne, up_set, n1_1, true_or, or_true, n1_01, n0_01, bI_01, bI_01b, bI_0, isSc1, isSc3, isSc5, ln_2, ln_4, ln_6, ln_8, ln_10, ln_11, ln_12, ln_13, ln_14, ln_16, ln_17, ln_18, ln_19, ln_20, ln_21, ln_23, ln_24, ln_25, ln_27, ln_28, ln_29, hp]
        exact fin f (fun _ _ => rfl) (by rw [e0, hb, if_neg (by omega)])
      · simp (disch := first | assumption | exact isSc1 | exact isSc3 | exact isSc5 | decide | omega) only [iX6_measureFlights_62, iX6_measureFlights_63, iX6_measureFlights_66, iX6_measureFlights_67, iX6_measureFlights_68, iX6_measureFlights_69, iX6_measureFlights_70, Nat.reduceAdd, Nat.reduceSub, Nat.reduceMul, Nat.reduceLeDiff, mm_rv_s, mm_rv_n, true_and, and_true, if_true, if_false, not_true_eq_false, not_false_eq_true, nI_add, nz_0, nz_lt0, nz_0le, nz_0lt, nz_le0, nz_lt, nz_le, nz_eq, nz_cl, nz_in, nz_sub, nz_m1, pk_mul, set_o, set_ne, up_ne, up_set, n1_1, true_or, or_true, n1_01, n0_01, bI_01, bI_01b, bI_0, isSc1, isSc3, isSc5, ln_2, ln_4, ln_6, ln_8, ln_10, ln_11, ln_12, ln_13, ln_14, ln_16, ln_17, ln_18, ln_19, ln_20, ln_21, ln_23, ln_24, ln_25, ln_27, ln_28, ln_29, hp, e1]
        by_cases hq : flN F B 1 = 0
        · simp (disch := first | assumption | exact isSc1 | exact isSc3 | exact isSc5 | decide | omega) only [Nat.reduceAdd, Nat.reduceSub, Nat.reduceMul, Nat.reduceLeDiff, mm_rv_s, mm_rv_n, true_and, and_true, if_true, if_false, not_true_eq_false, not_false_eq_true, nI_add, nz_0, nz_lt0, nz_0le, nz_0lt, nz_le0, nz_lt, nz_le, nz_eq, nz_cl, nz_in, nz_sub, nz_m1, pk_mul, set_o, set_ne, up_ne, up_set, n1_1, true_or, or_true, n1_01, n0_01, bI_01, bI_01b, bI_0, isSc1, isSc3, isSc5, ln_2, ln_4, ln_6, ln_8, ln_10, ln_11, ln_12, ln_13, ln_14, ln_16, ln_17, ln_18, ln_19, ln_20, ln_21, ln_23, ln_24, ln_25, ln_27, ln_28, ln_29, hq]
          exact fin f (fun _ _ => rfl) (by rw [e0, hb, if_neg (by omega)])
        · simp (disch := first | assumption | exact isSc1 | exact isSc3 | exact isSc5 | decide | omega) only [iX6_measureFlights_73, iX6_measureFlights_74, iX6_measureFlights_77, iX6_measureFlights_78, iX6_measureFlights_79, iX6_measureFlights_82, iX6_measureFlights_83, iX6_measureFlights_84, iX6_measureFlights_85, iX6_measureFlights_86, Nat.reduceAdd, Nat.reduceSub, Nat.reduceMul, Nat.reduceLeDiff, mm_rv_s, mm_rv_n, true_and, and_true, if_true, if_false, not_true_eq_false, not_false_eq_true, nI_add, nz_0, nz_lt0, nz_0le, nz_0lt, nz_le0, nz_lt, nz_le, nz_eq, nz_cl, nz_in, nz_sub, nz_m1, pk_mul, set_o, set_ne, up_ne, up_set, n1_1, true_or, or_true, n1_01, n0_01, bI_01, bI_01b, bI_0, isSc1, isSc3, isSc5, ln_2, ln_4, ln_6, ln_8, ln_10, ln_11, ln_12, ln_13, ln_14, ln_16, ln_17, ln_18, ln_19, ln_20, ln_21, ln_23, ln_24, ln_25, ln_27, ln_28, ln_29, hq, e1]
          exact fin _ (fun s hs => un _ _ _ _ hs) (by rw [us, hb, if_pos (by omega)])
    | succ t ih =>
      intro ht f h1 h2
      have e0 := h2 (t + 1) (Nat.le_refl _)
      have e1 := h1 (t + 1 + 1) (by omega) (by omega)
      have hb := flN_back F (B := B) (t := t + 1) ht
      have hu := upN_le F (t + 1 + 1)
      have hl := flN_le F (show t + 1 + 1 < B by omega)
      have fin : ∀ f2 : Nat → Int32, (∀ s, s ≠ t + 1 → f2 s = f s) → f2 (t + 1) = nI (flN F B (t + 1)) → wp 55 87 [some (.inr 9), l1, some (.inl (nI (t + 1)))] [] (mm_set M 14 f2) Q := by
        intro f2 k1 k2
        simp (disch := first | assumption | exact isSc1 | exact isSc3 | exact isSc5 | decide | omega) only [iX6_measureFlights_87, iX6_measureFlights_90, Nat.reduceAdd, Nat.reduceSub, Nat.reduceMul, Nat.reduceLeDiff, mm_rv_s, mm_rv_n, true_and, and_true, if_true, if_false, not_true_eq_false, not_false_eq_true, nI_add, nz_0, nz_lt0, nz_0le, nz_0lt, nz_le0, nz_lt, nz_le, nz_eq, nz_cl, nz_in, nz_sub, nz_m1, pk_mul, set_o, set_ne, up_ne, up_set, n1_1, true_or, or_true, n1_01, n0_01, bI_01, bI_01b, bI_0, isSc1, isSc3, isSc5, ln_2, ln_4, ln_6, ln_8, ln_10, ln_11, ln_12, ln_13, ln_14, ln_16, ln_17, ln_18, ln_19, ln_20, ln_21, ln_23, ln_24, ln_25, ln_27, ln_28, ln_29, Nat.add_sub_cancel]
        refine ih (by omega) f2 (fun s hs hsB => ?_) (fun s hs => ?_)
        · by_cases e : s = t + 1
          · rw [e]; exact k2
          · rw [k1 s e]; exact h1 s (by omega) hsB
        · rw [k1 s (by omega)]; exact h2 s (by omega)
      rw [iX6_measureFlights_49]
      simp (disch := first | assumption | exact isSc1 | exact isSc3 | exact isSc5 | decide | omega) only [iX6_measureFlights_50, iX6_measureFlights_53, iX6_measureFlights_54, iX6_measureFlights_57, iX6_measureFlights_58, iX6_measureFlights_59, Nat.reduceAdd, Nat.reduceSub, Nat.reduceMul, Nat.reduceLeDiff, mm_rv_s, mm_rv_n, true_and, and_true, if_true, if_false, not_true_eq_false, not_false_eq_true, nI_add, nz_0, nz_lt0, nz_0le, nz_0lt, nz_le0, nz_lt, nz_le, nz_eq, nz_cl, nz_in, nz_sub, nz_m1, pk_mul, set_o, set_ne, up_ne, up_set, n1_1, true_or, or_true, n1_01, n0_01, bI_01, bI_01b, bI_0, isSc1, isSc3, isSc5, ln_2, ln_4, ln_6, ln_8, ln_10, ln_11, ln_12, ln_13, ln_14, ln_16, ln_17, ln_18, ln_19, ln_20, ln_21, ln_23, ln_24, ln_25, ln_27, ln_28, ln_29, e0]
      by_cases hp : upN F (t + 1 + 1) = 0
      · have hp2 : upN F (t + 2) = 0 := hp
        simp (disch := first | assumption | exact isSc1 | exact isSc3 | exact isSc5 | decide | omega) only [Nat.reduceAdd, Nat.reduceSub, Nat.reduceMul, Nat.reduceLeDiff, mm_rv_s, mm_rv_n, true_and, and_true, if_true, if_false, not_true_eq_false, not_false_eq_true, nI_add, nz_0, nz_lt0, nz_0le, nz_0lt, nz_le0, nz_lt, nz_le, nz_eq, nz_cl, nz_in, nz_sub, nz_m1, pk_mul, set_o, set_ne, up_ne, up_set, n1_1, true_or, or_true, n1_01, n0_01, bI_01, bI_01b, bI_0, isSc1, isSc3, isSc5, ln_2, ln_4, ln_6, ln_8, ln_10, ln_11, ln_12, ln_13, ln_14, ln_16, ln_17, ln_18, ln_19, ln_20, ln_21, ln_23, ln_24, ln_25, ln_27, ln_28, ln_29, Nat.add_assoc, hp2]
        exact fin f (fun _ _ => rfl) (by rw [e0, hb, if_neg (by omega)])
      · have hp2 : ¬ upN F (t + 2) = 0 := hp
        have e1' : f (t + 2) = nI (flN F B (t + 2)) := e1
        have hl2 : flN F B (t + 2) ≤ B := hl
        simp (disch := first | assumption | exact isSc1 | exact isSc3 | exact isSc5 | decide | omega) only [iX6_measureFlights_62, iX6_measureFlights_63, iX6_measureFlights_66, iX6_measureFlights_67, iX6_measureFlights_68, iX6_measureFlights_69, iX6_measureFlights_70, Nat.reduceAdd, Nat.reduceSub, Nat.reduceMul, Nat.reduceLeDiff, mm_rv_s, mm_rv_n, true_and, and_true, if_true, if_false, not_true_eq_false, not_false_eq_true, nI_add, nz_0, nz_lt0, nz_0le, nz_0lt, nz_le0, nz_lt, nz_le, nz_eq, nz_cl, nz_in, nz_sub, nz_m1, pk_mul, set_o, set_ne, up_ne, up_set, n1_1, true_or, or_true, n1_01, n0_01, bI_01, bI_01b, bI_0, isSc1, isSc3, isSc5, ln_2, ln_4, ln_6, ln_8, ln_10, ln_11, ln_12, ln_13, ln_14, ln_16, ln_17, ln_18, ln_19, ln_20, ln_21, ln_23, ln_24, ln_25, ln_27, ln_28, ln_29, Nat.add_assoc, hp2, e1']
        by_cases hq : flN F B (t + 2) = 0
        · have hq1 : flN F B (t + 1 + 1) = 0 := hq
          simp (disch := first | assumption | exact isSc1 | exact isSc3 | exact isSc5 | decide | omega) only [Nat.reduceAdd, Nat.reduceSub, Nat.reduceMul, Nat.reduceLeDiff, mm_rv_s, mm_rv_n, true_and, and_true, if_true, if_false, not_true_eq_false, not_false_eq_true, nI_add, nz_0, nz_lt0, nz_0le, nz_0lt, nz_le0, nz_lt, nz_le, nz_eq, nz_cl, nz_in, nz_sub, nz_m1, pk_mul, set_o, set_ne, up_ne, up_set, n1_1, true_or, or_true, n1_01, n0_01, bI_01, bI_01b, bI_0, isSc1, isSc3, isSc5, ln_2, ln_4, ln_6, ln_8, ln_10, ln_11, ln_12, ln_13, ln_14, ln_16, ln_17, ln_18, ln_19, ln_20, ln_21, ln_23, ln_24, ln_25, ln_27, ln_28, ln_29, hq]
          exact fin f (fun _ _ => rfl) (by rw [e0, hb, if_neg (by omega)])
        · have hq1 : ¬ flN F B (t + 1 + 1) = 0 := hq
          simp (disch := first | assumption | exact isSc1 | exact isSc3 | exact isSc5 | decide | omega) only [iX6_measureFlights_73, iX6_measureFlights_74, iX6_measureFlights_77, iX6_measureFlights_78, iX6_measureFlights_79, iX6_measureFlights_82, iX6_measureFlights_83, iX6_measureFlights_84, iX6_measureFlights_85, iX6_measureFlights_86, Nat.reduceAdd, Nat.reduceSub, Nat.reduceMul, Nat.reduceLeDiff, mm_rv_s, mm_rv_n, true_and, and_true, if_true, if_false, not_true_eq_false, not_false_eq_true, nI_add, nz_0, nz_lt0, nz_0le, nz_0lt, nz_le0, nz_lt, nz_le, nz_eq, nz_cl, nz_in, nz_sub, nz_m1, pk_mul, set_o, set_ne, up_ne, up_set, n1_1, true_or, or_true, n1_01, n0_01, bI_01, bI_01b, bI_0, isSc1, isSc3, isSc5, ln_2, ln_4, ln_6, ln_8, ln_10, ln_11, ln_12, ln_13, ln_14, ln_16, ln_17, ln_18, ln_19, ln_20, ln_21, ln_23, ln_24, ln_25, ln_27, ln_28, ln_29, Nat.add_assoc, hq, e1']
          exact fin _ (fun s hs => un _ _ _ _ hs) (by rw [us, hb, if_pos (by omega)])
  have forth : ∀ d i : Nat, i + d = B → ∀ f : Nat → Int32, (∀ s, s < i → f s = nI (upN F (s + 1))) → wp 55 4 [some (.inr 9), some (.inl (nI (upN F i))), some (.inl (nI i))] [] (mm_set M 14 f) Q := by
    intro d
    induction d with
    | zero =>
      intro i hi f h1
      have hi : i = B := by omega
      subst hi
      rw [iX6_measureFlights_4]
      simp (disch := first | assumption | exact isSc1 | exact isSc3 | exact isSc5 | decide | omega) only [iX6_measureFlights_5, iX6_measureFlights_6, iX6_measureFlights_9, iX6_measureFlights_42, iX6_measureFlights_43, iX6_measureFlights_46, iX6_measureFlights_47, iX6_measureFlights_48, Nat.reduceAdd, Nat.reduceSub, Nat.reduceMul, Nat.reduceLeDiff, mm_rv_s, mm_rv_n, true_and, and_true, if_true, if_false, not_true_eq_false, not_false_eq_true, nI_add, nz_0, nz_lt0, nz_0le, nz_0lt, nz_le0, nz_lt, nz_le, nz_eq, nz_cl, nz_in, nz_sub, nz_m1, pk_mul, set_o, set_ne, up_ne, up_set, n1_1, true_or, or_true, n1_01, n0_01, bI_01, bI_01b, bI_0, isSc1, isSc3, isSc5, ln_2, ln_4, ln_6, ln_8, ln_10, ln_11, ln_12, ln_13, ln_14, ln_16, ln_17, ln_18, ln_19, ln_20, ln_21, ln_23, ln_24, ln_25, ln_27, ln_28, ln_29, h9, Nat.le_refl]
      refine back _ (i - 2) (by omega) f (fun s hs hsB => ?_) (fun s hs => h1 s (by omega))
      have : s = i - 1 := by omega
      subst this
      rw [h1 _ (by omega), flN_last F (by omega)]
      congr 2
      omega
    | succ d ih =>
      intro i hi f h1
      have hf := hF i (by omega)
      have h3 := hF3 i (by omega)
      have hu := upN_le F i
      have fin : wp 55 28 [some (.inr 9), some (.inl (nI (upN F i))), some (.inl (nI i))] [.inl (nI (upN F (i + 1)))] (mm_set M 14 f) Q := by
        simp (disch := first | assumption | exact isSc1 | exact isSc3 | exact isSc5 | decide | omega) only [iX6_measureFlights_28, iX6_measureFlights_29, iX6_measureFlights_30, iX6_measureFlights_33, iX6_measureFlights_34, iX6_measureFlights_35, iX6_measureFlights_36, iX6_measureFlights_39, Nat.reduceAdd, Nat.reduceSub, Nat.reduceMul, Nat.reduceLeDiff, mm_rv_s, mm_rv_n, true_and, and_true, if_true, if_false, not_true_eq_false, not_false_eq_true, nI_add, nz_0, nz_lt0, nz_0le, nz_0lt, nz_le0, nz_lt, nz_le, nz_eq, nz_cl, nz_in, nz_sub, nz_m1, pk_mul, set_o, set_ne, up_ne, up_set, n1_1, true_or, or_true, n1_01, n0_01, bI_01, bI_01b, bI_0, isSc1, isSc3, isSc5, ln_2, ln_4, ln_6, ln_8, ln_10, ln_11, ln_12, ln_13, ln_14, ln_16, ln_17, ln_18, ln_19, ln_20, ln_21, ln_23, ln_24, ln_25, ln_27, ln_28, ln_29]
        refine ih (i + 1) (by omega) _ (fun s hs => ?_)
        by_cases e : s = i
        · rw [e, us]
        · rw [un _ _ _ _ e]; exact h1 s (by omega)
      rw [iX6_measureFlights_4]
      simp (disch := first | assumption | exact isSc1 | exact isSc3 | exact isSc5 | decide | omega) only [iX6_measureFlights_5, iX6_measureFlights_6, iX6_measureFlights_9, iX6_measureFlights_12, iX6_measureFlights_13, iX6_measureFlights_16, iX6_measureFlights_17, iX6_measureFlights_18, Nat.reduceAdd, Nat.reduceSub, Nat.reduceMul, Nat.reduceLeDiff, mm_rv_s, mm_rv_n, true_and, and_true, if_true, if_false, not_true_eq_false, not_false_eq_true, nI_add, nz_0, nz_lt0, nz_0le, nz_0lt, nz_le0, nz_lt, nz_le, nz_eq, nz_cl, nz_in, nz_sub, nz_m1, pk_mul, set_o, set_ne, up_ne, up_set, n1_1, true_or, or_true, n1_01, n0_01, bI_01, bI_01b, bI_0, isSc1, isSc3, isSc5, ln_2, ln_4, ln_6, ln_8, ln_10, ln_11, ln_12, ln_13, ln_14, ln_16, ln_17, ln_18, ln_19, ln_20, ln_21, ln_23, ln_24, ln_25, ln_27, ln_28, ln_29, h9, show ¬ B ≤ i by omega, hf]
      by_cases h0 : F i = 0
      · have e : upN F (i + 1) = upN F i + 1 := by simp only [upN, h0, if_true]
        rw [e] at fin
        simp (disch := first | assumption | exact isSc1 | exact isSc3 | exact isSc5 | decide | omega) only [iX6_measureFlights_21, iX6_measureFlights_22, iX6_measureFlights_23, iX6_measureFlights_24, Nat.reduceAdd, Nat.reduceSub, Nat.reduceMul, Nat.reduceLeDiff, mm_rv_s, mm_rv_n, true_and, and_true, if_true, if_false, not_true_eq_false, not_false_eq_true, nI_add, nz_0, nz_lt0, nz_0le, nz_0lt, nz_le0, nz_lt, nz_le, nz_eq, nz_cl, nz_in, nz_sub, nz_m1, pk_mul, set_o, set_ne, up_ne, up_set, n1_1, true_or, or_true, n1_01, n0_01, bI_01, bI_01b, bI_0, isSc1, isSc3, isSc5, ln_2, ln_4, ln_6, ln_8, ln_10, ln_11, ln_12, ln_13, ln_14, ln_16, ln_17, ln_18, ln_19, ln_20, ln_21, ln_23, ln_24, ln_25, ln_27, ln_28, ln_29, h0]
        exact fin
      · have e : upN F (i + 1) = 0 := by simp only [upN, h0, if_false]
        rw [e] at fin
        simp (disch := first | assumption | exact isSc1 | exact isSc3 | exact isSc5 | decide | omega) only [iX6_measureFlights_27, Nat.reduceAdd, Nat.reduceSub, Nat.reduceMul, Nat.reduceLeDiff, mm_rv_s, mm_rv_n, true_and, and_true, if_true, if_false, not_true_eq_false, not_false_eq_true, nI_add, nz_0, nz_lt0, nz_0le, nz_0lt, nz_le0, nz_lt, nz_le, nz_eq, nz_cl, nz_in, nz_sub, nz_m1, pk_mul, set_o, set_ne, up_ne, up_set, n1_1, true_or, or_true, n1_01, n0_01, bI_01, bI_01b, bI_0, isSc1, isSc3, isSc5, ln_2, ln_4, ln_6, ln_8, ln_10, ln_11, ln_12, ln_13, ln_14, ln_16, ln_17, ln_18, ln_19, ln_20, ln_21, ln_23, ln_24, ln_25, ln_27, ln_28, ln_29, h0]
        exact fin
  simp (disch := first | assumption | exact isSc1 | exact isSc3 | exact isSc5 | decide | omega) only [eX6_measureFlights, iX6_measureFlights_0, iX6_measureFlights_1, iX6_measureFlights_2, iX6_measureFlights_3]
  have := forth B 0 (by omega) (M 14) (fun s hs => absurd hs (by omega))
  rw [set_id] at this
  exact this
def Wgt (M : mm_M) (B L n : Nat) (g : Nat → Sg) : Prop := M 9 0 = nI B ∧ M 9 1 = nI L ∧ (∀ t, t < B → M 12 t = nI (ftN B n g t)) ∧ (∀ t, t < B → M 13 t = nI (twN B n g t)) ∧ (∀ t, t < B → M 14 t = nI (flN (ftN B n g) B t))
theorem ftN_le (B n : Nat) (g : Nat → Sg) (t : Nat) : ftN B n g t ≤ 3 := by unfold ftN; split <;> split <;> omega
theorem twN_le (B n : Nat) (g : Nat → Sg) (t : Nat) : twN B n g t ≤ 3 := by unfold twN; split <;> split <;> omega
theorem p_weigh (hC : isC M 1 B L n g) (hv : Val B n g) (hQ : ∀ M', Same [9, 10, 11, 12, 13, 14] M M' → Wgt M' B L n g → Q none M') : wc 52 [.inr 9, .inr 1] M Q := by
  obtain ⟨x0, x1, x2, x3⟩ := id hC
  have w1 := hv.1
  have w2 := hv.2.1
  simp (disch := first | assumption | exact isSc1 | exact isSc3 | exact isSc5 | decide | omega) only [eX6_weigh, iX6_weigh_0, iX6_weigh_1, iX6_weigh_2, iX6_weigh_5, iX6_weigh_8, iX6_weigh_9, iX6_weigh_10, iX6_weigh_13, iX6_weigh_16, iX6_weigh_17, iX6_weigh_20, iX6_weigh_21, iX6_weigh_24, iX6_weigh_25, iX6_weigh_28, iX6_weigh_29, iX6_weigh_32, iX6_weigh_33, iX6_weigh_34, iX6_weigh_35, Nat.reduceAdd, Nat.reduceSub, Nat.reduceMul, Nat.reduceLeDiff, mm_rv_s, mm_rv_n, true_and, and_true, if_true, if_false, not_true_eq_false, not_false_eq_true, nI_add, nz_0, nz_lt0, nz_0le, nz_0lt, nz_le0, nz_lt, nz_le, nz_eq, nz_cl, nz_in, nz_sub, nz_m1, pk_mul, set_o, set_ne, up_ne, up_set, n1_1, true_or, or_true, n1_01, n0_01, bI_01, bI_01b, bI_0, isSc1, isSc3, isSc5, ln_2, ln_4, ln_6, ln_8, ln_10, ln_11, ln_12, ln_13, ln_14, ln_16, ln_17, ln_18, ln_19, ln_20, ln_21, ln_23, ln_24, ln_25, ln_27, ln_28, ln_29, x0, x1, p_fill]
  have hS0 : Same [9, 12, 13] M (mm_set (mm_set (mm_up (mm_up M 9 0 (nI B)) 9 1 (nI L)) 12 (fillA (M 12) 48 (nI 0))) 13 (fillA (M 13) 48 (nI 0))) := ((((Same.rf [9, 12, 13] M).up (by decide) _ _).up (by decide) _ _).set (by decide) _).set (by decide) _
  have a1 : mm_set (mm_set (mm_up (mm_up M 9 0 (nI B)) 9 1 (nI L)) 12 (fillA (M 12) 48 (nI 0))) 13 (fillA (M 13) 48 (nI 0)) 9 0 = nI B := by simp [mm_up, mm_set, upd]
  have a2 : mm_set (mm_set (mm_up (mm_up M 9 0 (nI B)) 9 1 (nI L)) 12 (fillA (M 12) 48 (nI 0))) 13 (fillA (M 13) 48 (nI 0)) 9 1 = nI L := by simp [mm_up, mm_set, upd]
  have a3 : ∀ t, t < B → mm_set (mm_set (mm_up (mm_up M 9 0 (nI B)) 9 1 (nI L)) 12 (fillA (M 12) 48 (nI 0))) 13 (fillA (M 13) 48 (nI 0)) 12 t = nI 0 := fun t ht => by
    rw [set_ne _ _ (by decide), set_o]
    unfold fillA
    rw [if_pos (by omega)]
  have a4 : ∀ t, t < B → mm_set (mm_set (mm_up (mm_up M 9 0 (nI B)) 9 1 (nI L)) 12 (fillA (M 12) 48 (nI 0))) 13 (fillA (M 13) 48 (nI 0)) 13 t = nI 0 := fun t ht => by
    rw [set_o]
    unfold fillA
    rw [if_pos (by omega)]
  generalize mm_set (mm_set (mm_up (mm_up M 9 0 (nI B)) 9 1 (nI L)) 12 (fillA (M 12) 48 (nI 0))) 13 (fillA (M 13) 48 (nI 0)) = M1 at hS0 a1 a2 a3 a4 ⊢
  refine p_weighSide (side := 0) (a := fun _ => 0) (b := fun _ => 0) (isC_cong (M := M) (hS0 1 (by decide)) (hS0 2 (by decide)) hC) hv a1 (by decide) a3 a4 (fun _ _ => by decide) (fun _ _ => by decide) (fun M2 hS2 b3 b4 => ?_)
  simp (disch := first | assumption | exact isSc1 | exact isSc3 | exact isSc5 | decide | omega) only [iX6_weigh_38, iX6_weigh_39, iX6_weigh_40, iX6_weigh_41, mm_rv_n]
  refine p_weighSide (side := 1) (isC_cong (M := M) (by rw [hS2 1 (by decide), hS0 1 (by decide)]) (by rw [hS2 2 (by decide), hS0 2 (by decide)]) hC) hv (by rw [hS2 9 (by decide), a1]) (by decide) b3 b4 (fun t _ => ?_) (fun t _ => ?_) (fun M3 hS3 c3 c4 => ?_)
  · split <;> decide
  · split <;> decide
  simp (disch := first | assumption | exact isSc1 | exact isSc3 | exact isSc5 | decide | omega) only [iX6_weigh_44, iX6_weigh_45, mm_rv_n]
  have d3 : ∀ t, t < B → M3 12 t = nI (ftN B n g t) := fun t ht => by
    rw [c3 t ht]
    unfold ftN
    congr 1
    simp
  have d4 : ∀ t, t < B → M3 13 t = nI (twN B n g t) := fun t ht => by
    rw [c4 t ht]
    unfold twN
    congr 1
    simp
  refine p_measureFlights w1 w2 (by rw [hS3 9 (by decide), hS2 9 (by decide), a1]) d3 (fun t _ => ftN_le B n g t) (fun f hf => ?_)
  simp (disch := first | assumption | exact isSc1 | exact isSc3 | exact isSc5 | decide | omega) only [iX6_weigh_48, mm_rv_n]
  refine hQ _ ?_ ⟨?_, ?_, ?_, ?_, ?_⟩
  · exact (((hS0.wk (by decide)).tr (hS2.wk (by decide))).tr (hS3.wk (by decide))).set (by decide) _
  · rw [set_ne _ _ (by decide), hS3 9 (by decide), hS2 9 (by decide), a1]
  · rw [set_ne _ _ (by decide), hS3 9 (by decide), hS2 9 (by decide), a2]
  · intro t ht; rw [set_ne _ _ (by decide)]; exact d3 t ht
  · intro t ht; rw [set_ne _ _ (by decide)]; exact d4 t ht
  · intro t ht; rw [set_o]; exact hf t ht
end WG2

