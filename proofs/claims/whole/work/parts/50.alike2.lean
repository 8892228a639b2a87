/-! PAIR: alike -/
section LK2
variable {B L n : Nat} {g : Nat → Sg} {M : mm_M} {Q : mm_Q}
theorem m_turnedWay {k : Nat} {w : Int} (hk : k ≤ 3) (hw : -8 ≤ w ∧ w ≤ 8) : wc 118 [.inl (nI k), .inl (iZ w)] M Q ↔ Q (some (iZ (mirW k w))) M := by
  have e1 : nI 1 = iZ 1 := rfl
  have e10 : nI 10 = iZ 10 := rfl
  have le : (iZ w ≤ iZ 1) = (w ≤ 1) := iZ_le (by omega) (by decide)
  unfold mirW
  simp (disch := first | assumption | exact isSc1 | exact isSc3 | exact isSc5 | decide | omega) only [eX8_turnedWay, iX8_turnedWay_0, iX8_turnedWay_1, iX8_turnedWay_2, iX8_turnedWay_5, iX8_turnedWay_6, iX8_turnedWay_7, iX8_turnedWay_10, iX8_turnedWay_11, iX8_turnedWay_12, iX8_turnedWay_15, iX8_turnedWay_17, iX8_turnedWay_18, iX8_turnedWay_19, iX8_turnedWay_22, iX8_turnedWay_23, Nat.reduceAdd, Nat.reduceSub, Nat.reduceMul, Nat.reduceLeDiff, mm_rv_s, mm_rv_n, true_and, and_true, if_true, if_false, not_true_eq_false, not_false_eq_true, nI_add, nz_0, nz_lt0, nz_0le, nz_0lt, nz_le0, nz_lt, nz_le, nz_eq, nz_cl, nz_in, nz_sub, nz_m1, pk_mul, set_o, set_ne, up_ne, up_set, n1_1, true_or, or_true, n1_01, n0_01, bI_01, bI_01b, bI_0, isSc1, isSc3, isSc5, ln_2, ln_4, ln_6, ln_8, ln_10, ln_11, ln_12, ln_13, ln_14, ln_16, ln_17, ln_18, ln_19, ln_20, ln_21, ln_23, ln_24, ln_25, ln_27, ln_28, ln_29, ln_31, ln_32, ln_33, ln_35, ln_36, ln_37, iZ_neg]
  by_cases h2 : k = 2
  · simp only [h2, if_true, not_true_eq_false, if_false]
  · simp only [h2, if_false, not_false_eq_true, if_true]
    rw [e1, e10, iZ_sub]
    simp only [le]
    by_cases h : w ≤ 1
    · rw [if_pos h, if_neg (by omega)]
    · rw [if_neg h, if_pos (by omega)]
theorem m_isLike (hD : isD (M 31) B L n g) (hv : Val B n g) (hf : isCov (M 37) B n g) {c t o : Nat} (hc : c ≤ 6) (ht : t < B) (ho : o < B) (b : Bool) : wc 147 [.inr 30, .inl (nI c), .inl (nI t), .inl (nI o), .inl (bI b)] M Q ↔ Q (some (bI (likeB b g (cv B n g c t) (cv B n g (if b = true then mirC c else c) o)))) M := by
  obtain ⟨c0, c1, c2, c3⟩ := id hD
  have w2 := hv.2.1
  have w3 := hv.2.2.1
  have hmc := mirC_le hc b
  have lt : (-1 : Int32) < 0 := by decide
  have nle : ¬ (0 : Int32) ≤ -1 := by decide
  have hsel : wp 147 22 [some (.inr 30), some (.inl (nI c)), some (.inl (nI t)), some (.inl (nI o)), some (.inl (bI b)), some (.inl (oI (cv B n g c t))), none, none, none] [.inl (nI (if b = true then mirC c else c)), .inr 30] M Q ↔ wc 147 [.inr 30, .inl (nI c), .inl (nI t), .inl (nI o), .inl (bI b)] M Q := by
    cases b
    · simp (disch := first | assumption | exact isSc1 | exact isSc3 | exact isSc5 | decide | omega) only [eX8_isLike, iX8_isLike_0, iX8_isLike_1, iX8_isLike_2, iX8_isLike_3, iX8_isLike_6, iX8_isLike_8, iX8_isLike_9, iX8_isLike_11, iX8_isLike_14, iX8_isLike_15, iX8_isLike_18, iX8_isLike_21, Nat.reduceAdd, Nat.reduceSub, Nat.reduceMul, Nat.reduceLeDiff, mm_rv_s, mm_rv_n, true_and, and_true, if_true, if_false, not_true_eq_false, not_false_eq_true, nI_add, nz_0, nz_lt0, nz_0le, nz_0lt, nz_le0, nz_lt, nz_le, nz_eq, nz_cl, nz_in, nz_sub, nz_m1, pk_mul, set_o, set_ne, up_ne, up_set, n1_1, true_or, or_true, n1_01, n0_01, bI_01, bI_01b, bI_0, isSc1, isSc3, isSc5, ln_2, ln_4, ln_6, ln_8, ln_10, ln_11, ln_12, ln_13, ln_14, ln_16, ln_17, ln_18, ln_19, ln_20, ln_21, ln_23, ln_24, ln_25, ln_27, ln_28, ln_29, ln_31, ln_32, ln_33, ln_35, ln_36, ln_37, Bool.false_eq_true, m_covering rfl hf hc ht w2]
    · simp (disch := first | assumption | exact isSc1 | exact isSc3 | exact isSc5 | decide | omega) only [eX8_isLike, iX8_isLike_0, iX8_isLike_1, iX8_isLike_2, iX8_isLike_3, iX8_isLike_6, iX8_isLike_8, iX8_isLike_9, iX8_isLike_11, iX8_isLike_14, iX8_isLike_15, iX8_isLike_18, iX8_isLike_21, Nat.reduceAdd, Nat.reduceSub, Nat.reduceMul, Nat.reduceLeDiff, mm_rv_s, mm_rv_n, true_and, and_true, if_true, if_false, not_true_eq_false, not_false_eq_true, nI_add, nz_0, nz_lt0, nz_0le, nz_0lt, nz_le0, nz_lt, nz_le, nz_eq, nz_cl, nz_in, nz_sub, nz_m1, pk_mul, set_o, set_ne, up_ne, up_set, n1_1, true_or, or_true, n1_01, n0_01, bI_01, bI_01b, bI_0, isSc1, isSc3, isSc5, ln_2, ln_4, ln_6, ln_8, ln_10, ln_11, ln_12, ln_13, ln_14, ln_16, ln_17, ln_18, ln_19, ln_20, ln_21, ln_23, ln_24, ln_25, ln_27, ln_28, ln_29, ln_31, ln_32, ln_33, ln_35, ln_36, ln_37, Bool.true_eq_false, m_covering rfl hf hc ht w2, p_mirroredColumnM (show c < 7 by omega)]
  rw [← hsel]
  generalize (if b = true then mirC c else c) = mc at hmc ⊢
  simp (disch := first | assumption | exact isSc1 | exact isSc3 | exact isSc5 | decide | omega) only [iX8_isLike_22, iX8_isLike_23, iX8_isLike_26, Nat.reduceAdd, Nat.reduceSub, Nat.reduceMul, Nat.reduceLeDiff, mm_rv_s, mm_rv_n, true_and, and_true, if_true, if_false, not_true_eq_false, not_false_eq_true, nI_add, nz_0, nz_lt0, nz_0le, nz_0lt, nz_le0, nz_lt, nz_le, nz_eq, nz_cl, nz_in, nz_sub, nz_m1, pk_mul, set_o, set_ne, up_ne, up_set, n1_1, true_or, or_true, n1_01, n0_01, bI_01, bI_01b, bI_0, isSc1, isSc3, isSc5, ln_2, ln_4, ln_6, ln_8, ln_10, ln_11, ln_12, ln_13, ln_14, ln_16, ln_17, ln_18, ln_19, ln_20, ln_21, ln_23, ln_24, ln_25, ln_27, ln_28, ln_29, ln_31, ln_32, ln_33, ln_35, ln_36, ln_37, m_covering rfl hf hmc ho w2]
  cases hx : cv B n g c t with
  | none =>
    cases hy : cv B n g mc o with
    | none =>
      simp (disch := first | assumption | exact isSc1 | exact isSc3 | exact isSc5 | decide | omega) only [oI, iX8_isLike_28, iX8_isLike_30, iX8_isLike_33, iX8_isLike_35, iX8_isLike_38, iX8_isLike_40, iX8_isLike_43, iX8_isLike_45, iX8_isLike_48, iX8_isLike_49, iX8_isLike_52, iX8_isLike_53, Nat.reduceAdd, Nat.reduceSub, Nat.reduceMul, Nat.reduceLeDiff, mm_rv_s, mm_rv_n, true_and, and_true, if_true, if_false, not_true_eq_false, not_false_eq_true, nI_add, nz_0, nz_lt0, nz_0le, nz_0lt, nz_le0, nz_lt, nz_le, nz_eq, nz_cl, nz_in, nz_sub, nz_m1, pk_mul, set_o, set_ne, up_ne, up_set, n1_1, true_or, or_true, n1_01, n0_01, bI_01, bI_01b, bI_0, isSc1, isSc3, isSc5, ln_2, ln_4, ln_6, ln_8, ln_10, ln_11, ln_12, ln_13, ln_14, ln_16, ln_17, ln_18, ln_19, ln_20, ln_21, ln_23, ln_24, ln_25, ln_27, ln_28, ln_29, ln_31, ln_32, ln_33, ln_35, ln_36, ln_37, lt, nle, likeB, bI]
    | some j =>
      have hj := cv_lt hy
      simp (disch := first | assumption | exact isSc1 | exact isSc3 | exact isSc5 | decide | omega) only [oI, iX8_isLike_28, iX8_isLike_30, iX8_isLike_33, iX8_isLike_35, iX8_isLike_38, iX8_isLike_40, iX8_isLike_43, iX8_isLike_45, iX8_isLike_48, iX8_isLike_49, iX8_isLike_52, iX8_isLike_53, Nat.reduceAdd, Nat.reduceSub, Nat.reduceMul, Nat.reduceLeDiff, mm_rv_s, mm_rv_n, true_and, and_true, if_true, if_false, not_true_eq_false, not_false_eq_true, nI_add, nz_0, nz_lt0, nz_0le, nz_0lt, nz_le0, nz_lt, nz_le, nz_eq, nz_cl, nz_in, nz_sub, nz_m1, pk_mul, set_o, set_ne, up_ne, up_set, n1_1, true_or, or_true, n1_01, n0_01, bI_01, bI_01b, bI_0, isSc1, isSc3, isSc5, ln_2, ln_4, ln_6, ln_8, ln_10, ln_11, ln_12, ln_13, ln_14, ln_16, ln_17, ln_18, ln_19, ln_20, ln_21, ln_23, ln_24, ln_25, ln_27, ln_28, ln_29, ln_31, ln_32, ln_33, ln_35, ln_36, ln_37, lt, nle, likeB, bI, Bool.false_eq_true]
  | some i =>
    have hi := cv_lt hx
    cases hy : cv B n g mc o with
    | none =>
      simp (disch := first | assumption | exact isSc1 | exact isSc3 | exact isSc5 | decide | omega) only [oI, iX8_isLike_28, iX8_isLike_30, iX8_isLike_33, iX8_isLike_35, iX8_isLike_38, iX8_isLike_40, iX8_isLike_43, iX8_isLike_45, iX8_isLike_48, iX8_isLike_49, iX8_isLike_52, iX8_isLike_53, Nat.reduceAdd, Nat.reduceSub, Nat.reduceMul, Nat.reduceLeDiff, mm_rv_s, mm_rv_n, true_and, and_true, if_true, if_false, not_true_eq_false, not_false_eq_true, nI_add, nz_0, nz_lt0, nz_0le, nz_0lt, nz_le0, nz_lt, nz_le, nz_eq, nz_cl, nz_in, nz_sub, nz_m1, pk_mul, set_o, set_ne, up_ne, up_set, n1_1, true_or, or_true, n1_01, n0_01, bI_01, bI_01b, bI_0, isSc1, isSc3, isSc5, ln_2, ln_4, ln_6, ln_8, ln_10, ln_11, ln_12, ln_13, ln_14, ln_16, ln_17, ln_18, ln_19, ln_20, ln_21, ln_23, ln_24, ln_25, ln_27, ln_28, ln_29, ln_31, ln_32, ln_33, ln_35, ln_36, ln_37, lt, nle, likeB, bI, Bool.false_eq_true]
    | some j =>
      have hj := cv_lt hy
      obtain ⟨f1, f2, f3, f4, f5, f6⟩ := c3 i hi
      obtain ⟨h1, h2, h3, h4, h5, h6⟩ := c3 j hj
      have oi := (hv.2.2.2.1 i hi).1
      have oj := (hv.2.2.2.1 j hj).1
      have wi := okS_w oi
      have wj := okS_w oj
      have wm := okS_w (okS_mirB (b := b) oj)
      have bi := okS_b oi
      have bj := okS_b oj
      have eW : sW (mirB b (g j)) = (if b = true then mirW (sK (g j)) (sW (g j)) else sW (g j)) := by cases b <;> rfl
      have fin : ∀ w7 : Int, -8 ≤ w7 ∧ w7 ≤ 8 → (wp 147 102 [some (.inr 30), some (.inl (nI c)), some (.inl (nI t)), some (.inl (nI o)), some (.inl (bI b)), some (.inl (nI i)), some (.inl (nI j)), some (.inl (nI (sK (g j)))), none] [.inl (iZ w7)] M Q ↔ Q (some (bI (decide (sK (g i) = sK (g j) ∧ sW (g i) = w7 ∧ sV (g i) = sV (g j))))) M) := by
        intro w7 hw7
        have eq : (iZ (sW (g i)) = iZ w7) = (sW (g i) = w7) := iZ_inj (by omega) (by omega)
        simp (disch := first | assumption | exact isSc1 | exact isSc3 | exact isSc5 | decide | omega) only [iX8_isLike_102, iX8_isLike_104, iX8_isLike_105, iX8_isLike_108, iX8_isLike_111, iX8_isLike_113, iX8_isLike_114, iX8_isLike_115, iX8_isLike_117, iX8_isLike_120, iX8_isLike_121, iX8_isLike_124, iX8_isLike_127, iX8_isLike_129, iX8_isLike_130, iX8_isLike_131, iX8_isLike_133, iX8_isLike_136, iX8_isLike_137, iX8_isLike_140, iX8_isLike_143, iX8_isLike_145, iX8_isLike_146, iX8_isLike_147, iX8_isLike_148, iX8_isLike_151, iX8_isLike_154, iX8_isLike_156, iX8_isLike_157, iX8_isLike_158, iX8_isLike_161, iX8_isLike_162, iX8_isLike_165, iX8_isLike_166, Nat.reduceAdd, Nat.reduceSub, Nat.reduceMul, Nat.reduceLeDiff, mm_rv_s, mm_rv_n, true_and, and_true, if_true, if_false, not_true_eq_false, not_false_eq_true, nI_add, nz_0, nz_lt0, nz_0le, nz_0lt, nz_le0, nz_lt, nz_le, nz_eq, nz_cl, nz_in, nz_sub, nz_m1, pk_mul, set_o, set_ne, up_ne, up_set, n1_1, true_or, or_true, n1_01, n0_01, bI_01, bI_01b, bI_0, isSc1, isSc3, isSc5, ln_2, ln_4, ln_6, ln_8, ln_10, ln_11, ln_12, ln_13, ln_14, ln_16, ln_17, ln_18, ln_19, ln_20, ln_21, ln_23, ln_24, ln_25, ln_27, ln_28, ln_29, ln_31, ln_32, ln_33, ln_35, ln_36, ln_37, f3, f5, f6, h6, eq]
        by_cases k1 : sK (g i) = sK (g j)
        · by_cases k2 : sW (g i) = w7
          · by_cases k3 : sV (g i) = sV (g j)
            · simp [k1, k2, k3, bI]
            · simp [k1, k2, k3, bI]
          · simp [k1, k2, bI]
        · simp [k1, bI]
      have fin2 := fin _ (by rw [eW] at wm; exact wm)
      have e9 : likeB b g (some i) (some j) = decide (sK (g i) = sK (g j) ∧ sW (g i) = (if b = true then mirW (sK (g j)) (sW (g j)) else sW (g j)) ∧ sV (g i) = sV (g j)) := rfl
      rw [e9, ← fin2]
      cases b
      · simp (disch := first | assumption | exact isSc1 | exact isSc3 | exact isSc5 | decide | omega) only [oI, iX8_isLike_28, iX8_isLike_30, iX8_isLike_33, iX8_isLike_35, iX8_isLike_38, iX8_isLike_40, iX8_isLike_43, iX8_isLike_45, iX8_isLike_48, iX8_isLike_49, iX8_isLike_52, iX8_isLike_53, iX8_isLike_54, iX8_isLike_55, iX8_isLike_58, iX8_isLike_61, iX8_isLike_63, iX8_isLike_64, iX8_isLike_65, iX8_isLike_67, iX8_isLike_69, iX8_isLike_72, iX8_isLike_74, iX8_isLike_75, iX8_isLike_78, iX8_isLike_81, iX8_isLike_83, iX8_isLike_84, iX8_isLike_85, iX8_isLike_88, iX8_isLike_91, iX8_isLike_92, iX8_isLike_95, iX8_isLike_98, iX8_isLike_100, iX8_isLike_101, Nat.reduceAdd, Nat.reduceSub, Nat.reduceMul, Nat.reduceLeDiff, mm_rv_s, mm_rv_n, true_and, and_true, if_true, if_false, not_true_eq_false, not_false_eq_true, nI_add, nz_0, nz_lt0, nz_0le, nz_0lt, nz_le0, nz_lt, nz_le, nz_eq, nz_cl, nz_in, nz_sub, nz_m1, pk_mul, set_o, set_ne, up_ne, up_set, n1_1, true_or, or_true, n1_01, n0_01, bI_01, bI_01b, bI_0, isSc1, isSc3, isSc5, ln_2, ln_4, ln_6, ln_8, ln_10, ln_11, ln_12, ln_13, ln_14, ln_16, ln_17, ln_18, ln_19, ln_20, ln_21, ln_23, ln_24, ln_25, ln_27, ln_28, ln_29, ln_31, ln_32, ln_33, ln_35, ln_36, ln_37, h3, h5, Bool.false_eq_true]
      · simp (disch := first | assumption | exact isSc1 | exact isSc3 | exact isSc5 | decide | omega) only [oI, iX8_isLike_28, iX8_isLike_30, iX8_isLike_33, iX8_isLike_35, iX8_isLike_38, iX8_isLike_40, iX8_isLike_43, iX8_isLike_45, iX8_isLike_48, iX8_isLike_49, iX8_isLike_52, iX8_isLike_53, iX8_isLike_54, iX8_isLike_55, iX8_isLike_58, iX8_isLike_61, iX8_isLike_63, iX8_isLike_64, iX8_isLike_65, iX8_isLike_67, iX8_isLike_69, iX8_isLike_72, iX8_isLike_74, iX8_isLike_75, iX8_isLike_78, iX8_isLike_81, iX8_isLike_83, iX8_isLike_84, iX8_isLike_85, iX8_isLike_88, iX8_isLike_91, iX8_isLike_92, iX8_isLike_95, iX8_isLike_98, iX8_isLike_100, iX8_isLike_101, Nat.reduceAdd, Nat.reduceSub, Nat.reduceMul, Nat.reduceLeDiff, mm_rv_s, mm_rv_n, true_and, and_true, if_true, if_false, not_true_eq_false, not_false_eq_true, nI_add, nz_0, nz_lt0, nz_0le, nz_0lt, nz_le0, nz_lt, nz_le, nz_eq, nz_cl, nz_in, nz_sub, nz_m1, pk_mul, set_o, set_ne, up_ne, up_set, n1_1, true_or, or_true, n1_01, n0_01, bI_01, bI_01b, bI_0, isSc1, isSc3, isSc5, ln_2, ln_4, ln_6, ln_8, ln_10, ln_11, ln_12, ln_13, ln_14, ln_16, ln_17, ln_18, ln_19, ln_20, ln_21, ln_23, ln_24, ln_25, ln_27, ln_28, ln_29, ln_31, ln_32, ln_33, ln_35, ln_36, ln_37, h3, h5, Bool.true_eq_false, m_turnedWay (k := sK (g j)) (show sK (g j) ≤ 3 by omega) wj]
theorem phr_nat {a b : Int32} (hB : 1 ≤ B) (hB2 : B ≤ 48) (h : (nI 0 ≤ a ∧ a ≤ nI B - nI 1) ∧ (a + nI 1 ≤ b ∧ b ≤ nI B)) : ∃ f l : Nat, a = nI f ∧ b = nI l ∧ f < l ∧ l ≤ B := by
  obtain ⟨h1, h2, h3⟩ := h
  obtain ⟨f, rfl, hf⟩ := in_upto (by omega) h1
  rw [nI_add] at h2
  obtain ⟨l, rfl, hl1, hl2⟩ := in_nat h2 h3 (by omega) (by omega)
  exact ⟨f, l, rfl, rfl, by omega, hl2⟩
def alV (b : Bool) (B n : Nat) (g : Nat → Sg) (f l o : Nat) : Int32 := nI (cntF (fun t => decide (dcN b B n g f o 7 t = 0)) (l - f))
theorem x_alikeBeats {e : Nat → Nat} {m : Nat} (hm : m ≤ 48) (he : ∀ t, t < m → M 25 t = nI (e t) ∧ e t ≤ 100) : wc 2 [.inr 22, .inl (nI m)] M Q ↔ Q (some (nI (cntF (fun t => decide (e t = 0)) m))) M := by
  have loop : ∀ d i : Nat, i + d = m → (wp 2 4 [some (.inr 22), some (.inl (nI m)), some (.inl (nI (cntF (fun t => decide (e t = 0)) i))), some (.inl (nI i))] [] M Q ↔ Q (some (nI (cntF (fun t => decide (e t = 0)) m))) M) := by
    intro d
    induction d with
    | zero =>
      intro i hi
      have hi : i = m := by omega
      subst hi
      rw [iX0_alikeBeats_4]
      simp (disch := first | assumption | exact isSc1 | exact isSc3 | exact isSc5 | decide | omega) only [iX0_alikeBeats_5, iX0_alikeBeats_6, iX0_alikeBeats_27, iX0_alikeBeats_28, Nat.reduceAdd, Nat.reduceSub, Nat.reduceMul, Nat.reduceLeDiff, mm_rv_s, mm_rv_n, true_and, and_true, if_true, if_false, not_true_eq_false, not_false_eq_true, nI_add, nz_0, nz_lt0, nz_0le, nz_0lt, nz_le0, nz_lt, nz_le, nz_eq, nz_cl, nz_in, nz_sub, nz_m1, pk_mul, set_o, set_ne, up_ne, up_set, n1_1, true_or, or_true, n1_01, n0_01, bI_01, bI_01b, bI_0, isSc1, isSc3, isSc5, ln_2, ln_4, ln_6, ln_8, ln_10, ln_11, ln_12, ln_13, ln_14, ln_16, ln_17, ln_18, ln_19, ln_20, ln_21, ln_23, ln_24, ln_25, ln_27, ln_28, ln_29, ln_31, ln_32, ln_33, ln_35, ln_36, ln_37, Nat.le_refl]
    | succ d ih =>
      intro i hi
      obtain ⟨e1, e2⟩ := he i (by omega)
      have h := ih (i + 1) (by omega)
      rw [cntF_s] at h
      rw [iX0_alikeBeats_4]
      simp (disch := first | assumption | exact isSc1 | exact isSc3 | exact isSc5 | decide | omega) only [iX0_alikeBeats_5, iX0_alikeBeats_6, iX0_alikeBeats_9, iX0_alikeBeats_10, iX0_alikeBeats_13, iX0_alikeBeats_14, iX0_alikeBeats_15, Nat.reduceAdd, Nat.reduceSub, Nat.reduceMul, Nat.reduceLeDiff, mm_rv_s, mm_rv_n, true_and, and_true, if_true, if_false, not_true_eq_false, not_false_eq_true, nI_add, nz_0, nz_lt0, nz_0le, nz_0lt, nz_le0, nz_lt, nz_le, nz_eq, nz_cl, nz_in, nz_sub, nz_m1, pk_mul, set_o, set_ne, up_ne, up_set, n1_1, true_or, or_true, n1_01, n0_01, bI_01, bI_01b, bI_0, isSc1, isSc3, isSc5, ln_2, ln_4, ln_6, ln_8, ln_10, ln_11, ln_12, ln_13, ln_14, ln_16, ln_17, ln_18, ln_19, ln_20, ln_21, ln_23, ln_24, ln_25, ln_27, ln_28, ln_29, ln_31, ln_32, ln_33, ln_35, ln_36, ln_37, show ¬ m ≤ i by omega, e1]
      by_cases k : e i = 0
      · simp (disch := first | assumption | exact isSc1 | exact isSc3 | exact isSc5 | decide | omega) only [iX0_alikeBeats_18, iX0_alikeBeats_21, iX0_alikeBeats_24, Nat.reduceAdd, Nat.reduceSub, Nat.reduceMul, Nat.reduceLeDiff, mm_rv_s, mm_rv_n, true_and, and_true, if_true, if_false, not_true_eq_false, not_false_eq_true, nI_add, nz_0, nz_lt0, nz_0le, nz_0lt, nz_le0, nz_lt, nz_le, nz_eq, nz_cl, nz_in, nz_sub, nz_m1, pk_mul, set_o, set_ne, up_ne, up_set, n1_1, true_or, or_true, n1_01, n0_01, bI_01, bI_01b, bI_0, isSc1, isSc3, isSc5, ln_2, ln_4, ln_6, ln_8, ln_10, ln_11, ln_12, ln_13, ln_14, ln_16, ln_17, ln_18, ln_19, ln_20, ln_21, ln_23, ln_24, ln_25, ln_27, ln_28, ln_29, ln_31, ln_32, ln_33, ln_35, ln_36, ln_37, k, decide_true] at h ⊢
        exact h
      · simp (disch := first | assumption | exact isSc1 | exact isSc3 | exact isSc5 | decide | omega) only [iX0_alikeBeats_18, iX0_alikeBeats_21, iX0_alikeBeats_24, Nat.reduceAdd, Nat.reduceSub, Nat.reduceMul, Nat.reduceLeDiff, mm_rv_s, mm_rv_n, true_and, and_true, if_true, if_false, not_true_eq_false, not_false_eq_true, nI_add, nz_0, nz_lt0, nz_0le, nz_0lt, nz_le0, nz_lt, nz_le, nz_eq, nz_cl, nz_in, nz_sub, nz_m1, pk_mul, set_o, set_ne, up_ne, up_set, n1_1, true_or, or_true, n1_01, n0_01, bI_01, bI_01b, bI_0, isSc1, isSc3, isSc5, ln_2, ln_4, ln_6, ln_8, ln_10, ln_11, ln_12, ln_13, ln_14, ln_16, ln_17, ln_18, ln_19, ln_20, ln_21, ln_23, ln_24, ln_25, ln_27, ln_28, ln_29, ln_31, ln_32, ln_33, ln_35, ln_36, ln_37, k, decide_false, Bool.false_eq_true, Nat.add_zero] at h ⊢
        exact h
  simp (disch := first | assumption | exact isSc1 | exact isSc3 | exact isSc5 | decide | omega) only [eX0_alikeBeats, iX0_alikeBeats_0, iX0_alikeBeats_1, iX0_alikeBeats_2, iX0_alikeBeats_3]
  exact loop m 0 (by omega)
theorem x_alike (hC : isC M 1 B L n g) (hv : Val B n g) {f l o : Nat} (hfl : f < l) (hl : l ≤ B) (ho : o + (l - f) ≤ B) (b : Bool) (hQ : ∀ M', Same [23, 24, 25] M M' → Q (some (alV b B n g f l o)) M') : wp 85 40 [some (.inr 0), some (.inl (nI f)), some (.inl (nI l)), some (.inl (nI o)), some (.inl (bI b)), none] [] M Q := by
  have w2 := hv.2.1
  have hm : l - f ≤ B - (if f < o then o else f) := by split <;> omega
  have b1 : (nI 1 : Int32) = bI true := rfl
  have b0 : (nI 0 : Int32) = bI false := rfl
  have hmB : B - (if f < o then o else f) ≤ 48 := by omega
  have loop : ∀ d c : Nat, c + d = 7 → ∀ M' : mm_M, Same [23, 24, 25] M M' → (∀ t, t < B - (if f < o then o else f) → M' 25 t = nI (dcN b B n g f o c t)) → wp 85 50 [some (.inr 0), some (.inl (nI f)), some (.inl (nI l)), some (.inl (nI o)), some (.inl (bI b)), some (.inl (nI c))] [] M' Q := by
    intro d
    induction d with
    | zero =>
      intro c hc M' hS h1
      have hc : c = 7 := by omega
      subst hc
      rw [iX7_alike_50]
      simp (disch := first | assumption | exact isSc1 | exact isSc3 | exact isSc5 | decide | omega) only [iX7_alike_52, iX7_alike_54, iX7_alike_89, iX7_alike_90, iX7_alike_93, iX7_alike_94, iX7_alike_95, iX7_alike_96, Nat.reduceAdd, Nat.reduceSub, Nat.reduceMul, Nat.reduceLeDiff, mm_rv_s, mm_rv_n, true_and, and_true, if_true, if_false, not_true_eq_false, not_false_eq_true, nI_add, nz_0, nz_lt0, nz_0le, nz_0lt, nz_le0, nz_lt, nz_le, nz_eq, nz_cl, nz_in, nz_sub, nz_m1, pk_mul, set_o, set_ne, up_ne, up_set, n1_1, true_or, or_true, n1_01, n0_01, bI_01, bI_01b, bI_0, isSc1, isSc3, isSc5, ln_2, ln_4, ln_6, ln_8, ln_10, ln_11, ln_12, ln_13, ln_14, ln_16, ln_17, ln_18, ln_19, ln_20, ln_21, ln_23, ln_24, ln_25, ln_27, ln_28, ln_29, ln_31, ln_32, ln_33, ln_35, ln_36, ln_37, Nat.le_refl]
      refine (x_alikeBeats (m := l - f) (e := fun t => dcN b B n g f o 7 t) (by omega) (fun t ht => ⟨h1 t (by omega), by have := dcN_le b B n g f o t 7; omega⟩)).mpr ?_
      simp (disch := first | assumption | exact isSc1 | exact isSc3 | exact isSc5 | decide | omega) only [iX7_alike_99, Nat.reduceAdd, Nat.reduceSub, Nat.reduceMul, Nat.reduceLeDiff, mm_rv_s, mm_rv_n, true_and, and_true, if_true, if_false, not_true_eq_false, not_false_eq_true, nI_add, nz_0, nz_lt0, nz_0le, nz_0lt, nz_le0, nz_lt, nz_le, nz_eq, nz_cl, nz_in, nz_sub, nz_m1, pk_mul, set_o, set_ne, up_ne, up_set, n1_1, true_or, or_true, n1_01, n0_01, bI_01, bI_01b, bI_0, isSc1, isSc3, isSc5, ln_2, ln_4, ln_6, ln_8, ln_10, ln_11, ln_12, ln_13, ln_14, ln_16, ln_17, ln_18, ln_19, ln_20, ln_21, ln_23, ln_24, ln_25, ln_27, ln_28, ln_29, ln_31, ln_32, ln_33, ln_35, ln_36, ln_37]
      exact hQ M' hS
    | succ d ih =>
      intro c hc M' hS h1
      have go : wc 1 [.inr 22, .inr 1, .inl (nI c), .inl (nI f), .inl (nI o), .inl (bI b)] M' (fun r M'' => wp 85 83 [some (.inr 0), some (.inl (nI f)), some (.inl (nI l)), some (.inl (nI o)), some (.inl (bI b)), some (.inl (nI c))] (mm_rv r ++ []) M'' Q) := by
        refine p_compare (isC_cong (M := M) (hS 1 (by decide)) (hS 2 (by decide)) hC) hv (by omega) (by omega) (by omega) rfl b (e := fun t => dcN b B n g f o c t) (fun t ht => ⟨h1 t ht, by have := dcN_le b B n g f o t c; omega⟩) (fun M'' hS2 h2 => ?_)
        simp (disch := first | assumption | exact isSc1 | exact isSc3 | exact isSc5 | decide | omega) only [iX7_alike_83, iX7_alike_86, Nat.reduceAdd, Nat.reduceSub, Nat.reduceMul, Nat.reduceLeDiff, mm_rv_s, mm_rv_n, true_and, and_true, if_true, if_false, not_true_eq_false, not_false_eq_true, nI_add, nz_0, nz_lt0, nz_0le, nz_0lt, nz_le0, nz_lt, nz_le, nz_eq, nz_cl, nz_in, nz_sub, nz_m1, pk_mul, set_o, set_ne, up_ne, up_set, n1_1, true_or, or_true, n1_01, n0_01, bI_01, bI_01b, bI_0, isSc1, isSc3, isSc5, ln_2, ln_4, ln_6, ln_8, ln_10, ln_11, ln_12, ln_13, ln_14, ln_16, ln_17, ln_18, ln_19, ln_20, ln_21, ln_23, ln_24, ln_25, ln_27, ln_28, ln_29, ln_31, ln_32, ln_33, ln_35, ln_36, ln_37]
        exact ih (c + 1) (by omega) M'' (hS.tr hS2) h2
      rw [iX7_alike_50]
      cases b
      · rw [← b0] at go
        simp (disch := first | assumption | exact isSc1 | exact isSc3 | exact isSc5 | decide | omega) only [iX7_alike_52, iX7_alike_54, iX7_alike_57, iX7_alike_58, iX7_alike_61, iX7_alike_62, iX7_alike_65, iX7_alike_67, iX7_alike_68, iX7_alike_69, iX7_alike_71, iX7_alike_72, iX7_alike_75, iX7_alike_76, iX7_alike_79, iX7_alike_80, Nat.reduceAdd, Nat.reduceSub, Nat.reduceMul, Nat.reduceLeDiff, mm_rv_s, mm_rv_n, true_and, and_true, if_true, if_false, not_true_eq_false, not_false_eq_true, nI_add, nz_0, nz_lt0, nz_0le, nz_0lt, nz_le0, nz_lt, nz_le, nz_eq, nz_cl, nz_in, nz_sub, nz_m1, pk_mul, set_o, set_ne, up_ne, up_set, n1_1, true_or, or_true, n1_01, n0_01, bI_01, bI_01b, bI_0, isSc1, isSc3, isSc5, ln_2, ln_4, ln_6, ln_8, ln_10, ln_11, ln_12, ln_13, ln_14, ln_16, ln_17, ln_18, ln_19, ln_20, ln_21, ln_23, ln_24, ln_25, ln_27, ln_28, ln_29, ln_31, ln_32, ln_33, ln_35, ln_36, ln_37, show ¬ 7 ≤ c by omega, bI, Bool.false_eq_true, Nat.zero_ne_one] at go ⊢
        exact go
      · rw [← b1] at go
        simp (disch := first | assumption | exact isSc1 | exact isSc3 | exact isSc5 | decide | omega) only [iX7_alike_52, iX7_alike_54, iX7_alike_57, iX7_alike_58, iX7_alike_61, iX7_alike_62, iX7_alike_65, iX7_alike_67, iX7_alike_68, iX7_alike_69, iX7_alike_71, iX7_alike_72, iX7_alike_75, iX7_alike_76, iX7_alike_79, iX7_alike_80, Nat.reduceAdd, Nat.reduceSub, Nat.reduceMul, Nat.reduceLeDiff, mm_rv_s, mm_rv_n, true_and, and_true, if_true, if_false, not_true_eq_false, not_false_eq_true, nI_add, nz_0, nz_lt0, nz_0le, nz_0lt, nz_le0, nz_lt, nz_le, nz_eq, nz_cl, nz_in, nz_sub, nz_m1, pk_mul, set_o, set_ne, up_ne, up_set, n1_1, true_or, or_true, n1_01, n0_01, bI_01, bI_01b, bI_0, isSc1, isSc3, isSc5, ln_2, ln_4, ln_6, ln_8, ln_10, ln_11, ln_12, ln_13, ln_14, ln_16, ln_17, ln_18, ln_19, ln_20, ln_21, ln_23, ln_24, ln_25, ln_27, ln_28, ln_29, ln_31, ln_32, ln_33, ln_35, ln_36, ln_37, show ¬ 7 ≤ c by omega, bI] at go ⊢
        exact go
  simp (disch := first | assumption | exact isSc1 | exact isSc3 | exact isSc5 | decide | omega) only [iX7_alike_40, iX7_alike_41, iX7_alike_44, eX0_begin, iX0_begin_0, iX0_begin_1, iX0_begin_4, iX0_begin_5, iX0_begin_8, Nat.reduceAdd, Nat.reduceSub, Nat.reduceMul, Nat.reduceLeDiff, mm_rv_s, mm_rv_n, true_and, and_true, if_true, if_false, not_true_eq_false, not_false_eq_true, nI_add, nz_0, nz_lt0, nz_0le, nz_0lt, nz_le0, nz_lt, nz_le, nz_eq, nz_cl, nz_in, nz_sub, nz_m1, pk_mul, set_o, set_ne, up_ne, up_set, n1_1, true_or, or_true, n1_01, n0_01, bI_01, bI_01b, bI_0, isSc1, isSc3, isSc5, ln_2, ln_4, ln_6, ln_8, ln_10, ln_11, ln_12, ln_13, ln_14, ln_16, ln_17, ln_18, ln_19, ln_20, ln_21, ln_23, ln_24, ln_25, ln_27, ln_28, ln_29, ln_31, ln_32, ln_33, ln_35, ln_36, ln_37, p_fill]
  simp (disch := first | assumption | exact isSc1 | exact isSc3 | exact isSc5 | decide | omega) only [iX7_alike_47, iX7_alike_48, Nat.reduceAdd, Nat.reduceSub, Nat.reduceMul, Nat.reduceLeDiff, mm_rv_s, mm_rv_n, true_and, and_true, if_true, if_false, not_true_eq_false, not_false_eq_true, nI_add, nz_0, nz_lt0, nz_0le, nz_0lt, nz_le0, nz_lt, nz_le, nz_eq, nz_cl, nz_in, nz_sub, nz_m1, pk_mul, set_o, set_ne, up_ne, up_set, n1_1, true_or, or_true, n1_01, n0_01, bI_01, bI_01b, bI_0, isSc1, isSc3, isSc5, ln_2, ln_4, ln_6, ln_8, ln_10, ln_11, ln_12, ln_13, ln_14, ln_16, ln_17, ln_18, ln_19, ln_20, ln_21, ln_23, ln_24, ln_25, ln_27, ln_28, ln_29, ln_31, ln_32, ln_33, ln_35, ln_36, ln_37]
  refine loop 7 0 (by omega) _ ((Same.rf _ _).set (by decide) _) (fun t ht => ?_)
  rw [set_o]
  unfold fillA
  rw [if_pos (by omega)]
  rfl
theorem m_alike (hD : isD (M 31) B L n g) (hv : Val B n g) {f l o : Nat} (hfl : f < l) (hl : l ≤ B) (ho : o + (l - f) ≤ B) (b : Bool) (hQ : ∀ f2, Q (some (alV b B n g f l o)) (mm_set M 37 f2)) : wp 148 56 [some (.inr 30), some (.inl (nI f)), some (.inl (nI l)), some (.inl (nI o)), some (.inl (bI b)), none, none, none, none] [] M Q := by
  have w2 := hv.2.1
  have w3 := hv.2.2.1
  have b1 : (nI 1 : Int32) = bI true := rfl
  have b0 : (nI 0 : Int32) = bI false := rfl
  simp (disch := first | assumption | exact isSc1 | exact isSc3 | exact isSc5 | decide | omega) only [iX8_alike_56, iX8_alike_57, Nat.reduceAdd, Nat.reduceSub, Nat.reduceMul, Nat.reduceLeDiff, mm_rv_s, mm_rv_n, true_and, and_true, if_true, if_false, not_true_eq_false, not_false_eq_true, nI_add, nz_0, nz_lt0, nz_0le, nz_0lt, nz_le0, nz_lt, nz_le, nz_eq, nz_cl, nz_in, nz_sub, nz_m1, pk_mul, set_o, set_ne, up_ne, up_set, n1_1, true_or, or_true, n1_01, n0_01, bI_01, bI_01b, bI_0, isSc1, isSc3, isSc5, ln_2, ln_4, ln_6, ln_8, ln_10, ln_11, ln_12, ln_13, ln_14, ln_16, ln_17, ln_18, ln_19, ln_20, ln_21, ln_23, ln_24, ln_25, ln_27, ln_28, ln_29, ln_31, ln_32, ln_33, ln_35, ln_36, ln_37]
  refine m_fills hD w3 hv.okG w2 (fun f2 hf => ?_)
  have hQ := hQ f2
  have hd2 : isD (mm_set M 37 f2 31) B L n g := by rw [set_ne _ _ (by decide)]; exact hD
  have hf2 : isCov (mm_set M 37 f2 37) B n g := by rw [set_o]; exact hf
  generalize mm_set M 37 f2 = M2 at hd2 hf2 hQ ⊢
  have inner : ∀ t, t < l - f → ∀ d c : Nat, c + d = 7 → ∀ n5 : Int32, (∀ l8, wp 148 123 [some (.inr 30), some (.inl (nI f)), some (.inl (nI l)), some (.inl (nI o)), some (.inl (bI b)), some (.inl n5), some (.inl (nI (f + t))), some (.inl (bI (decide (dcN b B n g f o 7 t = 0)))), l8] [] M2 Q) → wp 148 78 [some (.inr 30), some (.inl (nI f)), some (.inl (nI l)), some (.inl (nI o)), some (.inl (bI b)), some (.inl n5), some (.inl (nI (f + t))), some (.inl (bI (decide (dcN b B n g f o c t = 0)))), some (.inl (nI c))] [] M2 Q := by
    intro t ht d
    induction d with
    | zero =>
      intro c hc n5 h
      have hc : c = 7 := by omega
      subst hc
      rw [iX8_alike_78]
      simp (disch := first | assumption | exact isSc1 | exact isSc3 | exact isSc5 | decide | omega) only [iX8_alike_80, iX8_alike_82, Nat.reduceAdd, Nat.reduceSub, Nat.reduceMul, Nat.reduceLeDiff, mm_rv_s, mm_rv_n, true_and, and_true, if_true, if_false, not_true_eq_false, not_false_eq_true, nI_add, nz_0, nz_lt0, nz_0le, nz_0lt, nz_le0, nz_lt, nz_le, nz_eq, nz_cl, nz_in, nz_sub, nz_m1, pk_mul, set_o, set_ne, up_ne, up_set, n1_1, true_or, or_true, n1_01, n0_01, bI_01, bI_01b, bI_0, isSc1, isSc3, isSc5, ln_2, ln_4, ln_6, ln_8, ln_10, ln_11, ln_12, ln_13, ln_14, ln_16, ln_17, ln_18, ln_19, ln_20, ln_21, ln_23, ln_24, ln_25, ln_27, ln_28, ln_29, ln_31, ln_32, ln_33, ln_35, ln_36, ln_37, Nat.le_refl]
      exact h _
    | succ d ih =>
      intro c hc n5 h
      have i1 := ih (c + 1) (by omega) n5 h
      have ot : o + (f + t) - f = o + t := by omega
      by_cases hz : dcN b B n g f o c t = 0
      · have en : decide (dcN b B n g f o (c + 1) t = 0) = likeB b g (cv B n g c (f + t)) (cv B n g (if b = true then mirC c else c) (o + t)) := by
          rw [dcN_s, hz]
          cases likeB b g (cv B n g c (f + t)) (cv B n g (if b = true then mirC c else c) (o + t)) <;> simp
        rw [en] at i1
        have go : wc 147 [.inr 30, .inl (nI c), .inl (nI (f + t)), .inl (nI (o + t)), .inl (bI b)] M2 (fun r M'' => wp 148 115 [some (.inr 30), some (.inl (nI f)), some (.inl (nI l)), some (.inl (nI o)), some (.inl (bI b)), some (.inl n5), some (.inl (nI (f + t))), some (.inl (bI (decide (dcN b B n g f o c t = 0)))), some (.inl (nI c))] (mm_rv r ++ []) M'' Q) := by
          refine (m_isLike hd2 hv hf2 (by omega) (by omega) (by omega) b).mpr ?_
          simp (disch := first | assumption | exact isSc1 | exact isSc3 | exact isSc5 | decide | omega) only [iX8_alike_115, iX8_alike_117, iX8_alike_120, Nat.reduceAdd, Nat.reduceSub, Nat.reduceMul, Nat.reduceLeDiff, mm_rv_s, mm_rv_n, true_and, and_true, if_true, if_false, not_true_eq_false, not_false_eq_true, nI_add, nz_0, nz_lt0, nz_0le, nz_0lt, nz_le0, nz_lt, nz_le, nz_eq, nz_cl, nz_in, nz_sub, nz_m1, pk_mul, set_o, set_ne, up_ne, up_set, n1_1, true_or, or_true, n1_01, n0_01, bI_01, bI_01b, bI_0, isSc1, isSc3, isSc5, ln_2, ln_4, ln_6, ln_8, ln_10, ln_11, ln_12, ln_13, ln_14, ln_16, ln_17, ln_18, ln_19, ln_20, ln_21, ln_23, ln_24, ln_25, ln_27, ln_28, ln_29, ln_31, ln_32, ln_33, ln_35, ln_36, ln_37]
          exact i1
        rw [iX8_alike_78]
        cases b
        · rw [← b0] at go
          simp (disch := first | assumption | exact isSc1 | exact isSc3 | exact isSc5 | decide | omega) only [iX8_alike_80, iX8_alike_82, iX8_alike_85, iX8_alike_87, iX8_alike_90, iX8_alike_91, iX8_alike_93, iX8_alike_95, iX8_alike_96, iX8_alike_98, iX8_alike_99, iX8_alike_100, iX8_alike_101, iX8_alike_103, iX8_alike_104, iX8_alike_107, iX8_alike_108, iX8_alike_111, iX8_alike_112, Nat.reduceAdd, Nat.reduceSub, Nat.reduceMul, Nat.reduceLeDiff, mm_rv_s, mm_rv_n, true_and, and_true, if_true, if_false, not_true_eq_false, not_false_eq_true, nI_add, nz_0, nz_lt0, nz_0le, nz_0lt, nz_le0, nz_lt, nz_le, nz_eq, nz_cl, nz_in, nz_sub, nz_m1, pk_mul, set_o, set_ne, up_ne, up_set, n1_1, true_or, or_true, n1_01, n0_01, bI_01, bI_01b, bI_0, isSc1, isSc3, isSc5, ln_2, ln_4, ln_6, ln_8, ln_10, ln_11, ln_12, ln_13, ln_14, ln_16, ln_17, ln_18, ln_19, ln_20, ln_21, ln_23, ln_24, ln_25, ln_27, ln_28, ln_29, ln_31, ln_32, ln_33, ln_35, ln_36, ln_37, show ¬ 7 ≤ c by omega, hz, decide_true, Bool.true_eq_false, bI, Bool.false_eq_true, Nat.zero_ne_one, ot] at go ⊢
          exact go
        · rw [← b1] at go
          simp (disch := first | assumption | exact isSc1 | exact isSc3 | exact isSc5 | decide | omega) only [iX8_alike_80, iX8_alike_82, iX8_alike_85, iX8_alike_87, iX8_alike_90, iX8_alike_91, iX8_alike_93, iX8_alike_95, iX8_alike_96, iX8_alike_98, iX8_alike_99, iX8_alike_100, iX8_alike_101, iX8_alike_103, iX8_alike_104, iX8_alike_107, iX8_alike_108, iX8_alike_111, iX8_alike_112, Nat.reduceAdd, Nat.reduceSub, Nat.reduceMul, Nat.reduceLeDiff, mm_rv_s, mm_rv_n, true_and, and_true, if_true, if_false, not_true_eq_false, not_false_eq_true, nI_add, nz_0, nz_lt0, nz_0le, nz_0lt, nz_le0, nz_lt, nz_le, nz_eq, nz_cl, nz_in, nz_sub, nz_m1, pk_mul, set_o, set_ne, up_ne, up_set, n1_1, true_or, or_true, n1_01, n0_01, bI_01, bI_01b, bI_0, isSc1, isSc3, isSc5, ln_2, ln_4, ln_6, ln_8, ln_10, ln_11, ln_12, ln_13, ln_14, ln_16, ln_17, ln_18, ln_19, ln_20, ln_21, ln_23, ln_24, ln_25, ln_27, ln_28, ln_29, ln_31, ln_32, ln_33, ln_35, ln_36, ln_37, show ¬ 7 ≤ c by omega, hz, decide_true, Bool.true_eq_false, bI, ot] at go ⊢
          exact go
      · have hz7 : ¬ dcN b B n g f o 7 t = 0 := by
          have := dcN_mono b B n g f o t c (d + 1)
          rw [show c + (d + 1) = 7 by omega] at this
          omega
        have h8 := h (some (.inl (nI c)))
        rw [iX8_alike_78]
        simp (disch := first | assumption | exact isSc1 | exact isSc3 | exact isSc5 | decide | omega) only [iX8_alike_80, iX8_alike_82, iX8_alike_85, iX8_alike_87, Nat.reduceAdd, Nat.reduceSub, Nat.reduceMul, Nat.reduceLeDiff, mm_rv_s, mm_rv_n, true_and, and_true, if_true, if_false, not_true_eq_false, not_false_eq_true, nI_add, nz_0, nz_lt0, nz_0le, nz_0lt, nz_le0, nz_lt, nz_le, nz_eq, nz_cl, nz_in, nz_sub, nz_m1, pk_mul, set_o, set_ne, up_ne, up_set, n1_1, true_or, or_true, n1_01, n0_01, bI_01, bI_01b, bI_0, isSc1, isSc3, isSc5, ln_2, ln_4, ln_6, ln_8, ln_10, ln_11, ln_12, ln_13, ln_14, ln_16, ln_17, ln_18, ln_19, ln_20, ln_21, ln_23, ln_24, ln_25, ln_27, ln_28, ln_29, ln_31, ln_32, ln_33, ln_35, ln_36, ln_37, show ¬ 7 ≤ c by omega, hz, hz7, decide_false, bI, Bool.false_eq_true] at h8 ⊢
        exact h8
  have outer : ∀ d t : Nat, t + d = l - f → ∀ l7 l8 : Option mm_V, wp 148 66 [some (.inr 30), some (.inl (nI f)), some (.inl (nI l)), some (.inl (nI o)), some (.inl (bI b)), some (.inl (nI (cntF (fun t => decide (dcN b B n g f o 7 t = 0)) t))), some (.inl (nI (f + t))), l7, l8] [] M2 Q := by
    intro d
    induction d with
    | zero =>
      intro t ht l7 l8
      have ht : t = l - f := by omega
      subst ht
      rw [iX8_alike_66]
      simp (disch := first | assumption | exact isSc1 | exact isSc3 | exact isSc5 | decide | omega) only [iX8_alike_68, iX8_alike_69, iX8_alike_144, iX8_alike_146, Nat.reduceAdd, Nat.reduceSub, Nat.reduceMul, Nat.reduceLeDiff, mm_rv_s, mm_rv_n, true_and, and_true, if_true, if_false, not_true_eq_false, not_false_eq_true, nI_add, nz_0, nz_lt0, nz_0le, nz_0lt, nz_le0, nz_lt, nz_le, nz_eq, nz_cl, nz_in, nz_sub, nz_m1, pk_mul, set_o, set_ne, up_ne, up_set, n1_1, true_or, or_true, n1_01, n0_01, bI_01, bI_01b, bI_0, isSc1, isSc3, isSc5, ln_2, ln_4, ln_6, ln_8, ln_10, ln_11, ln_12, ln_13, ln_14, ln_16, ln_17, ln_18, ln_19, ln_20, ln_21, ln_23, ln_24, ln_25, ln_27, ln_28, ln_29, ln_31, ln_32, ln_33, ln_35, ln_36, ln_37, show l ≤ f + (l - f) by omega]
      exact hQ
    | succ d ih =>
      intro t ht l7 l8
      have n1 : bI (decide (dcN b B n g f o 0 t = 0)) = nI 1 := rfl
      have e5 := inner t (by omega) 7 0 (by omega) (nI (cntF (fun t => decide (dcN b B n g f o 7 t = 0)) t)) (fun l8 => by
        have i1 := ih (t + 1) (by omega) (some (.inl (bI (decide (dcN b B n g f o 7 t = 0))))) l8
        rw [cntF_s] at i1
        have ef : f + (t + 1) = f + t + 1 := by omega
        rw [ef] at i1
        by_cases hz : dcN b B n g f o 7 t = 0
        · simp only [hz, decide_true, bI, if_true] at i1 ⊢
          simp (disch := first | assumption | exact isSc1 | exact isSc3 | exact isSc5 | decide | omega) only [iX8_alike_123, iX8_alike_125, iX8_alike_127, iX8_alike_130, iX8_alike_131, iX8_alike_134, iX8_alike_135, iX8_alike_136, iX8_alike_138, iX8_alike_141, Nat.reduceAdd, Nat.reduceSub, Nat.reduceMul, Nat.reduceLeDiff, mm_rv_s, mm_rv_n, true_and, and_true, if_true, if_false, not_true_eq_false, not_false_eq_true, nI_add, nz_0, nz_lt0, nz_0le, nz_0lt, nz_le0, nz_lt, nz_le, nz_eq, nz_cl, nz_in, nz_sub, nz_m1, pk_mul, set_o, set_ne, up_ne, up_set, n1_1, true_or, or_true, n1_01, n0_01, bI_01, bI_01b, bI_0, isSc1, isSc3, isSc5, ln_2, ln_4, ln_6, ln_8, ln_10, ln_11, ln_12, ln_13, ln_14, ln_16, ln_17, ln_18, ln_19, ln_20, ln_21, ln_23, ln_24, ln_25, ln_27, ln_28, ln_29, ln_31, ln_32, ln_33, ln_35, ln_36, ln_37]
          exact i1
        · simp only [hz, decide_false, bI, Bool.false_eq_true, if_false, Nat.add_zero] at i1 ⊢
          simp (disch := first | assumption | exact isSc1 | exact isSc3 | exact isSc5 | decide | omega) only [iX8_alike_123, iX8_alike_125, iX8_alike_127, iX8_alike_130, iX8_alike_131, iX8_alike_134, iX8_alike_135, iX8_alike_136, iX8_alike_138, iX8_alike_141, Nat.reduceAdd, Nat.reduceSub, Nat.reduceMul, Nat.reduceLeDiff, mm_rv_s, mm_rv_n, true_and, and_true, if_true, if_false, not_true_eq_false, not_false_eq_true, nI_add, nz_0, nz_lt0, nz_0le, nz_0lt, nz_le0, nz_lt, nz_le, nz_eq, nz_cl, nz_in, nz_sub, nz_m1, pk_mul, set_o, set_ne, up_ne, up_set, n1_1, true_or, or_true, n1_01, n0_01, bI_01, bI_01b, bI_0, isSc1, isSc3, isSc5, ln_2, ln_4, ln_6, ln_8, ln_10, ln_11, ln_12, ln_13, ln_14, ln_16, ln_17, ln_18, ln_19, ln_20, ln_21, ln_23, ln_24, ln_25, ln_27, ln_28, ln_29, ln_31, ln_32, ln_33, ln_35, ln_36, ln_37]
          exact i1)
      rw [n1] at e5
      rw [iX8_alike_66]
      simp (disch := first | assumption | exact isSc1 | exact isSc3 | exact isSc5 | decide | omega) only [iX8_alike_68, iX8_alike_69, iX8_alike_72, iX8_alike_73, iX8_alike_75, iX8_alike_76, Nat.reduceAdd, Nat.reduceSub, Nat.reduceMul, Nat.reduceLeDiff, mm_rv_s, mm_rv_n, true_and, and_true, if_true, if_false, not_true_eq_false, not_false_eq_true, nI_add, nz_0, nz_lt0, nz_0le, nz_0lt, nz_le0, nz_lt, nz_le, nz_eq, nz_cl, nz_in, nz_sub, nz_m1, pk_mul, set_o, set_ne, up_ne, up_set, n1_1, true_or, or_true, n1_01, n0_01, bI_01, bI_01b, bI_0, isSc1, isSc3, isSc5, ln_2, ln_4, ln_6, ln_8, ln_10, ln_11, ln_12, ln_13, ln_14, ln_16, ln_17, ln_18, ln_19, ln_20, ln_21, ln_23, ln_24, ln_25, ln_27, ln_28, ln_29, ln_31, ln_32, ln_33, ln_35, ln_36, ln_37, show ¬ l ≤ f + t by omega]
      exact e5
  simp (disch := first | assumption | exact isSc1 | exact isSc3 | exact isSc5 | decide | omega) only [iX8_alike_60, iX8_alike_61, iX8_alike_63, iX8_alike_64, Nat.reduceAdd, Nat.reduceSub, Nat.reduceMul, Nat.reduceLeDiff, mm_rv_s, mm_rv_n, true_and, and_true, if_true, if_false, not_true_eq_false, not_false_eq_true, nI_add, nz_0, nz_lt0, nz_0le, nz_0lt, nz_le0, nz_lt, nz_le, nz_eq, nz_cl, nz_in, nz_sub, nz_m1, pk_mul, set_o, set_ne, up_ne, up_set, n1_1, true_or, or_true, n1_01, n0_01, bI_01, bI_01b, bI_0, isSc1, isSc3, isSc5, ln_2, ln_4, ln_6, ln_8, ln_10, ln_11, ln_12, ln_13, ln_14, ln_16, ln_17, ln_18, ln_19, ln_20, ln_21, ln_23, ln_24, ln_25, ln_27, ln_28, ln_29, ln_31, ln_32, ln_33, ln_35, ln_36, ln_37]
  exact outer (l - f) 0 (by omega) none none
theorem pr_alike (hI : Inv M) (a1 a2 a3 a4 : Int32) : lw_pair Inv M 85 148 [.inl a1, .inl a2, .inl a3, .inl a4] := by
  obtain ⟨⟨B, L, n, g, hc⟩, ⟨h, H, hh⟩, ht, hw⟩ := id hI
  obtain ⟨hv, hn, hL, hx, hd⟩ := id hc
  have w1 := hv.1
  have w2 := hv.2.1
  have x0 := hx.1
  by_cases hr1 : (nI 0 ≤ a1 ∧ a1 ≤ nI B - nI 1) ∧ (a1 + nI 1 ≤ a2 ∧ a2 ≤ nI B)
  · obtain ⟨f, l, rfl, rfl, hfl, hl⟩ := phr_nat (by omega) w2 hr1
    have es : nI B - nI (l - f) = nI (B - (l - f)) := nz_sub _ _ (by omega)
    have es2 : nI B - nI l + nI f = nI (B - (l - f)) := by rw [nz_sub _ _ hl, nI_add]; congr 1; omega
    by_cases hr2 : nI 0 ≤ a3 ∧ a3 ≤ nI (B - (l - f))
    · by_cases hr3 : nI 0 ≤ a4 ∧ a4 ≤ nI 1
      · obtain ⟨o, rfl, -, ho⟩ := in_nat hr2.1 hr2.2 (by decide) (by omega)
        obtain ⟨k, rfl, -, hk1⟩ := in_nat hr3.1 hr3.2 (by decide) (by decide)
        obtain ⟨b, hb⟩ : ∃ b : Bool, nI k = bI b := by
          have : k = 0 ∨ k = 1 := by omega
          rcases this with rfl | rfl
          · exact ⟨false, rfl⟩
          · exact ⟨true, rfl⟩
        have hb3 : nI 0 ≤ bI b ∧ bI b ≤ nI 1 := by rw [← hb]; exact hr3
        rw [hb]
        refine pair_q hI (alV b B n g f l o) ?_ (fun M1 hk => ?_)
        · have := x_alike hx hv hfl hl (show o + (l - f) ≤ B by omega) b (Q := fun r M1 => r = some (alV b B n g f l o) ∧ Kp M M1) (fun M' hS => ⟨rfl, Kp.same hS (by decide)⟩)
          simp (disch := first | assumption | exact isSc1 | exact isSc3 | exact isSc5 | decide | omega) only [eX7_alike, iX7_alike_0, iX7_alike_1, iX7_alike_2, iX7_alike_3, iX7_alike_6, iX7_alike_9, iX7_alike_10, iX7_alike_11, iX7_alike_12, iX7_alike_15, iX7_alike_18, iX7_alike_19, iX7_alike_20, iX7_alike_21, iX7_alike_22, iX7_alike_25, iX7_alike_28, iX7_alike_30, iX7_alike_33, p_isPhrase, p_isWithin, p_isFlag, x0, isSc1, mm_rv_s, true_and, bI_0, bI_01, decide_eq_false_iff_not, nz_sub l f, es, hr1, hr2, hb3, and_self, decide_true, Bool.true_eq_false, not_true_eq_false, not_false_eq_true, if_true, if_false]
          exact this
        · have hd1 := (hc.kp hk).2.2.2.2
          have d0 := hd1.1
          have := m_alike (M := M1) hd1 hv hfl hl (show o + (l - f) ≤ B by omega) b (Q := fun r M2 => r = some (alV b B n g f l o) ∧ Kp M1 M2) (fun f2 => ⟨rfl, Kp.set f2 (by decide)⟩)
          simp (disch := first | assumption | exact isSc1 | exact isSc3 | exact isSc5 | decide | omega) only [eX8_alike, iX8_alike_0, iX8_alike_1, iX8_alike_2, iX8_alike_5, iX8_alike_8, iX8_alike_9, iX8_alike_10, iX8_alike_11, iX8_alike_12, iX8_alike_13, iX8_alike_16, iX8_alike_17, iX8_alike_18, iX8_alike_21, iX8_alike_24, iX8_alike_25, iX8_alike_26, iX8_alike_27, iX8_alike_30, iX8_alike_31, iX8_alike_32, iX8_alike_33, iX8_alike_34, iX8_alike_35, iX8_alike_36, iX8_alike_39, iX8_alike_42, iX8_alike_44, iX8_alike_45, iX8_alike_46, iX8_alike_49, p_isBeatM, p_in, d0, ln_31, nz_in, nz_cl, Nat.reduceLT, mm_rv_s, true_and, bI_0, bI_01, es2, hr1, hr2, hb3, and_self, decide_true, Bool.true_eq_false, not_true_eq_false, not_false_eq_true, if_true, if_false]
          exact this
      · refine pair_q hI (-1001) ?_ (fun M1 hk => ?_)
        · simp (disch := first | assumption | exact isSc1 | exact isSc3 | exact isSc5 | decide | omega) only [eX7_alike, iX7_alike_0, iX7_alike_1, iX7_alike_2, iX7_alike_3, iX7_alike_6, iX7_alike_9, iX7_alike_10, iX7_alike_11, iX7_alike_12, iX7_alike_15, iX7_alike_18, iX7_alike_19, iX7_alike_20, iX7_alike_21, iX7_alike_22, iX7_alike_25, iX7_alike_28, iX7_alike_30, iX7_alike_33, iX7_alike_36, iX7_alike_39, p_isPhrase, p_isWithin, p_isFlag, x0, isSc1, mm_rv_s, true_and, bI_0, bI_01, nz_sub l f, es, hr1, hr2, hr3, and_self, decide_true, decide_false, Bool.true_eq_false, not_true_eq_false, not_false_eq_true, if_true, if_false]
          first | exact Kp.rf M | exact ⟨rfl, Kp.rf M⟩ | exact ⟨trivial, Kp.rf M⟩
        · have d0 := (hc.kp hk).2.2.2.2.1
          simp (disch := first | assumption | exact isSc1 | exact isSc3 | exact isSc5 | decide | omega) only [eX8_alike, iX8_alike_0, iX8_alike_1, iX8_alike_2, iX8_alike_5, iX8_alike_8, iX8_alike_9, iX8_alike_10, iX8_alike_11, iX8_alike_12, iX8_alike_13, iX8_alike_16, iX8_alike_17, iX8_alike_18, iX8_alike_21, iX8_alike_24, iX8_alike_25, iX8_alike_26, iX8_alike_27, iX8_alike_30, iX8_alike_31, iX8_alike_32, iX8_alike_33, iX8_alike_34, iX8_alike_35, iX8_alike_36, iX8_alike_39, iX8_alike_42, iX8_alike_44, iX8_alike_45, iX8_alike_46, iX8_alike_49, iX8_alike_52, iX8_alike_55, p_isBeatM, p_in, d0, ln_31, nz_in, nz_cl, Nat.reduceLT, mm_rv_s, true_and, bI_0, bI_01, es2, hr1, hr2, hr3, and_self, decide_true, decide_false, Bool.true_eq_false, not_true_eq_false, not_false_eq_true, if_true, if_false]
          first | exact Kp.rf M1 | exact ⟨rfl, Kp.rf M1⟩ | exact ⟨trivial, Kp.rf M1⟩
    · refine pair_q hI (-1001) ?_ (fun M1 hk => ?_)
      · simp (disch := first | assumption | exact isSc1 | exact isSc3 | exact isSc5 | decide | omega) only [eX7_alike, iX7_alike_0, iX7_alike_1, iX7_alike_2, iX7_alike_3, iX7_alike_6, iX7_alike_9, iX7_alike_10, iX7_alike_11, iX7_alike_12, iX7_alike_15, iX7_alike_18, iX7_alike_19, iX7_alike_20, iX7_alike_21, iX7_alike_22, iX7_alike_25, iX7_alike_28, iX7_alike_30, iX7_alike_33, iX7_alike_36, iX7_alike_39, p_isPhrase, p_isWithin, p_isFlag, x0, isSc1, mm_rv_s, true_and, bI_0, bI_01, nz_sub l f, es, hr1, hr2, and_self, decide_true, decide_false, Bool.true_eq_false, not_true_eq_false, not_false_eq_true, if_true, if_false]
        first | exact Kp.rf M | exact ⟨rfl, Kp.rf M⟩ | exact ⟨trivial, Kp.rf M⟩
      · have d0 := (hc.kp hk).2.2.2.2.1
        simp (disch := first | assumption | exact isSc1 | exact isSc3 | exact isSc5 | decide | omega) only [eX8_alike, iX8_alike_0, iX8_alike_1, iX8_alike_2, iX8_alike_5, iX8_alike_8, iX8_alike_9, iX8_alike_10, iX8_alike_11, iX8_alike_12, iX8_alike_13, iX8_alike_16, iX8_alike_17, iX8_alike_18, iX8_alike_21, iX8_alike_24, iX8_alike_25, iX8_alike_26, iX8_alike_27, iX8_alike_30, iX8_alike_31, iX8_alike_32, iX8_alike_33, iX8_alike_34, iX8_alike_35, iX8_alike_36, iX8_alike_39, iX8_alike_42, iX8_alike_44, iX8_alike_45, iX8_alike_46, iX8_alike_49, iX8_alike_52, iX8_alike_55, p_isBeatM, p_in, d0, ln_31, nz_in, nz_cl, Nat.reduceLT, mm_rv_s, true_and, bI_0, bI_01, es2, hr1, hr2, and_self, decide_true, decide_false, Bool.true_eq_false, not_true_eq_false, not_false_eq_true, if_true, if_false]
        first | exact Kp.rf M1 | exact ⟨rfl, Kp.rf M1⟩ | exact ⟨trivial, Kp.rf M1⟩
  · refine pair_q hI (-1001) ?_ (fun M1 hk => ?_)
    · simp (disch := first | assumption | exact isSc1 | exact isSc3 | exact isSc5 | decide | omega) only [eX7_alike, iX7_alike_0, iX7_alike_1, iX7_alike_2, iX7_alike_3, iX7_alike_6, iX7_alike_9, iX7_alike_10, iX7_alike_11, iX7_alike_12, iX7_alike_15, iX7_alike_18, iX7_alike_19, iX7_alike_20, iX7_alike_21, iX7_alike_22, iX7_alike_25, iX7_alike_28, iX7_alike_30, iX7_alike_33, iX7_alike_36, iX7_alike_39, p_isPhrase, x0, mm_rv_s, bI_0, bI_01, hr1, decide_false, if_true, if_false]
      first | exact Kp.rf M | exact ⟨rfl, Kp.rf M⟩ | exact ⟨trivial, Kp.rf M⟩
    · have d0 := (hc.kp hk).2.2.2.2.1
      by_cases hr4 : nI 0 ≤ a1 ∧ a1 ≤ nI B - nI 1
      · have hr5 : ¬ (a1 + nI 1 ≤ a2 ∧ a2 ≤ nI B) := fun z => hr1 ⟨hr4, z⟩
        simp (disch := first | assumption | exact isSc1 | exact isSc3 | exact isSc5 | decide | omega) only [eX8_alike, iX8_alike_0, iX8_alike_1, iX8_alike_2, iX8_alike_5, iX8_alike_8, iX8_alike_9, iX8_alike_10, iX8_alike_11, iX8_alike_12, iX8_alike_13, iX8_alike_16, iX8_alike_17, iX8_alike_18, iX8_alike_21, iX8_alike_24, iX8_alike_25, iX8_alike_26, iX8_alike_27, iX8_alike_30, iX8_alike_31, iX8_alike_32, iX8_alike_33, iX8_alike_34, iX8_alike_35, iX8_alike_36, iX8_alike_39, iX8_alike_42, iX8_alike_44, iX8_alike_45, iX8_alike_46, iX8_alike_49, iX8_alike_52, iX8_alike_55, p_isBeatM, p_in, d0, ln_31, nz_in, nz_cl, Nat.reduceLT, mm_rv_s, true_and, bI_0, bI_01, hr4, hr5, and_self, decide_true, decide_false, Bool.true_eq_false, not_true_eq_false, not_false_eq_true, if_true, if_false]
        first | exact Kp.rf M1 | exact ⟨rfl, Kp.rf M1⟩ | exact ⟨trivial, Kp.rf M1⟩
      · simp (disch := first | assumption | exact isSc1 | exact isSc3 | exact isSc5 | decide | omega) only [eX8_alike, iX8_alike_0, iX8_alike_1, iX8_alike_2, iX8_alike_5, iX8_alike_8, iX8_alike_9, iX8_alike_10, iX8_alike_11, iX8_alike_12, iX8_alike_13, iX8_alike_16, iX8_alike_17, iX8_alike_18, iX8_alike_21, iX8_alike_24, iX8_alike_25, iX8_alike_26, iX8_alike_27, iX8_alike_30, iX8_alike_31, iX8_alike_32, iX8_alike_33, iX8_alike_34, iX8_alike_35, iX8_alike_36, iX8_alike_39, iX8_alike_42, iX8_alike_44, iX8_alike_45, iX8_alike_46, iX8_alike_49, iX8_alike_52, iX8_alike_55, p_isBeatM, d0, mm_rv_s, bI_0, bI_01, hr4, decide_false, if_true, if_false]
        first | exact Kp.rf M1 | exact ⟨rfl, Kp.rf M1⟩ | exact ⟨trivial, Kp.rf M1⟩
end LK2
