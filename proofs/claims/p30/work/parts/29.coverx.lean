/-! THE CLASS TELLS WHAT COVERS A BEAT -/
section CX
variable {o B L n : Nat} {g : Nat → Sg} {M : mm_M} {Q : mm_Q}
/-- the signs as the class can hold them -/
def okG (n : Nat) (g : Nat → Sg) : Prop := ∀ i : Nat, i < n → okS (g i) ∧ sB (g i) ≤ 94
theorem Val.okG (h : Val B n g) : okG n g := by
  obtain ⟨w1, w2, w3, v1, v2, v3⟩ := h
  intro i hi
  have := v1 i hi
  exact ⟨this.1, by omega⟩
theorem okG_b (h : okG n g) {i : Nat} (hi : i < n) : okS (g i) ∧ sB (g i) < 128 ∧ sB (g i) ≤ 94 ∧ sC (g i) ≤ 6 ∧ sK (g i) ≤ 3 ∧ 1 ≤ sS (g i) ∧ sS (g i) ≤ 48 ∧ sN (g i) ≤ 48 := by
  have h1 := h i hi
  have h2 := okS_b h1.1
  exact ⟨h1.1, by omega, h1.2, h1.1.1, h1.1.2.1, h2.2.2.1, h2.2.2.2.2.2.2.2.2, h1.1.2.2.1⟩
theorem p_endOf (h : isSc o) (hC : isC M o B L n g) (hn : n ≤ 120) (hg : okG n g) (hB : B ≤ 48) {i : Nat} (hi : i < n) : wc 12 [.inr o, .inl (nI i)] M Q ↔ Q (some (nI (endN B n g i))) M := by
  obtain ⟨c0, c1, c2, c3⟩ := hC
  have hlt := sc_lt h
  obtain ⟨a1, a2, a3, a4, a5, a6, a7, a8⟩ := okG_b hg hi
  simp (disch := first | assumption | exact isSc1 | exact isSc3 | exact isSc5 | decide | omega) only [eX2_endOf, iX2_endOf_0, iX2_endOf_1, iX2_endOf_2, p_at h c2 hn hi, c3 i hi, Nat.reduceAdd, Nat.reduceSub, Nat.reduceMul, Nat.reduceLeDiff, mm_rv_s, mm_rv_n, true_and, and_true, if_true, if_false, not_true_eq_false, not_false_eq_true, nI_add, nz_0, nz_lt0, nz_0le, nz_0lt, nz_le0, nz_lt, nz_le, nz_eq, nz_cl, nz_in, nz_sub, nz_m1, pk_mul, set_o, set_ne, up_ne, up_set, n1_1, true_or, or_true, n1_01, n0_01, bI_01, bI_01b, bI_0, isSc1, isSc3, isSc5, ln_2, ln_4, ln_6, ln_8, ln_10, ln_11, ln_12, ln_13, ln_14, ln_16, ln_17, ln_18, ln_19, ln_20, ln_21, ln_23, ln_24, ln_25, ln_27, ln_28, ln_29]
  simp (disch := first | assumption | exact isSc1 | exact isSc3 | exact isSc5 | decide | omega) only [iX2_endOf_5, iX2_endOf_6, iX2_endOf_7, g_kindOf a1 a2, Nat.reduceAdd, Nat.reduceSub, Nat.reduceMul, Nat.reduceLeDiff, mm_rv_s, mm_rv_n, true_and, and_true, if_true, if_false, not_true_eq_false, not_false_eq_true, nI_add, nz_0, nz_lt0, nz_0le, nz_0lt, nz_le0, nz_lt, nz_le, nz_eq, nz_cl, nz_in, nz_sub, nz_m1, pk_mul, set_o, set_ne, up_ne, up_set, n1_1, true_or, or_true, n1_01, n0_01, bI_01, bI_01b, bI_0, isSc1, isSc3, isSc5, ln_2, ln_4, ln_6, ln_8, ln_10, ln_11, ln_12, ln_13, ln_14, ln_16, ln_17, ln_18, ln_19, ln_20, ln_21, ln_23, ln_24, ln_25, ln_27, ln_28, ln_29, iX2_endOf_10, iX2_endOf_11, iX2_endOf_14, iX2_endOf_15, iX2_endOf_18, iX2_endOf_19, iX2_endOf_20, iX2_endOf_21, iX2_endOf_22]
  unfold endN
  by_cases hk : sK (g i) = 1
  · rw [if_pos hk, if_pos hk]
    have loop : ∀ d k : Nat, k + d = n → (wp 12 23 [some (.inr o), some (.inl (nI i)), some (.inl (nI (pk (g i)))), some (.inl (nI k))] [] M Q ↔ Q (some (nI (nxt B g (sC (g i)) d k))) M) := by
      intro d
      induction d with
      | zero =>
        intro k hk
        rw [iX2_endOf_23]
        simp (disch := first | assumption | exact isSc1 | exact isSc3 | exact isSc5 | decide | omega) only [iX2_endOf_24, iX2_endOf_25, iX2_endOf_28, iX2_endOf_63, iX2_endOf_64, iX2_endOf_67, Nat.reduceAdd, Nat.reduceSub, Nat.reduceMul, Nat.reduceLeDiff, mm_rv_s, mm_rv_n, true_and, and_true, if_true, if_false, not_true_eq_false, not_false_eq_true, nI_add, nz_0, nz_lt0, nz_0le, nz_0lt, nz_le0, nz_lt, nz_le, nz_eq, nz_cl, nz_in, nz_sub, nz_m1, pk_mul, set_o, set_ne, up_ne, up_set, n1_1, true_or, or_true, n1_01, n0_01, bI_01, bI_01b, bI_0, isSc1, isSc3, isSc5, ln_2, ln_4, ln_6, ln_8, ln_10, ln_11, ln_12, ln_13, ln_14, ln_16, ln_17, ln_18, ln_19, ln_20, ln_21, ln_23, ln_24, ln_25, ln_27, ln_28, ln_29, c2, c0, show n ≤ k by omega]
        rfl
      | succ d ih =>
        intro k hk
        obtain ⟨b1, b2, b3, b4, b5, b6, b7, b8⟩ := okG_b hg (show k < n by omega)
        have hln := sc_ln h
        rw [iX2_endOf_23]
        simp (disch := first | assumption | exact isSc1 | exact isSc3 | exact isSc5 | decide | omega) only [iX2_endOf_24, iX2_endOf_25, iX2_endOf_28, iX2_endOf_31, iX2_endOf_32, iX2_endOf_35, iX2_endOf_36, iX2_endOf_37, Nat.reduceAdd, Nat.reduceSub, Nat.reduceMul, Nat.reduceLeDiff, mm_rv_s, mm_rv_n, true_and, and_true, if_true, if_false, not_true_eq_false, not_false_eq_true, nI_add, nz_0, nz_lt0, nz_0le, nz_0lt, nz_le0, nz_lt, nz_le, nz_eq, nz_cl, nz_in, nz_sub, nz_m1, pk_mul, set_o, set_ne, up_ne, up_set, n1_1, true_or, or_true, n1_01, n0_01, bI_01, bI_01b, bI_0, isSc1, isSc3, isSc5, ln_2, ln_4, ln_6, ln_8, ln_10, ln_11, ln_12, ln_13, ln_14, ln_16, ln_17, ln_18, ln_19, ln_20, ln_21, ln_23, ln_24, ln_25, ln_27, ln_28, ln_29, c2, show ¬ n ≤ k by omega, hln, c3 k (by omega), g_columnOf b1 b2]
        simp (disch := first | assumption | exact isSc1 | exact isSc3 | exact isSc5 | decide | omega) only [iX2_endOf_40, iX2_endOf_41, Nat.reduceAdd, Nat.reduceSub, Nat.reduceMul, Nat.reduceLeDiff, mm_rv_s, mm_rv_n, true_and, and_true, if_true, if_false, not_true_eq_false, not_false_eq_true, nI_add, nz_0, nz_lt0, nz_0le, nz_0lt, nz_le0, nz_lt, nz_le, nz_eq, nz_cl, nz_in, nz_sub, nz_m1, pk_mul, set_o, set_ne, up_ne, up_set, n1_1, true_or, or_true, n1_01, n0_01, bI_01, bI_01b, bI_0, isSc1, isSc3, isSc5, ln_2, ln_4, ln_6, ln_8, ln_10, ln_11, ln_12, ln_13, ln_14, ln_16, ln_17, ln_18, ln_19, ln_20, ln_21, ln_23, ln_24, ln_25, ln_27, ln_28, ln_29, g_columnOf a1 a2, iX2_endOf_44]
        unfold nxt
        by_cases hcc : sC (g k) = sC (g i)
        · rw [if_neg (by simpa using hcc), if_pos hcc]
          simp (disch := first | assumption | exact isSc1 | exact isSc3 | exact isSc5 | decide | omega) only [iX2_endOf_47, iX2_endOf_48, iX2_endOf_51, iX2_endOf_52, iX2_endOf_53, Nat.reduceAdd, Nat.reduceSub, Nat.reduceMul, Nat.reduceLeDiff, mm_rv_s, mm_rv_n, true_and, and_true, if_true, if_false, not_true_eq_false, not_false_eq_true, nI_add, nz_0, nz_lt0, nz_0le, nz_0lt, nz_le0, nz_lt, nz_le, nz_eq, nz_cl, nz_in, nz_sub, nz_m1, pk_mul, set_o, set_ne, up_ne, up_set, n1_1, true_or, or_true, n1_01, n0_01, bI_01, bI_01b, bI_0, isSc1, isSc3, isSc5, ln_2, ln_4, ln_6, ln_8, ln_10, ln_11, ln_12, ln_13, ln_14, ln_16, ln_17, ln_18, ln_19, ln_20, ln_21, ln_23, ln_24, ln_25, ln_27, ln_28, ln_29, hln, c3 k (by omega), g_beginOf b1 b2]
          simp (disch := first | assumption | exact isSc1 | exact isSc3 | exact isSc5 | decide | omega) only [iX2_endOf_56, Nat.reduceAdd, Nat.reduceSub, Nat.reduceMul, Nat.reduceLeDiff, mm_rv_s, mm_rv_n, true_and, and_true, if_true, if_false, not_true_eq_false, not_false_eq_true, nI_add, nz_0, nz_lt0, nz_0le, nz_0lt, nz_le0, nz_lt, nz_le, nz_eq, nz_cl, nz_in, nz_sub, nz_m1, pk_mul, set_o, set_ne, up_ne, up_set, n1_1, true_or, or_true, n1_01, n0_01, bI_01, bI_01b, bI_0, isSc1, isSc3, isSc5, ln_2, ln_4, ln_6, ln_8, ln_10, ln_11, ln_12, ln_13, ln_14, ln_16, ln_17, ln_18, ln_19, ln_20, ln_21, ln_23, ln_24, ln_25, ln_27, ln_28, ln_29]
        · rw [if_pos hcc, if_neg hcc, ← ih (k + 1) (by omega)]
          simp (disch := first | assumption | exact isSc1 | exact isSc3 | exact isSc5 | decide | omega) only [iX2_endOf_57, iX2_endOf_60, Nat.reduceAdd, Nat.reduceSub, Nat.reduceMul, Nat.reduceLeDiff, mm_rv_s, mm_rv_n, true_and, and_true, if_true, if_false, not_true_eq_false, not_false_eq_true, nI_add, nz_0, nz_lt0, nz_0le, nz_0lt, nz_le0, nz_lt, nz_le, nz_eq, nz_cl, nz_in, nz_sub, nz_m1, pk_mul, set_o, set_ne, up_ne, up_set, n1_1, true_or, or_true, n1_01, n0_01, bI_01, bI_01b, bI_0, isSc1, isSc3, isSc5, ln_2, ln_4, ln_6, ln_8, ln_10, ln_11, ln_12, ln_13, ln_14, ln_16, ln_17, ln_18, ln_19, ln_20, ln_21, ln_23, ln_24, ln_25, ln_27, ln_28, ln_29]
    rw [loop (n - (i + 1)) (i + 1) (by omega)]
  · rw [if_neg hk, if_neg hk]
    rw [g_shortEndOf a1 a2, sS_N hk]
    simp (disch := first | assumption | exact isSc1 | exact isSc3 | exact isSc5 | decide | omega) only [iX2_endOf_18, Nat.reduceAdd, Nat.reduceSub, Nat.reduceMul, Nat.reduceLeDiff, mm_rv_s, mm_rv_n, true_and, and_true, if_true, if_false, not_true_eq_false, not_false_eq_true, nI_add, nz_0, nz_lt0, nz_0le, nz_0lt, nz_le0, nz_lt, nz_le, nz_eq, nz_cl, nz_in, nz_sub, nz_m1, pk_mul, set_o, set_ne, up_ne, up_set, n1_1, true_or, or_true, n1_01, n0_01, bI_01, bI_01b, bI_0, isSc1, isSc3, isSc5, ln_2, ln_4, ln_6, ln_8, ln_10, ln_11, ln_12, ln_13, ln_14, ln_16, ln_17, ln_18, ln_19, ln_20, ln_21, ln_23, ln_24, ln_25, ln_27, ln_28, ln_29]
theorem endN_le (hv : Val B n g) {i : Nat} (hi : i < n) : endN B n g i ≤ B := by
  obtain ⟨w1, w2, w3, v1, v2, v3⟩ := hv
  unfold endN
  by_cases hk : sK (g i) = 1
  · rw [if_pos hk]
    rcases nxt_spec B g (sC (g i)) (n - (i + 1)) (i + 1) with ⟨x, a1, a2, a3, a4, a5⟩ | ⟨a1, a2⟩
    · rw [a4]
      have := v1 x (by omega)
      omega
    · omega
  · rw [if_neg hk]
    have := v1 i hi
    rw [sS_N hk] at this
    omega
theorem p_numberCovering (h : isSc o) (hC : isC M o B L n g) (hv : Val B n g) {c t : Nat} (hc : c ≤ 6) (ht : t < B) : wc 13 [.inr o, .inl (nI c), .inl (nI t)] M Q ↔ Q (some (oI (cv B n g c t))) M := by
  obtain ⟨c0, c1, c2, c3⟩ := id hC
  obtain ⟨w1, w2, w3, v1, v2, v3⟩ := id hv
  have hg := hv.okG
  have hlt := sc_lt h
  have hln := sc_ln h
  simp (disch := first | assumption | exact isSc1 | exact isSc3 | exact isSc5 | decide | omega) only [eX2_numberCovering, iX2_numberCovering_0, iX2_numberCovering_1, iX2_numberCovering_2, iX2_numberCovering_3, Nat.reduceAdd, Nat.reduceSub, Nat.reduceMul, Nat.reduceLeDiff, mm_rv_s, mm_rv_n, true_and, and_true, if_true, if_false, not_true_eq_false, not_false_eq_true, nI_add, nz_0, nz_lt0, nz_0le, nz_0lt, nz_le0, nz_lt, nz_le, nz_eq, nz_cl, nz_in, nz_sub, nz_m1, pk_mul, set_o, set_ne, up_ne, up_set, n1_1, true_or, or_true, n1_01, n0_01, bI_01, bI_01b, bI_0, isSc1, isSc3, isSc5, ln_2, ln_4, ln_6, ln_8, ln_10, ln_11, ln_12, ln_13, ln_14, ln_16, ln_17, ln_18, ln_19, ln_20, ln_21, ln_23, ln_24, ln_25, ln_27, ln_28, ln_29]
  have loop : ∀ d k : Nat, k + d = n → (wp 13 5 [some (.inr o), some (.inl (nI c)), some (.inl (nI t)), some (.inl (oI (latest g k c t))), some (.inl (nI k))] [] M Q ↔ wp 13 51 [some (.inr o), some (.inl (nI c)), some (.inl (nI t)), some (.inl (oI (latest g n c t))), some (.inl (nI n))] [] M Q) := by
    intro d
    induction d with
    | zero =>
      intro k hk
      have hk : k = n := by omega
      subst hk
      rw [iX2_numberCovering_5]
      simp (disch := first | assumption | exact isSc1 | exact isSc3 | exact isSc5 | decide | omega) only [iX2_numberCovering_7, iX2_numberCovering_8, iX2_numberCovering_11, Nat.reduceAdd, Nat.reduceSub, Nat.reduceMul, Nat.reduceLeDiff, mm_rv_s, mm_rv_n, true_and, and_true, if_true, if_false, not_true_eq_false, not_false_eq_true, nI_add, nz_0, nz_lt0, nz_0le, nz_0lt, nz_le0, nz_lt, nz_le, nz_eq, nz_cl, nz_in, nz_sub, nz_m1, pk_mul, set_o, set_ne, up_ne, up_set, n1_1, true_or, or_true, n1_01, n0_01, bI_01, bI_01b, bI_0, isSc1, isSc3, isSc5, ln_2, ln_4, ln_6, ln_8, ln_10, ln_11, ln_12, ln_13, ln_14, ln_16, ln_17, ln_18, ln_19, ln_20, ln_21, ln_23, ln_24, ln_25, ln_27, ln_28, ln_29, c2, Nat.le_refl]
    | succ d ih =>
      intro k hk
      obtain ⟨b1, b2, b3, b4, b5, b6, b7, b8⟩ := okG_b hg (show k < n by omega)
      rw [← ih (k + 1) (by omega)]
      have e : latest g (k + 1) c t = if sC (g k) = c ∧ sB (g k) ≤ t then some k else latest g k c t := by
        unfold latest
        rw [lastF]
        by_cases hz : sC (g k) = c ∧ sB (g k) ≤ t <;> simp [hz]
      rw [e, iX2_numberCovering_5]
      simp (disch := first | assumption | exact isSc1 | exact isSc3 | exact isSc5 | decide | omega) only [iX2_numberCovering_7, iX2_numberCovering_8, iX2_numberCovering_11, iX2_numberCovering_14, iX2_numberCovering_15, iX2_numberCovering_18, iX2_numberCovering_20, iX2_numberCovering_21, Nat.reduceAdd, Nat.reduceSub, Nat.reduceMul, Nat.reduceLeDiff, mm_rv_s, mm_rv_n, true_and, and_true, if_true, if_false, not_true_eq_false, not_false_eq_true, nI_add, nz_0, nz_lt0, nz_0le, nz_0lt, nz_le0, nz_lt, nz_le, nz_eq, nz_cl, nz_in, nz_sub, nz_m1, pk_mul, set_o, set_ne, up_ne, up_set, n1_1, true_or, or_true, n1_01, n0_01, bI_01, bI_01b, bI_0, isSc1, isSc3, isSc5, ln_2, ln_4, ln_6, ln_8, ln_10, ln_11, ln_12, ln_13, ln_14, ln_16, ln_17, ln_18, ln_19, ln_20, ln_21, ln_23, ln_24, ln_25, ln_27, ln_28, ln_29, c2, hln, show ¬ n ≤ k by omega, c3 k (by omega), g_columnOf b1 b2]
      simp (disch := first | assumption | exact isSc1 | exact isSc3 | exact isSc5 | decide | omega) only [iX2_numberCovering_24, iX2_numberCovering_25, Nat.reduceAdd, Nat.reduceSub, Nat.reduceMul, Nat.reduceLeDiff, mm_rv_s, mm_rv_n, true_and, and_true, if_true, if_false, not_true_eq_false, not_false_eq_true, nI_add, nz_0, nz_lt0, nz_0le, nz_0lt, nz_le0, nz_lt, nz_le, nz_eq, nz_cl, nz_in, nz_sub, nz_m1, pk_mul, set_o, set_ne, up_ne, up_set, n1_1, true_or, or_true, n1_01, n0_01, bI_01, bI_01b, bI_0, isSc1, isSc3, isSc5, ln_2, ln_4, ln_6, ln_8, ln_10, ln_11, ln_12, ln_13, ln_14, ln_16, ln_17, ln_18, ln_19, ln_20, ln_21, ln_23, ln_24, ln_25, ln_27, ln_28, ln_29]
      by_cases hcc : sC (g k) = c
      · rw [if_neg (by simpa using hcc)]
        simp (disch := first | assumption | exact isSc1 | exact isSc3 | exact isSc5 | decide | omega) only [iX2_numberCovering_28, iX2_numberCovering_29, iX2_numberCovering_32, iX2_numberCovering_34, iX2_numberCovering_35, Nat.reduceAdd, Nat.reduceSub, Nat.reduceMul, Nat.reduceLeDiff, mm_rv_s, mm_rv_n, true_and, and_true, if_true, if_false, not_true_eq_false, not_false_eq_true, nI_add, nz_0, nz_lt0, nz_0le, nz_0lt, nz_le0, nz_lt, nz_le, nz_eq, nz_cl, nz_in, nz_sub, nz_m1, pk_mul, set_o, set_ne, up_ne, up_set, n1_1, true_or, or_true, n1_01, n0_01, bI_01, bI_01b, bI_0, isSc1, isSc3, isSc5, ln_2, ln_4, ln_6, ln_8, ln_10, ln_11, ln_12, ln_13, ln_14, ln_16, ln_17, ln_18, ln_19, ln_20, ln_21, ln_23, ln_24, ln_25, ln_27, ln_28, ln_29, hln, c3 k (by omega), g_beginOf b1 b2]
        simp (disch := first | assumption | exact isSc1 | exact isSc3 | exact isSc5 | decide | omega) only [iX2_numberCovering_38, iX2_numberCovering_39, Nat.reduceAdd, Nat.reduceSub, Nat.reduceMul, Nat.reduceLeDiff, mm_rv_s, mm_rv_n, true_and, and_true, if_true, if_false, not_true_eq_false, not_false_eq_true, nI_add, nz_0, nz_lt0, nz_0le, nz_0lt, nz_le0, nz_lt, nz_le, nz_eq, nz_cl, nz_in, nz_sub, nz_m1, pk_mul, set_o, set_ne, up_ne, up_set, n1_1, true_or, or_true, n1_01, n0_01, bI_01, bI_01b, bI_0, isSc1, isSc3, isSc5, ln_2, ln_4, ln_6, ln_8, ln_10, ln_11, ln_12, ln_13, ln_14, ln_16, ln_17, ln_18, ln_19, ln_20, ln_21, ln_23, ln_24, ln_25, ln_27, ln_28, ln_29]
        by_cases hbb : sB (g k) ≤ t
        · rw [if_neg (by omega), if_pos ⟨hcc, hbb⟩]
          simp (disch := first | assumption | exact isSc1 | exact isSc3 | exact isSc5 | decide | omega) only [iX2_numberCovering_42, iX2_numberCovering_44, iX2_numberCovering_45, iX2_numberCovering_48, Nat.reduceAdd, Nat.reduceSub, Nat.reduceMul, Nat.reduceLeDiff, mm_rv_s, mm_rv_n, true_and, and_true, if_true, if_false, not_true_eq_false, not_false_eq_true, nI_add, nz_0, nz_lt0, nz_0le, nz_0lt, nz_le0, nz_lt, nz_le, nz_eq, nz_cl, nz_in, nz_sub, nz_m1, pk_mul, set_o, set_ne, up_ne, up_set, n1_1, true_or, or_true, n1_01, n0_01, bI_01, bI_01b, bI_0, isSc1, isSc3, isSc5, ln_2, ln_4, ln_6, ln_8, ln_10, ln_11, ln_12, ln_13, ln_14, ln_16, ln_17, ln_18, ln_19, ln_20, ln_21, ln_23, ln_24, ln_25, ln_27, ln_28, ln_29]
          rfl
        · rw [if_pos (by omega), if_neg (fun z => hbb z.2)]
          simp (disch := first | assumption | exact isSc1 | exact isSc3 | exact isSc5 | decide | omega) only [iX2_numberCovering_45, iX2_numberCovering_48, Nat.reduceAdd, Nat.reduceSub, Nat.reduceMul, Nat.reduceLeDiff, mm_rv_s, mm_rv_n, true_and, and_true, if_true, if_false, not_true_eq_false, not_false_eq_true, nI_add, nz_0, nz_lt0, nz_0le, nz_0lt, nz_le0, nz_lt, nz_le, nz_eq, nz_cl, nz_in, nz_sub, nz_m1, pk_mul, set_o, set_ne, up_ne, up_set, n1_1, true_or, or_true, n1_01, n0_01, bI_01, bI_01b, bI_0, isSc1, isSc3, isSc5, ln_2, ln_4, ln_6, ln_8, ln_10, ln_11, ln_12, ln_13, ln_14, ln_16, ln_17, ln_18, ln_19, ln_20, ln_21, ln_23, ln_24, ln_25, ln_27, ln_28, ln_29]
      · rw [if_pos hcc, if_neg (fun z => hcc z.1)]
        simp (disch := first | assumption | exact isSc1 | exact isSc3 | exact isSc5 | decide | omega) only [iX2_numberCovering_45, iX2_numberCovering_48, Nat.reduceAdd, Nat.reduceSub, Nat.reduceMul, Nat.reduceLeDiff, mm_rv_s, mm_rv_n, true_and, and_true, if_true, if_false, not_true_eq_false, not_false_eq_true, nI_add, nz_0, nz_lt0, nz_0le, nz_0lt, nz_le0, nz_lt, nz_le, nz_eq, nz_cl, nz_in, nz_sub, nz_m1, pk_mul, set_o, set_ne, up_ne, up_set, n1_1, true_or, or_true, n1_01, n0_01, bI_01, bI_01b, bI_0, isSc1, isSc3, isSc5, ln_2, ln_4, ln_6, ln_8, ln_10, ln_11, ln_12, ln_13, ln_14, ln_16, ln_17, ln_18, ln_19, ln_20, ln_21, ln_23, ln_24, ln_25, ln_27, ln_28, ln_29]
  have e0 : (-1 : Int32) = oI (latest g 0 c t) := rfl
  rw [e0, loop n 0 (by omega)]
  unfold cv
  cases hl : latest g n c t with
  | none =>
    simp (disch := first | assumption | exact isSc1 | exact isSc3 | exact isSc5 | decide | omega) only [iX2_numberCovering_51, iX2_numberCovering_52, iX2_numberCovering_53, iX2_numberCovering_56, iX2_numberCovering_57, iX2_numberCovering_58, iX2_numberCovering_59, iX2_numberCovering_62, iX2_numberCovering_65, iX2_numberCovering_66, iX2_numberCovering_69, iX2_numberCovering_70, Nat.reduceAdd, Nat.reduceSub, Nat.reduceMul, Nat.reduceLeDiff, mm_rv_s, mm_rv_n, true_and, and_true, if_true, if_false, not_true_eq_false, not_false_eq_true, nI_add, nz_0, nz_lt0, nz_0le, nz_0lt, nz_le0, nz_lt, nz_le, nz_eq, nz_cl, nz_in, nz_sub, nz_m1, pk_mul, set_o, set_ne, up_ne, up_set, n1_1, true_or, or_true, n1_01, n0_01, bI_01, bI_01b, bI_0, isSc1, isSc3, isSc5, ln_2, ln_4, ln_6, ln_8, ln_10, ln_11, ln_12, ln_13, ln_14, ln_16, ln_17, ln_18, ln_19, ln_20, ln_21, ln_23, ln_24, ln_25, ln_27, ln_28, ln_29, oI]
  | some i =>
    obtain ⟨h1, h2, h3, h4⟩ := latest_some hl
    have he := end_iff hv ht hl
    have hle := endN_le hv h1
    simp (disch := first | assumption | exact isSc1 | exact isSc3 | exact isSc5 | decide | omega) only [iX2_numberCovering_51, iX2_numberCovering_52, iX2_numberCovering_53, iX2_numberCovering_56, iX2_numberCovering_57, iX2_numberCovering_58, iX2_numberCovering_59, Nat.reduceAdd, Nat.reduceSub, Nat.reduceMul, Nat.reduceLeDiff, mm_rv_s, mm_rv_n, true_and, and_true, if_true, if_false, not_true_eq_false, not_false_eq_true, nI_add, nz_0, nz_lt0, nz_0le, nz_0lt, nz_le0, nz_lt, nz_le, nz_eq, nz_cl, nz_in, nz_sub, nz_m1, pk_mul, set_o, set_ne, up_ne, up_set, n1_1, true_or, or_true, n1_01, n0_01, bI_01, bI_01b, bI_0, isSc1, isSc3, isSc5, ln_2, ln_4, ln_6, ln_8, ln_10, ln_11, ln_12, ln_13, ln_14, ln_16, ln_17, ln_18, ln_19, ln_20, ln_21, ln_23, ln_24, ln_25, ln_27, ln_28, ln_29, oI, nz_ne1, p_endOf h hC w3 hg w2 h1]
    simp (disch := first | assumption | exact isSc1 | exact isSc3 | exact isSc5 | decide | omega) only [iX2_numberCovering_62, iX2_numberCovering_65, iX2_numberCovering_66, iX2_numberCovering_69, iX2_numberCovering_70, Nat.reduceAdd, Nat.reduceSub, Nat.reduceMul, Nat.reduceLeDiff, mm_rv_s, mm_rv_n, true_and, and_true, if_true, if_false, not_true_eq_false, not_false_eq_true, nI_add, nz_0, nz_lt0, nz_0le, nz_0lt, nz_le0, nz_lt, nz_le, nz_eq, nz_cl, nz_in, nz_sub, nz_m1, pk_mul, set_o, set_ne, up_ne, up_set, n1_1, true_or, or_true, n1_01, n0_01, bI_01, bI_01b, bI_0, isSc1, isSc3, isSc5, ln_2, ln_4, ln_6, ln_8, ln_10, ln_11, ln_12, ln_13, ln_14, ln_16, ln_17, ln_18, ln_19, ln_20, ln_21, ln_23, ln_24, ln_25, ln_27, ln_28, ln_29]
    by_cases hc2 : t < eM B (g i)
    · have := he.mpr hc2
      rw [if_neg (by omega), if_pos hc2]
    · have : ¬ t < endN B n g i := fun z => hc2 (he.mp z)
      rw [if_pos (by omega), if_neg hc2]
theorem p_fillRow (h : isSc o) (hC : isC M o B L n g) (hv : Val B n g) {c r : Nat} (hc : c ≤ 6) (hr : mm_ln r = 48) (hr2 : r < 38) (hro : r ≠ o) (hro2 : r ≠ o + 1)
    (hQ : ∀ f, (∀ t, t < B → f t = oP g (cv B n g c t)) → Q none (mm_set M r f)) : wc 14 [.inr o, .inl (nI c), .inr r] M Q := by
  obtain ⟨c0, c1, c2, c3⟩ := id hC
  obtain ⟨w1, w2, w3, v1, v2, v3⟩ := id hv
  have hg := hv.okG
  have hlt := sc_lt h
  have hln := sc_ln h
  have f1 : 0 < mm_ln r := by rw [hr]; decide
  have f2 : mm_ln r < 2 ^ 31 := by rw [hr]; decide
  simp (disch := first | assumption | exact isSc1 | exact isSc3 | exact isSc5 | decide | omega) only [eX2_fillRow, iX2_fillRow_0, iX2_fillRow_1, iX2_fillRow_2, Nat.reduceAdd, Nat.reduceSub, Nat.reduceMul, Nat.reduceLeDiff, mm_rv_s, mm_rv_n, true_and, and_true, if_true, if_false, not_true_eq_false, not_false_eq_true, nI_add, nz_0, nz_lt0, nz_0le, nz_0lt, nz_le0, nz_lt, nz_le, nz_eq, nz_cl, nz_in, nz_sub, nz_m1, pk_mul, set_o, set_ne, up_ne, up_set, n1_1, true_or, or_true, n1_01, n0_01, bI_01, bI_01b, bI_0, isSc1, isSc3, isSc5, ln_2, ln_4, ln_6, ln_8, ln_10, ln_11, ln_12, ln_13, ln_14, ln_16, ln_17, ln_18, ln_19, ln_20, ln_21, ln_23, ln_24, ln_25, ln_27, ln_28, ln_29, p_fill f1 f2]
  simp (disch := first | assumption | exact isSc1 | exact isSc3 | exact isSc5 | decide | omega) only [iX2_fillRow_5, iX2_fillRow_6, Nat.reduceAdd, Nat.reduceSub, Nat.reduceMul, Nat.reduceLeDiff, mm_rv_s, mm_rv_n, true_and, and_true, if_true, if_false, not_true_eq_false, not_false_eq_true, nI_add, nz_0, nz_lt0, nz_0le, nz_0lt, nz_le0, nz_lt, nz_le, nz_eq, nz_cl, nz_in, nz_sub, nz_m1, pk_mul, set_o, set_ne, up_ne, up_set, n1_1, true_or, or_true, n1_01, n0_01, bI_01, bI_01b, bI_0, isSc1, isSc3, isSc5, ln_2, ln_4, ln_6, ln_8, ln_10, ln_11, ln_12, ln_13, ln_14, ln_16, ln_17, ln_18, ln_19, ln_20, ln_21, ln_23, ln_24, ln_25, ln_27, ln_28, ln_29]
  have h1 : o ≠ r := fun e => hro e.symm
  have h2 : o + 1 ≠ r := fun e => hro2 e.symm
  have h48 : (0 : Nat) < 48 := by decide
  have loop : ∀ d k : Nat, k + d = n → ∀ (f : Nat → Int32) (l4 l5 : Option mm_V), (∀ t, t < B → f t = oP g (lastF (fun i => decide (sC (g i) = c ∧ sB (g i) ≤ t ∧ t < endN B n g i)) k)) → wp 14 7 [some (.inr o), some (.inl (nI c)), some (.inr r), some (.inl (nI k)), l4, l5] [] (mm_set M r f) Q := by
    intro d
    induction d with
    | zero =>
      intro k hk f l4 l5 hf
      have hk : k = n := by omega
      subst hk
      rw [iX2_fillRow_7]
      simp (disch := first | assumption | exact isSc1 | exact isSc3 | exact isSc5 | decide | omega) only [iX2_fillRow_8, iX2_fillRow_9, iX2_fillRow_12, iX2_fillRow_80, Nat.reduceAdd, Nat.reduceSub, Nat.reduceMul, Nat.reduceLeDiff, mm_rv_s, mm_rv_n, true_and, and_true, if_true, if_false, not_true_eq_false, not_false_eq_true, nI_add, nz_0, nz_lt0, nz_0le, nz_0lt, nz_le0, nz_lt, nz_le, nz_eq, nz_cl, nz_in, nz_sub, nz_m1, pk_mul, set_o, set_ne, up_ne, up_set, n1_1, true_or, or_true, n1_01, n0_01, bI_01, bI_01b, bI_0, isSc1, isSc3, isSc5, ln_2, ln_4, ln_6, ln_8, ln_10, ln_11, ln_12, ln_13, ln_14, ln_16, ln_17, ln_18, ln_19, ln_20, ln_21, ln_23, ln_24, ln_25, ln_27, ln_28, ln_29, c2, Nat.le_refl]
      refine hQ f (fun t ht => ?_)
      rw [hf t ht, cv_end hv ht]
    | succ d ih =>
      intro k hk f l4 l5 hf
      obtain ⟨b1, b2, b3, b4, b5, b6, b7, b8⟩ := okG_b hg (show k < n by omega)
      have hC1 : isC (mm_set M r f) o B L n g := by
        refine ⟨?_, ?_, ?_, fun i hi => ?_⟩
        · rw [set_ne _ _ h1, c0]
        · rw [set_ne _ _ h1, c1]
        · rw [set_ne _ _ h1, c2]
        · rw [set_ne _ _ h2, c3 i hi]
      have hle := endN_le hv (show k < n by omega)
      rw [iX2_fillRow_7]
      simp (disch := first | assumption | exact isSc1 | exact isSc3 | exact isSc5 | decide | omega) only [iX2_fillRow_8, iX2_fillRow_9, iX2_fillRow_12, iX2_fillRow_15, iX2_fillRow_16, iX2_fillRow_19, iX2_fillRow_20, iX2_fillRow_21, Nat.reduceAdd, Nat.reduceSub, Nat.reduceMul, Nat.reduceLeDiff, mm_rv_s, mm_rv_n, true_and, and_true, if_true, if_false, not_true_eq_false, not_false_eq_true, nI_add, nz_0, nz_lt0, nz_0le, nz_0lt, nz_le0, nz_lt, nz_le, nz_eq, nz_cl, nz_in, nz_sub, nz_m1, pk_mul, set_o, set_ne, up_ne, up_set, n1_1, true_or, or_true, n1_01, n0_01, bI_01, bI_01b, bI_0, isSc1, isSc3, isSc5, ln_2, ln_4, ln_6, ln_8, ln_10, ln_11, ln_12, ln_13, ln_14, ln_16, ln_17, ln_18, ln_19, ln_20, ln_21, ln_23, ln_24, ln_25, ln_27, ln_28, ln_29, c2, hln, show ¬ n ≤ k by omega, c3 k (by omega), g_columnOf b1 b2]
      simp (disch := first | assumption | exact isSc1 | exact isSc3 | exact isSc5 | decide | omega) only [iX2_fillRow_24, iX2_fillRow_25, Nat.reduceAdd, Nat.reduceSub, Nat.reduceMul, Nat.reduceLeDiff, mm_rv_s, mm_rv_n, true_and, and_true, if_true, if_false, not_true_eq_false, not_false_eq_true, nI_add, nz_0, nz_lt0, nz_0le, nz_0lt, nz_le0, nz_lt, nz_le, nz_eq, nz_cl, nz_in, nz_sub, nz_m1, pk_mul, set_o, set_ne, up_ne, up_set, n1_1, true_or, or_true, n1_01, n0_01, bI_01, bI_01b, bI_0, isSc1, isSc3, isSc5, ln_2, ln_4, ln_6, ln_8, ln_10, ln_11, ln_12, ln_13, ln_14, ln_16, ln_17, ln_18, ln_19, ln_20, ln_21, ln_23, ln_24, ln_25, ln_27, ln_28, ln_29]
      by_cases hcc : sC (g k) = c
      · rw [if_neg (by simpa using hcc)]
        simp (disch := first | assumption | exact isSc1 | exact isSc3 | exact isSc5 | decide | omega) only [iX2_fillRow_28, iX2_fillRow_29, iX2_fillRow_30, Nat.reduceAdd, Nat.reduceSub, Nat.reduceMul, Nat.reduceLeDiff, mm_rv_s, mm_rv_n, true_and, and_true, if_true, if_false, not_true_eq_false, not_false_eq_true, nI_add, nz_0, nz_lt0, nz_0le, nz_0lt, nz_le0, nz_lt, nz_le, nz_eq, nz_cl, nz_in, nz_sub, nz_m1, pk_mul, set_o, set_ne, up_ne, up_set, n1_1, true_or, or_true, n1_01, n0_01, bI_01, bI_01b, bI_0, isSc1, isSc3, isSc5, ln_2, ln_4, ln_6, ln_8, ln_10, ln_11, ln_12, ln_13, ln_14, ln_16, ln_17, ln_18, ln_19, ln_20, ln_21, ln_23, ln_24, ln_25, ln_27, ln_28, ln_29, p_endOf h hC1 w3 hg w2 (show k < n by omega)]
        simp (disch := first | assumption | exact isSc1 | exact isSc3 | exact isSc5 | decide | omega) only [iX2_fillRow_33, iX2_fillRow_34, iX2_fillRow_35, Nat.reduceAdd, Nat.reduceSub, Nat.reduceMul, Nat.reduceLeDiff, mm_rv_s, mm_rv_n, true_and, and_true, if_true, if_false, not_true_eq_false, not_false_eq_true, nI_add, nz_0, nz_lt0, nz_0le, nz_0lt, nz_le0, nz_lt, nz_le, nz_eq, nz_cl, nz_in, nz_sub, nz_m1, pk_mul, set_o, set_ne, up_ne, up_set, n1_1, true_or, or_true, n1_01, n0_01, bI_01, bI_01b, bI_0, isSc1, isSc3, isSc5, ln_2, ln_4, ln_6, ln_8, ln_10, ln_11, ln_12, ln_13, ln_14, ln_16, ln_17, ln_18, ln_19, ln_20, ln_21, ln_23, ln_24, ln_25, ln_27, ln_28, ln_29, hr, p_min, show ¬ 48 < endN B n g k by omega]
        simp (disch := first | assumption | exact isSc1 | exact isSc3 | exact isSc5 | decide | omega) only [iX2_fillRow_38, iX2_fillRow_40, iX2_fillRow_41, iX2_fillRow_44, iX2_fillRow_45, iX2_fillRow_46, Nat.reduceAdd, Nat.reduceSub, Nat.reduceMul, Nat.reduceLeDiff, mm_rv_s, mm_rv_n, true_and, and_true, if_true, if_false, not_true_eq_false, not_false_eq_true, nI_add, nz_0, nz_lt0, nz_0le, nz_0lt, nz_le0, nz_lt, nz_le, nz_eq, nz_cl, nz_in, nz_sub, nz_m1, pk_mul, set_o, set_ne, up_ne, up_set, n1_1, true_or, or_true, n1_01, n0_01, bI_01, bI_01b, bI_0, isSc1, isSc3, isSc5, ln_2, ln_4, ln_6, ln_8, ln_10, ln_11, ln_12, ln_13, ln_14, ln_16, ln_17, ln_18, ln_19, ln_20, ln_21, ln_23, ln_24, ln_25, ln_27, ln_28, ln_29, hln, c3 k (by omega), g_beginOf b1 b2]
        simp (disch := first | assumption | exact isSc1 | exact isSc3 | exact isSc5 | decide | omega) only [iX2_fillRow_49, Nat.reduceAdd, Nat.reduceSub, Nat.reduceMul, Nat.reduceLeDiff, mm_rv_s, mm_rv_n, true_and, and_true, if_true, if_false, not_true_eq_false, not_false_eq_true, nI_add, nz_0, nz_lt0, nz_0le, nz_0lt, nz_le0, nz_lt, nz_le, nz_eq, nz_cl, nz_in, nz_sub, nz_m1, pk_mul, set_o, set_ne, up_ne, up_set, n1_1, true_or, or_true, n1_01, n0_01, bI_01, bI_01b, bI_0, isSc1, isSc3, isSc5, ln_2, ln_4, ln_6, ln_8, ln_10, ln_11, ln_12, ln_13, ln_14, ln_16, ln_17, ln_18, ln_19, ln_20, ln_21, ln_23, ln_24, ln_25, ln_27, ln_28, ln_29]
        have inner : ∀ e t0 : Nat, t0 + e = max (sB (g k)) (endN B n g k) → sB (g k) ≤ t0 → ∀ f' : Nat → Int32, (∀ t, t < B → f' t = if sB (g k) ≤ t ∧ t < t0 then nI (pk (g k)) else f t) →
            wp 14 51 [some (.inr o), some (.inl (nI c)), some (.inr r), some (.inl (nI k)), some (.inl (nI (endN B n g k))), some (.inl (nI t0))] [] (mm_set M r f') Q := by
          intro e
          induction e with
          | zero =>
            intro t0 ht0 hst f' hf'
            rw [iX2_fillRow_51]
            simp (disch := first | assumption | exact isSc1 | exact isSc3 | exact isSc5 | decide | omega) only [iX2_fillRow_53, iX2_fillRow_55, iX2_fillRow_74, iX2_fillRow_77, Nat.reduceAdd, Nat.reduceSub, Nat.reduceMul, Nat.reduceLeDiff, mm_rv_s, mm_rv_n, true_and, and_true, if_true, if_false, not_true_eq_false, not_false_eq_true, nI_add, nz_0, nz_lt0, nz_0le, nz_0lt, nz_le0, nz_lt, nz_le, nz_eq, nz_cl, nz_in, nz_sub, nz_m1, pk_mul, set_o, set_ne, up_ne, up_set, n1_1, true_or, or_true, n1_01, n0_01, bI_01, bI_01b, bI_0, isSc1, isSc3, isSc5, ln_2, ln_4, ln_6, ln_8, ln_10, ln_11, ln_12, ln_13, ln_14, ln_16, ln_17, ln_18, ln_19, ln_20, ln_21, ln_23, ln_24, ln_25, ln_27, ln_28, ln_29, show endN B n g k ≤ t0 by omega]
            refine ih (k + 1) (by omega) f' _ _ (fun t ht => ?_)
            rw [hf' t ht, lastF]
            by_cases hz : sB (g k) ≤ t ∧ t < endN B n g k
            · rw [if_pos (by omega), if_pos (by simp only [decide_eq_true_eq]; exact ⟨hcc, hz.1, hz.2⟩)]
              rfl
            · rw [if_neg (by omega), if_neg (by simp only [decide_eq_true_eq]; exact fun y => hz ⟨y.2.1, y.2.2⟩)]
              exact hf t ht
          | succ e ihe =>
            intro t0 ht0 hst f' hf'
            rw [iX2_fillRow_51]
            simp (disch := first | assumption | exact isSc1 | exact isSc3 | exact isSc5 | decide | omega) only [iX2_fillRow_53, iX2_fillRow_55, iX2_fillRow_58, iX2_fillRow_59, iX2_fillRow_61, iX2_fillRow_62, iX2_fillRow_65, iX2_fillRow_66, iX2_fillRow_67, iX2_fillRow_68, iX2_fillRow_71, Nat.reduceAdd, Nat.reduceSub, Nat.reduceMul, Nat.reduceLeDiff, mm_rv_s, mm_rv_n, true_and, and_true, if_true, if_false, not_true_eq_false, not_false_eq_true, nI_add, nz_0, nz_lt0, nz_0le, nz_0lt, nz_le0, nz_lt, nz_le, nz_eq, nz_cl, nz_in, nz_sub, nz_m1, pk_mul, set_o, set_ne, up_ne, up_set, n1_1, true_or, or_true, n1_01, n0_01, bI_01, bI_01b, bI_0, isSc1, isSc3, isSc5, ln_2, ln_4, ln_6, ln_8, ln_10, ln_11, ln_12, ln_13, ln_14, ln_16, ln_17, ln_18, ln_19, ln_20, ln_21, ln_23, ln_24, ln_25, ln_27, ln_28, ln_29, hr, hln, show ¬ endN B n g k ≤ t0 by omega, c3 k (by omega)]
            refine ihe (t0 + 1) (by omega) (by omega) _ (fun t ht => ?_)
            by_cases hz : t = t0
            · subst hz
              rw [us, if_pos (by omega)]
            · rw [un _ _ _ _ hz, hf' t ht]
              by_cases hz2 : sB (g k) ≤ t ∧ t < t0
              · rw [if_pos hz2, if_pos (by omega)]
              · rw [if_neg hz2, if_neg (by omega)]
        exact inner (max (sB (g k)) (endN B n g k) - sB (g k)) (sB (g k)) (by omega) (Nat.le_refl _) f (fun t ht => by rw [if_neg (by omega)])
      · rw [if_pos hcc]
        simp (disch := first | assumption | exact isSc1 | exact isSc3 | exact isSc5 | decide | omega) only [iX2_fillRow_74, iX2_fillRow_77, Nat.reduceAdd, Nat.reduceSub, Nat.reduceMul, Nat.reduceLeDiff, mm_rv_s, mm_rv_n, true_and, and_true, if_true, if_false, not_true_eq_false, not_false_eq_true, nI_add, nz_0, nz_lt0, nz_0le, nz_0lt, nz_le0, nz_lt, nz_le, nz_eq, nz_cl, nz_in, nz_sub, nz_m1, pk_mul, set_o, set_ne, up_ne, up_set, n1_1, true_or, or_true, n1_01, n0_01, bI_01, bI_01b, bI_0, isSc1, isSc3, isSc5, ln_2, ln_4, ln_6, ln_8, ln_10, ln_11, ln_12, ln_13, ln_14, ln_16, ln_17, ln_18, ln_19, ln_20, ln_21, ln_23, ln_24, ln_25, ln_27, ln_28, ln_29]
        refine ih (k + 1) (by omega) f _ _ (fun t ht => ?_)
        rw [hf t ht, lastF, if_neg (by simp only [decide_eq_true_eq]; exact fun z => hcc z.1)]
  refine loop n 0 (by omega) _ _ _ (fun t ht => ?_)
  unfold fillA
  rw [if_pos (by rw [hr]; omega)]
  rfl
theorem p_hasRoomFor (h : isSc o) (hC : isC M o B L n g) (hn : n ≤ 120) (hg : okG n g) (hB : B ≤ 48) {s : Sg} (hs : okS s) (hsb : sB s ≤ 94)
    (h1 : sB s + sS s ≤ B → roomS B n g (sC s) (sB s) (sS s) → Q (some (nI 1)) M) (h2 : ¬ (sB s + sS s ≤ B ∧ roomS B n g (sC s) (sB s) (sS s)) → Q (some (nI 0)) M) : wc 9 [.inr o, .inl (nI (pk s))] M Q := by
  obtain ⟨c0, c1, c2, c3⟩ := id hC
  have hlt := sc_lt h
  have hln := sc_ln h
  have hsb2 : sB s < 128 := by omega
  have hss := okS_b hs
  simp (disch := first | assumption | exact isSc1 | exact isSc3 | exact isSc5 | decide | omega) only [eX2_hasRoomFor, iX2_hasRoomFor_0, iX2_hasRoomFor_1, Nat.reduceAdd, Nat.reduceSub, Nat.reduceMul, Nat.reduceLeDiff, mm_rv_s, mm_rv_n, true_and, and_true, if_true, if_false, not_true_eq_false, not_false_eq_true, nI_add, nz_0, nz_lt0, nz_0le, nz_0lt, nz_le0, nz_lt, nz_le, nz_eq, nz_cl, nz_in, nz_sub, nz_m1, pk_mul, set_o, set_ne, up_ne, up_set, n1_1, true_or, or_true, n1_01, n0_01, bI_01, bI_01b, bI_0, isSc1, isSc3, isSc5, ln_2, ln_4, ln_6, ln_8, ln_10, ln_11, ln_12, ln_13, ln_14, ln_16, ln_17, ln_18, ln_19, ln_20, ln_21, ln_23, ln_24, ln_25, ln_27, ln_28, ln_29, g_beginOf hs hsb2]
  simp (disch := first | assumption | exact isSc1 | exact isSc3 | exact isSc5 | decide | omega) only [iX2_hasRoomFor_4, iX2_hasRoomFor_5, iX2_hasRoomFor_6, Nat.reduceAdd, Nat.reduceSub, Nat.reduceMul, Nat.reduceLeDiff, mm_rv_s, mm_rv_n, true_and, and_true, if_true, if_false, not_true_eq_false, not_false_eq_true, nI_add, nz_0, nz_lt0, nz_0le, nz_0lt, nz_le0, nz_lt, nz_le, nz_eq, nz_cl, nz_in, nz_sub, nz_m1, pk_mul, set_o, set_ne, up_ne, up_set, n1_1, true_or, or_true, n1_01, n0_01, bI_01, bI_01b, bI_0, isSc1, isSc3, isSc5, ln_2, ln_4, ln_6, ln_8, ln_10, ln_11, ln_12, ln_13, ln_14, ln_16, ln_17, ln_18, ln_19, ln_20, ln_21, ln_23, ln_24, ln_25, ln_27, ln_28, ln_29, g_shortEndOf hs hsb2]
  simp (disch := first | assumption | exact isSc1 | exact isSc3 | exact isSc5 | decide | omega) only [iX2_hasRoomFor_9, iX2_hasRoomFor_10, iX2_hasRoomFor_11, iX2_hasRoomFor_12, iX2_hasRoomFor_15, iX2_hasRoomFor_18, iX2_hasRoomFor_19, iX2_hasRoomFor_20, iX2_hasRoomFor_21, Nat.reduceAdd, Nat.reduceSub, Nat.reduceMul, Nat.reduceLeDiff, mm_rv_s, mm_rv_n, true_and, and_true, if_true, if_false, not_true_eq_false, not_false_eq_true, nI_add, nz_0, nz_lt0, nz_0le, nz_0lt, nz_le0, nz_lt, nz_le, nz_eq, nz_cl, nz_in, nz_sub, nz_m1, pk_mul, set_o, set_ne, up_ne, up_set, n1_1, true_or, or_true, n1_01, n0_01, bI_01, bI_01b, bI_0, isSc1, isSc3, isSc5, ln_2, ln_4, ln_6, ln_8, ln_10, ln_11, ln_12, ln_13, ln_14, ln_16, ln_17, ln_18, ln_19, ln_20, ln_21, ln_23, ln_24, ln_25, ln_27, ln_28, ln_29, c0]
  by_cases hend : sB s + sS s ≤ B
  · rw [if_pos hend]
    have loop : ∀ d k : Nat, k + d = n → (∀ i, i < k → ¬ (sC (g i) = sC s ∧ sB (g i) < sB s + sS s ∧ sB s < sB (g i) + sS (g i))) → ∀ l5 : Option mm_V, wp 9 23 [some (.inr o), some (.inl (nI (pk s))), some (.inl (nI (sB s))), some (.inl (nI (sB s + sS s))), some (.inl (nI k)), l5] [] M Q := by
      intro d
      induction d with
      | zero =>
        intro k hk hno l5
        have hk : k = n := by omega
        subst hk
        rw [iX2_hasRoomFor_23]
        simp (disch := first | assumption | exact isSc1 | exact isSc3 | exact isSc5 | decide | omega) only [iX2_hasRoomFor_25, iX2_hasRoomFor_26, iX2_hasRoomFor_29, iX2_hasRoomFor_79, iX2_hasRoomFor_80, Nat.reduceAdd, Nat.reduceSub, Nat.reduceMul, Nat.reduceLeDiff, mm_rv_s, mm_rv_n, true_and, and_true, if_true, if_false, not_true_eq_false, not_false_eq_true, nI_add, nz_0, nz_lt0, nz_0le, nz_0lt, nz_le0, nz_lt, nz_le, nz_eq, nz_cl, nz_in, nz_sub, nz_m1, pk_mul, set_o, set_ne, up_ne, up_set, n1_1, true_or, or_true, n1_01, n0_01, bI_01, bI_01b, bI_0, isSc1, isSc3, isSc5, ln_2, ln_4, ln_6, ln_8, ln_10, ln_11, ln_12, ln_13, ln_14, ln_16, ln_17, ln_18, ln_19, ln_20, ln_21, ln_23, ln_24, ln_25, ln_27, ln_28, ln_29, c2, Nat.le_refl]
        exact h1 hend hno
      | succ d ih =>
        intro k hk hno l5
        obtain ⟨b1, b2, b3, b4, b5, b6, b7, b8⟩ := okG_b hg (show k < n by omega)
        rw [iX2_hasRoomFor_23]
        simp (disch := first | assumption | exact isSc1 | exact isSc3 | exact isSc5 | decide | omega) only [iX2_hasRoomFor_25, iX2_hasRoomFor_26, iX2_hasRoomFor_29, iX2_hasRoomFor_32, iX2_hasRoomFor_33, iX2_hasRoomFor_36, iX2_hasRoomFor_38, iX2_hasRoomFor_39, iX2_hasRoomFor_41, iX2_hasRoomFor_43, Nat.reduceAdd, Nat.reduceSub, Nat.reduceMul, Nat.reduceLeDiff, mm_rv_s, mm_rv_n, true_and, and_true, if_true, if_false, not_true_eq_false, not_false_eq_true, nI_add, nz_0, nz_lt0, nz_0le, nz_0lt, nz_le0, nz_lt, nz_le, nz_eq, nz_cl, nz_in, nz_sub, nz_m1, pk_mul, set_o, set_ne, up_ne, up_set, n1_1, true_or, or_true, n1_01, n0_01, bI_01, bI_01b, bI_0, isSc1, isSc3, isSc5, ln_2, ln_4, ln_6, ln_8, ln_10, ln_11, ln_12, ln_13, ln_14, ln_16, ln_17, ln_18, ln_19, ln_20, ln_21, ln_23, ln_24, ln_25, ln_27, ln_28, ln_29, c2, hln, show ¬ n ≤ k by omega, c3 k (by omega), g_columnOf b1 b2]
        simp (disch := first | assumption | exact isSc1 | exact isSc3 | exact isSc5 | decide | omega) only [iX2_hasRoomFor_46, iX2_hasRoomFor_47, Nat.reduceAdd, Nat.reduceSub, Nat.reduceMul, Nat.reduceLeDiff, mm_rv_s, mm_rv_n, true_and, and_true, if_true, if_false, not_true_eq_false, not_false_eq_true, nI_add, nz_0, nz_lt0, nz_0le, nz_0lt, nz_le0, nz_lt, nz_le, nz_eq, nz_cl, nz_in, nz_sub, nz_m1, pk_mul, set_o, set_ne, up_ne, up_set, n1_1, true_or, or_true, n1_01, n0_01, bI_01, bI_01b, bI_0, isSc1, isSc3, isSc5, ln_2, ln_4, ln_6, ln_8, ln_10, ln_11, ln_12, ln_13, ln_14, ln_16, ln_17, ln_18, ln_19, ln_20, ln_21, ln_23, ln_24, ln_25, ln_27, ln_28, ln_29, g_columnOf hs hsb2]
        simp (disch := first | assumption | exact isSc1 | exact isSc3 | exact isSc5 | decide | omega) only [iX2_hasRoomFor_50, Nat.reduceAdd, Nat.reduceSub, Nat.reduceMul, Nat.reduceLeDiff, mm_rv_s, mm_rv_n, true_and, and_true, if_true, if_false, not_true_eq_false, not_false_eq_true, nI_add, nz_0, nz_lt0, nz_0le, nz_0lt, nz_le0, nz_lt, nz_le, nz_eq, nz_cl, nz_in, nz_sub, nz_m1, pk_mul, set_o, set_ne, up_ne, up_set, n1_1, true_or, or_true, n1_01, n0_01, bI_01, bI_01b, bI_0, isSc1, isSc3, isSc5, ln_2, ln_4, ln_6, ln_8, ln_10, ln_11, ln_12, ln_13, ln_14, ln_16, ln_17, ln_18, ln_19, ln_20, ln_21, ln_23, ln_24, ln_25, ln_27, ln_28, ln_29]
        have next : ¬ (sC (g k) = sC s ∧ sB (g k) < sB s + sS s ∧ sB s < sB (g k) + sS (g k)) → wp 9 73 [some (.inr o), some (.inl (nI (pk s))), some (.inl (nI (sB s))), some (.inl (nI (sB s + sS s))), some (.inl (nI k)), some (.inl (nI (pk (g k))))] [] M Q := by
          intro hk2
          simp (disch := first | assumption | exact isSc1 | exact isSc3 | exact isSc5 | decide | omega) only [iX2_hasRoomFor_73, iX2_hasRoomFor_76, Nat.reduceAdd, Nat.reduceSub, Nat.reduceMul, Nat.reduceLeDiff, mm_rv_s, mm_rv_n, true_and, and_true, if_true, if_false, not_true_eq_false, not_false_eq_true, nI_add, nz_0, nz_lt0, nz_0le, nz_0lt, nz_le0, nz_lt, nz_le, nz_eq, nz_cl, nz_in, nz_sub, nz_m1, pk_mul, set_o, set_ne, up_ne, up_set, n1_1, true_or, or_true, n1_01, n0_01, bI_01, bI_01b, bI_0, isSc1, isSc3, isSc5, ln_2, ln_4, ln_6, ln_8, ln_10, ln_11, ln_12, ln_13, ln_14, ln_16, ln_17, ln_18, ln_19, ln_20, ln_21, ln_23, ln_24, ln_25, ln_27, ln_28, ln_29]
          refine ih (k + 1) (by omega) (fun i hi => ?_) _
          by_cases hik : i = k
          · subst hik; exact hk2
          · exact hno i (by omega)
        by_cases hcc : sC (g k) = sC s
        · rw [if_neg (by simpa using hcc)]
          simp (disch := first | assumption | exact isSc1 | exact isSc3 | exact isSc5 | decide | omega) only [iX2_hasRoomFor_53, iX2_hasRoomFor_55, Nat.reduceAdd, Nat.reduceSub, Nat.reduceMul, Nat.reduceLeDiff, mm_rv_s, mm_rv_n, true_and, and_true, if_true, if_false, not_true_eq_false, not_false_eq_true, nI_add, nz_0, nz_lt0, nz_0le, nz_0lt, nz_le0, nz_lt, nz_le, nz_eq, nz_cl, nz_in, nz_sub, nz_m1, pk_mul, set_o, set_ne, up_ne, up_set, n1_1, true_or, or_true, n1_01, n0_01, bI_01, bI_01b, bI_0, isSc1, isSc3, isSc5, ln_2, ln_4, ln_6, ln_8, ln_10, ln_11, ln_12, ln_13, ln_14, ln_16, ln_17, ln_18, ln_19, ln_20, ln_21, ln_23, ln_24, ln_25, ln_27, ln_28, ln_29, g_beginOf b1 b2]
          simp (disch := first | assumption | exact isSc1 | exact isSc3 | exact isSc5 | decide | omega) only [iX2_hasRoomFor_58, iX2_hasRoomFor_59, Nat.reduceAdd, Nat.reduceSub, Nat.reduceMul, Nat.reduceLeDiff, mm_rv_s, mm_rv_n, true_and, and_true, if_true, if_false, not_true_eq_false, not_false_eq_true, nI_add, nz_0, nz_lt0, nz_0le, nz_0lt, nz_le0, nz_lt, nz_le, nz_eq, nz_cl, nz_in, nz_sub, nz_m1, pk_mul, set_o, set_ne, up_ne, up_set, n1_1, true_or, or_true, n1_01, n0_01, bI_01, bI_01b, bI_0, isSc1, isSc3, isSc5, ln_2, ln_4, ln_6, ln_8, ln_10, ln_11, ln_12, ln_13, ln_14, ln_16, ln_17, ln_18, ln_19, ln_20, ln_21, ln_23, ln_24, ln_25, ln_27, ln_28, ln_29]
          by_cases hx : sB (g k) < sB s + sS s
          · rw [if_neg (by omega)]
            simp (disch := first | assumption | exact isSc1 | exact isSc3 | exact isSc5 | decide | omega) only [iX2_hasRoomFor_62, iX2_hasRoomFor_63, iX2_hasRoomFor_65, Nat.reduceAdd, Nat.reduceSub, Nat.reduceMul, Nat.reduceLeDiff, mm_rv_s, mm_rv_n, true_and, and_true, if_true, if_false, not_true_eq_false, not_false_eq_true, nI_add, nz_0, nz_lt0, nz_0le, nz_0lt, nz_le0, nz_lt, nz_le, nz_eq, nz_cl, nz_in, nz_sub, nz_m1, pk_mul, set_o, set_ne, up_ne, up_set, n1_1, true_or, or_true, n1_01, n0_01, bI_01, bI_01b, bI_0, isSc1, isSc3, isSc5, ln_2, ln_4, ln_6, ln_8, ln_10, ln_11, ln_12, ln_13, ln_14, ln_16, ln_17, ln_18, ln_19, ln_20, ln_21, ln_23, ln_24, ln_25, ln_27, ln_28, ln_29, g_shortEndOf b1 b2]
            simp (disch := first | assumption | exact isSc1 | exact isSc3 | exact isSc5 | decide | omega) only [iX2_hasRoomFor_68, Nat.reduceAdd, Nat.reduceSub, Nat.reduceMul, Nat.reduceLeDiff, mm_rv_s, mm_rv_n, true_and, and_true, if_true, if_false, not_true_eq_false, not_false_eq_true, nI_add, nz_0, nz_lt0, nz_0le, nz_0lt, nz_le0, nz_lt, nz_le, nz_eq, nz_cl, nz_in, nz_sub, nz_m1, pk_mul, set_o, set_ne, up_ne, up_set, n1_1, true_or, or_true, n1_01, n0_01, bI_01, bI_01b, bI_0, isSc1, isSc3, isSc5, ln_2, ln_4, ln_6, ln_8, ln_10, ln_11, ln_12, ln_13, ln_14, ln_16, ln_17, ln_18, ln_19, ln_20, ln_21, ln_23, ln_24, ln_25, ln_27, ln_28, ln_29]
            by_cases hy : sB s < sB (g k) + sS (g k)
            · rw [if_neg (by omega)]
              simp (disch := first | assumption | exact isSc1 | exact isSc3 | exact isSc5 | decide | omega) only [iX2_hasRoomFor_71, iX2_hasRoomFor_72, Nat.reduceAdd, Nat.reduceSub, Nat.reduceMul, Nat.reduceLeDiff, mm_rv_s, mm_rv_n, true_and, and_true, if_true, if_false, not_true_eq_false, not_false_eq_true, nI_add, nz_0, nz_lt0, nz_0le, nz_0lt, nz_le0, nz_lt, nz_le, nz_eq, nz_cl, nz_in, nz_sub, nz_m1, pk_mul, set_o, set_ne, up_ne, up_set, n1_1, true_or, or_true, n1_01, n0_01, bI_01, bI_01b, bI_0, isSc1, isSc3, isSc5, ln_2, ln_4, ln_6, ln_8, ln_10, ln_11, ln_12, ln_13, ln_14, ln_16, ln_17, ln_18, ln_19, ln_20, ln_21, ln_23, ln_24, ln_25, ln_27, ln_28, ln_29]
              exact h2 (fun z => z.2 k (by omega) ⟨hcc, hx, hy⟩)
            · rw [if_pos (by omega)]
              exact next (fun z => hy z.2.2)
          · rw [if_pos (by omega)]
            exact next (fun z => hx z.2.1)
        · rw [if_pos hcc]
          exact next (fun z => hcc z.1)
    exact loop n 0 (by omega) (fun i hi => absurd hi (by omega)) _
  · rw [if_neg hend]
    exact h2 (fun z => hend z.1)
end CX

