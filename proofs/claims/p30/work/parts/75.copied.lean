/-! copied -/
theorem push_top {h : Nat} {H : Nat → St} {S : St} (hh : h ≤ 6) : ∃ k, pushN h = k + 1 ∧ pushH h H S k = S ∧ (3 ≤ h → 3 ≤ k) := by
  unfold pushN pushH
  by_cases h6 : h = 6
  · exact ⟨5, by rw [if_pos h6], by rw [if_pos h6, if_neg (by omega)], fun _ => by omega⟩
  · exact ⟨h, by rw [if_neg h6], by rw [if_neg h6, if_neg (by omega)], fun z => z⟩
def dn1 (j : Nat) : Int32 := if j = 0 then -1 else nI (j - 1)
theorem dn1_0 : dn1 0 = -1 := rfl
theorem dn1_s (j : Nat) : dn1 (j + 1) = nI j := by unfold dn1; rw [if_neg (by omega), Nat.add_sub_cancel]
theorem dn1_d (j : Nat) : nI j + (-1) = dn1 j := by
  cases j with
  | zero => rfl
  | succ j => rw [dn1_s, sb_m1 (by omega), Nat.add_sub_cancel]
theorem dn1_m (j : Nat) : nI j - nI 1 = dn1 j := by
  cases j with
  | zero => decide
  | succ j => rw [dn1_s, nz_sub _ _ (by omega), Nat.add_sub_cancel]
theorem m1_lt : ((-1 : Int32) < 0) = True := by simp
section CPD
variable {M : mm_M} {Q : mm_Q} {X V : Nat → Int32} {B L n h t : Nat} {g : Nat → Sg} {H : Nat → St} {c : Nat → Nat}
/-- what is not beyond lies in the half -/
theorem not_beyond (hv : Val B n g) {i hf : Nat} (hi : i < n) (h1 : sB (g i) < hf) (h2 : sK (g i) = 1 ∨ endN B n g i ≤ hf) : inPh 0 hf (g i) := by
  refine ⟨Nat.zero_le _, ?_⟩
  unfold seN
  by_cases hk : sK (g i) = 1
  · have : sS (g i) = 1 := by unfold sS; rw [if_pos hk]
    omega
  · have e : sS (g i) = sN (g i) := sS_N hk
    rcases h2 with h2 | h2
    · exact absurd h2 hk
    · unfold endN at h2
      rw [if_neg hk] at h2
      omega
/-- what is beyond the half is taken out, from the last sign to the first -/
theorem cp_clear {fr hf : Nat} (hhf : hf ≤ 24) (hQ : ∀ M' n' g' h' H', Ste M' X V B L n' g' h' H' t c → 3 ≤ h' → inHalf hf n' g' → ∀ l5, wp 102 84 [some (.inr 0), some (.inr 42), some (.inl (nI fr)), some (.inl (nI hf)), some (.inl (-1)), l5, none, none, none, none, none, none, none, none] [] M' Q) :
    ∀ j M n g h H, Ste M X V B L n g h H t c → 3 ≤ h → j ≤ n → (∀ i, j ≤ i → i < n → inPh 0 hf (g i)) → ∀ l5, wp 102 17 [some (.inr 0), some (.inr 42), some (.inl (nI fr)), some (.inl (nI hf)), some (.inl (dn1 j)), l5, none, none, none, none, none, none, none, none] [] M Q := by
  intro j
  induction j with
  | zero =>
    intro M n g h H s h3 hj hin l5
    rw [iL_copied_17, dn1_0]
    simp (disch := first | assumption | exact isSc1 | exact isSc3 | exact isSc5 | decide | omega) only [iL_copied_19, Nat.reduceAdd, Nat.reduceSub, Nat.reduceMul, Nat.reduceLeDiff, mm_rv_s, mm_rv_n, true_and, and_true, if_true, if_false, not_true_eq_false, not_false_eq_true, nI_add, nz_0, nz_lt0, nz_0le, nz_0lt, nz_le0, nz_lt, nz_le, nz_eq, nz_cl, nz_in, nz_sub, nz_m1, pk_mul, set_o, set_ne, up_ne, up_set, n1_1, true_or, or_true, n1_01, n0_01, bI_01, bI_01b, bI_0, isSc1, isSc3, isSc5, ln_2, ln_4, ln_6, ln_8, ln_10, ln_11, ln_12, ln_13, ln_14, ln_16, ln_17, ln_18, ln_19, ln_20, ln_21, ln_23, ln_24, ln_25, ln_27, ln_28, ln_29, Nat.one_ne_zero, Nat.reduceEqDiff, Nat.zero_ne_one, Nat.lt_irrefl, m1_lt]
    exact hQ M n g h H s h3 (fun i hi => hin i (Nat.zero_le i) hi) _
  | succ j ih =>
    intro M n g h H s h3 hj hin l5
    obtain ⟨hv, hn, hL, hx⟩ := id s.1
    have hjn : j < n := by omega
    have hB2 := hv.2.1
    obtain ⟨o1, o2⟩ := hv.2.2.2.1 j hjn
    have os := okS_b o1
    obtain ⟨e1, e2, e3, e4⟩ := endN_ok hv hjn
    have keep : ∀ M l5, Ste M X V B L n g h H t c → inPh 0 hf (g j) → wp 102 59 [some (.inr 0), some (.inr 42), some (.inl (nI fr)), some (.inl (nI hf)), some (.inl (nI j)), l5, none, none, none, none, none, none, none, none] [] M Q := by
      intro M l5 s hp
      simp (disch := first | assumption | exact isSc1 | exact isSc3 | exact isSc5 | decide | omega) only [iL_copied_59, iL_copied_60, iL_copied_62, iL_copied_64, iL_copied_78, iL_copied_81, Nat.reduceAdd, Nat.reduceSub, Nat.reduceMul, Nat.reduceLeDiff, mm_rv_s, mm_rv_n, true_and, and_true, if_true, if_false, not_true_eq_false, not_false_eq_true, nI_add, nz_0, nz_lt0, nz_0le, nz_0lt, nz_le0, nz_lt, nz_le, nz_eq, nz_cl, nz_in, nz_sub, nz_m1, pk_mul, set_o, set_ne, up_ne, up_set, n1_1, true_or, or_true, n1_01, n0_01, bI_01, bI_01b, bI_0, isSc1, isSc3, isSc5, ln_2, ln_4, ln_6, ln_8, ln_10, ln_11, ln_12, ln_13, ln_14, ln_16, ln_17, ln_18, ln_19, ln_20, ln_21, ln_23, ln_24, ln_25, ln_27, ln_28, ln_29, Nat.one_ne_zero, Nat.reduceEqDiff, Nat.zero_ne_one, Nat.lt_irrefl, n0_0, dn1_d]
      exact ih M n g h H s h3 (by omega) (fun i hi hin' => by
        by_cases hij : i = j
        · rw [hij]; exact hp
        · exact hin i (by omega) hin') _
    have gone : ∀ M l5, Ste M X V B L n g h H t c → wp 102 55 [some (.inr 0), some (.inr 42), some (.inl (nI fr)), some (.inl (nI hf)), some (.inl (nI j)), l5, none, none, none, none, none, none, none, none] [] M Q := by
      intro M l5 s
      simp (disch := first | assumption | exact isSc1 | exact isSc3 | exact isSc5 | decide | omega) only [iL_copied_55, iL_copied_56, iL_copied_60, iL_copied_62, iL_copied_64, iL_copied_67, iL_copied_68, iL_copied_70, Nat.reduceAdd, Nat.reduceSub, Nat.reduceMul, Nat.reduceLeDiff, mm_rv_s, mm_rv_n, true_and, and_true, if_true, if_false, not_true_eq_false, not_false_eq_true, nI_add, nz_0, nz_lt0, nz_0le, nz_0lt, nz_le0, nz_lt, nz_le, nz_eq, nz_cl, nz_in, nz_sub, nz_m1, pk_mul, set_o, set_ne, up_ne, up_set, n1_1, true_or, or_true, n1_01, n0_01, bI_01, bI_01b, bI_0, isSc1, isSc3, isSc5, ln_2, ln_4, ln_6, ln_8, ln_10, ln_11, ln_12, ln_13, ln_14, ln_16, ln_17, ln_18, ln_19, ln_20, ln_21, ln_23, ln_24, ln_25, ln_27, ln_28, ln_29, Nat.one_ne_zero, Nat.reduceEqDiff, Nat.zero_ne_one, Nat.lt_irrefl, n1_0]
      refine z_removeSign s hjn (fun M1 s1 => ?_)
      simp (disch := first | assumption | exact isSc1 | exact isSc3 | exact isSc5 | decide | omega) only [iL_copied_73, iL_copied_78, iL_copied_81, Nat.reduceAdd, Nat.reduceSub, Nat.reduceMul, Nat.reduceLeDiff, mm_rv_s, mm_rv_n, true_and, and_true, if_true, if_false, not_true_eq_false, not_false_eq_true, nI_add, nz_0, nz_lt0, nz_0le, nz_0lt, nz_le0, nz_lt, nz_le, nz_eq, nz_cl, nz_in, nz_sub, nz_m1, pk_mul, set_o, set_ne, up_ne, up_set, n1_1, true_or, or_true, n1_01, n0_01, bI_01, bI_01b, bI_0, isSc1, isSc3, isSc5, ln_2, ln_4, ln_6, ln_8, ln_10, ln_11, ln_12, ln_13, ln_14, ln_16, ln_17, ln_18, ln_19, ln_20, ln_21, ln_23, ln_24, ln_25, ln_27, ln_28, ln_29, Nat.one_ne_zero, Nat.reduceEqDiff, Nat.zero_ne_one, Nat.lt_irrefl, dn1_d]
      refine ih M1 (n - 1) _ _ _ s1 ((pushN_pos h s.2.1.1).2 h3) (by omega) (fun i hi hin' => ?_) _
      unfold delG
      rw [if_neg (by omega)]
      exact hin (i + 1) (by omega) (by omega)
    rw [iL_copied_17, dn1_s]
    simp (disch := first | assumption | exact isSc1 | exact isSc3 | exact isSc5 | decide | omega) only [iL_copied_19, iL_copied_22, iL_copied_23, iL_copied_25, iL_copied_26, Nat.reduceAdd, Nat.reduceSub, Nat.reduceMul, Nat.reduceLeDiff, mm_rv_s, mm_rv_n, true_and, and_true, if_true, if_false, not_true_eq_false, not_false_eq_true, nI_add, nz_0, nz_lt0, nz_0le, nz_0lt, nz_le0, nz_lt, nz_le, nz_eq, nz_cl, nz_in, nz_sub, nz_m1, pk_mul, set_o, set_ne, up_ne, up_set, n1_1, true_or, or_true, n1_01, n0_01, bI_01, bI_01b, bI_0, isSc1, isSc3, isSc5, ln_2, ln_4, ln_6, ln_8, ln_10, ln_11, ln_12, ln_13, ln_14, ln_16, ln_17, ln_18, ln_19, ln_20, ln_21, ln_23, ln_24, ln_25, ln_27, ln_28, ln_29, Nat.one_ne_zero, Nat.reduceEqDiff, Nat.zero_ne_one, Nat.lt_irrefl]
    refine q_sign s hjn (nI 1) (fun M1 s => ?_)
    rw [sv_1]
    by_cases b1 : hf ≤ sB (g j)
    · simp (disch := first | assumption | exact isSc1 | exact isSc3 | exact isSc5 | decide | omega) only [iL_copied_29, iL_copied_30, Nat.reduceAdd, Nat.reduceSub, Nat.reduceMul, Nat.reduceLeDiff, mm_rv_s, mm_rv_n, true_and, and_true, if_true, if_false, not_true_eq_false, not_false_eq_true, nI_add, nz_0, nz_lt0, nz_0le, nz_0lt, nz_le0, nz_lt, nz_le, nz_eq, nz_cl, nz_in, nz_sub, nz_m1, pk_mul, set_o, set_ne, up_ne, up_set, n1_1, true_or, or_true, n1_01, n0_01, bI_01, bI_01b, bI_0, isSc1, isSc3, isSc5, ln_2, ln_4, ln_6, ln_8, ln_10, ln_11, ln_12, ln_13, ln_14, ln_16, ln_17, ln_18, ln_19, ln_20, ln_21, ln_23, ln_24, ln_25, ln_27, ln_28, ln_29, Nat.one_ne_zero, Nat.reduceEqDiff, Nat.zero_ne_one, Nat.lt_irrefl, b1]
      exact gone M1 _ s
    · simp (disch := first | assumption | exact isSc1 | exact isSc3 | exact isSc5 | decide | omega) only [iL_copied_29, iL_copied_30, iL_copied_33, iL_copied_34, iL_copied_36, iL_copied_37, Nat.reduceAdd, Nat.reduceSub, Nat.reduceMul, Nat.reduceLeDiff, mm_rv_s, mm_rv_n, true_and, and_true, if_true, if_false, not_true_eq_false, not_false_eq_true, nI_add, nz_0, nz_lt0, nz_0le, nz_0lt, nz_le0, nz_lt, nz_le, nz_eq, nz_cl, nz_in, nz_sub, nz_m1, pk_mul, set_o, set_ne, up_ne, up_set, n1_1, true_or, or_true, n1_01, n0_01, bI_01, bI_01b, bI_0, isSc1, isSc3, isSc5, ln_2, ln_4, ln_6, ln_8, ln_10, ln_11, ln_12, ln_13, ln_14, ln_16, ln_17, ln_18, ln_19, ln_20, ln_21, ln_23, ln_24, ln_25, ln_27, ln_28, ln_29, Nat.one_ne_zero, Nat.reduceEqDiff, Nat.zero_ne_one, Nat.lt_irrefl, b1]
      refine q_sign s hjn (nI 3) (fun M2 s => ?_)
      rw [sv_3]
      by_cases b2 : sK (g j) = 1
      · simp (disch := first | assumption | exact isSc1 | exact isSc3 | exact isSc5 | decide | omega) only [iL_copied_40, iL_copied_41, Nat.reduceAdd, Nat.reduceSub, Nat.reduceMul, Nat.reduceLeDiff, mm_rv_s, mm_rv_n, true_and, and_true, if_true, if_false, not_true_eq_false, not_false_eq_true, nI_add, nz_0, nz_lt0, nz_0le, nz_0lt, nz_le0, nz_lt, nz_le, nz_eq, nz_cl, nz_in, nz_sub, nz_m1, pk_mul, set_o, set_ne, up_ne, up_set, n1_1, true_or, or_true, n1_01, n0_01, bI_01, bI_01b, bI_0, isSc1, isSc3, isSc5, ln_2, ln_4, ln_6, ln_8, ln_10, ln_11, ln_12, ln_13, ln_14, ln_16, ln_17, ln_18, ln_19, ln_20, ln_21, ln_23, ln_24, ln_25, ln_27, ln_28, ln_29, Nat.one_ne_zero, Nat.reduceEqDiff, Nat.zero_ne_one, Nat.lt_irrefl, b2]
        exact keep M2 _ s (not_beyond hv hjn (by omega) (Or.inl b2))
      · simp (disch := first | assumption | exact isSc1 | exact isSc3 | exact isSc5 | decide | omega) only [iL_copied_40, iL_copied_41, iL_copied_44, iL_copied_45, iL_copied_47, iL_copied_48, Nat.reduceAdd, Nat.reduceSub, Nat.reduceMul, Nat.reduceLeDiff, mm_rv_s, mm_rv_n, true_and, and_true, if_true, if_false, not_true_eq_false, not_false_eq_true, nI_add, nz_0, nz_lt0, nz_0le, nz_0lt, nz_le0, nz_lt, nz_le, nz_eq, nz_cl, nz_in, nz_sub, nz_m1, pk_mul, set_o, set_ne, up_ne, up_set, n1_1, true_or, or_true, n1_01, n0_01, bI_01, bI_01b, bI_0, isSc1, isSc3, isSc5, ln_2, ln_4, ln_6, ln_8, ln_10, ln_11, ln_12, ln_13, ln_14, ln_16, ln_17, ln_18, ln_19, ln_20, ln_21, ln_23, ln_24, ln_25, ln_27, ln_28, ln_29, Nat.one_ne_zero, Nat.reduceEqDiff, Nat.zero_ne_one, Nat.lt_irrefl, b2]
        refine q_sign s hjn (nI 2) (fun M3 s => ?_)
        rw [sv_2]
        by_cases b3 : endN B n g j ≤ hf
        · simp (disch := first | assumption | exact isSc1 | exact isSc3 | exact isSc5 | decide | omega) only [iL_copied_51, iL_copied_52, Nat.reduceAdd, Nat.reduceSub, Nat.reduceMul, Nat.reduceLeDiff, mm_rv_s, mm_rv_n, true_and, and_true, if_true, if_false, not_true_eq_false, not_false_eq_true, nI_add, nz_0, nz_lt0, nz_0le, nz_0lt, nz_le0, nz_lt, nz_le, nz_eq, nz_cl, nz_in, nz_sub, nz_m1, pk_mul, set_o, set_ne, up_ne, up_set, n1_1, true_or, or_true, n1_01, n0_01, bI_01, bI_01b, bI_0, isSc1, isSc3, isSc5, ln_2, ln_4, ln_6, ln_8, ln_10, ln_11, ln_12, ln_13, ln_14, ln_16, ln_17, ln_18, ln_19, ln_20, ln_21, ln_23, ln_24, ln_25, ln_27, ln_28, ln_29, Nat.one_ne_zero, Nat.reduceEqDiff, Nat.zero_ne_one, Nat.lt_irrefl, b3]
          exact keep M3 _ s (not_beyond hv hjn (by omega) (Or.inr b3))
        · simp (disch := first | assumption | exact isSc1 | exact isSc3 | exact isSc5 | decide | omega) only [iL_copied_51, iL_copied_52, Nat.reduceAdd, Nat.reduceSub, Nat.reduceMul, Nat.reduceLeDiff, mm_rv_s, mm_rv_n, true_and, and_true, if_true, if_false, not_true_eq_false, not_false_eq_true, nI_add, nz_0, nz_lt0, nz_0le, nz_0lt, nz_le0, nz_lt, nz_le, nz_eq, nz_cl, nz_in, nz_sub, nz_m1, pk_mul, set_o, set_ne, up_ne, up_set, n1_1, true_or, or_true, n1_01, n0_01, bI_01, bI_01b, bI_0, isSc1, isSc3, isSc5, ln_2, ln_4, ln_6, ln_8, ln_10, ln_11, ln_12, ln_13, ln_14, ln_16, ln_17, ln_18, ln_19, ln_20, ln_21, ln_23, ln_24, ln_25, ln_27, ln_28, ln_29, Nat.one_ne_zero, Nat.reduceEqDiff, Nat.zero_ne_one, Nat.lt_irrefl, b3]
          exact gone M3 _ s
/-- the holds that go on into the second half are counted -/
theorem cp_open {fr hf a k5 k7 k9 N : Nat} {G : Nat → Sg} {l10 : Option mm_V} (h1 : 1 ≤ hf) (hhf : 2 * hf ≤ B)
    (hQ : ∀ M' x, Ste M' X V B L N G h H t c → x ≤ 7 → (x = 0 → ∀ k, k ≤ 6 → ∀ i, cv B N G k (hf - 1) = some i → sK (G i) ≠ 1) → ∀ l13, wp 102 292 [some (.inr 0), some (.inr 42), some (.inl (nI fr)), some (.inl (nI hf)), some (.inl (-1)), some (.inl (nI k5)), some (.inl (nI a)), some (.inl (nI k7)), some (.inl (nI 1)), some (.inl (nI k9)), l10, some (.inl (nI x)), some (.inl (nI 7)), l13] [] M' Q) :
    ∀ d k, k + d = 7 → ∀ M x, Ste M X V B L N G h H t c → x ≤ k → (x = 0 → ∀ q, q < k → ∀ i, cv B N G q (hf - 1) = some i → sK (G i) ≠ 1) → ∀ l13, wp 102 242 [some (.inr 0), some (.inr 42), some (.inl (nI fr)), some (.inl (nI hf)), some (.inl (-1)), some (.inl (nI k5)), some (.inl (nI a)), some (.inl (nI k7)), some (.inl (nI 1)), some (.inl (nI k9)), l10, some (.inl (nI x)), some (.inl (nI k)), l13] [] M Q := by
  intro d
  induction d with
  | zero =>
    intro k hk M x s hx hno l13
    have hk : k = 7 := by omega
    subst hk
    rw [iL_copied_242]
    simp (disch := first | assumption | exact isSc1 | exact isSc3 | exact isSc5 | decide | omega) only [iL_copied_244, iL_copied_246, Nat.reduceAdd, Nat.reduceSub, Nat.reduceMul, Nat.reduceLeDiff, mm_rv_s, mm_rv_n, true_and, and_true, if_true, if_false, not_true_eq_false, not_false_eq_true, nI_add, nz_0, nz_lt0, nz_0le, nz_0lt, nz_le0, nz_lt, nz_le, nz_eq, nz_cl, nz_in, nz_sub, nz_m1, pk_mul, set_o, set_ne, up_ne, up_set, n1_1, true_or, or_true, n1_01, n0_01, bI_01, bI_01b, bI_0, isSc1, isSc3, isSc5, ln_2, ln_4, ln_6, ln_8, ln_10, ln_11, ln_12, ln_13, ln_14, ln_16, ln_17, ln_18, ln_19, ln_20, ln_21, ln_23, ln_24, ln_25, ln_27, ln_28, ln_29, Nat.one_ne_zero, Nat.reduceEqDiff, Nat.zero_ne_one, Nat.lt_irrefl, Nat.le_refl]
    exact hQ M x s hx (fun z q hq => hno z q (by omega)) _
  | succ d ih =>
    intro k hk M x s hx hno l13
    have hv := s.1.1
    have hB2 := hv.2.1
    rw [iL_copied_242]
    simp (disch := first | assumption | exact isSc1 | exact isSc3 | exact isSc5 | decide | omega) only [iL_copied_244, iL_copied_246, iL_copied_249, iL_copied_250, iL_copied_252, iL_copied_253, iL_copied_254, iL_copied_255, Nat.reduceAdd, Nat.reduceSub, Nat.reduceMul, Nat.reduceLeDiff, mm_rv_s, mm_rv_n, true_and, and_true, if_true, if_false, not_true_eq_false, not_false_eq_true, nI_add, nz_0, nz_lt0, nz_0le, nz_0lt, nz_le0, nz_lt, nz_le, nz_eq, nz_cl, nz_in, nz_sub, nz_m1, pk_mul, set_o, set_ne, up_ne, up_set, n1_1, true_or, or_true, n1_01, n0_01, bI_01, bI_01b, bI_0, isSc1, isSc3, isSc5, ln_2, ln_4, ln_6, ln_8, ln_10, ln_11, ln_12, ln_13, ln_14, ln_16, ln_17, ln_18, ln_19, ln_20, ln_21, ln_23, ln_24, ln_25, ln_27, ln_28, ln_29, Nat.one_ne_zero, Nat.reduceEqDiff, Nat.zero_ne_one, Nat.lt_irrefl, show ¬ 7 ≤ k by omega]
    refine q_signAt s (k := k) (b := hf - 1) (by omega) (by omega) (fun M1 s => ?_)
    have step : ∀ (x' : Nat) (M' : mm_M) (l13 : Option mm_V), Ste M' X V B L N G h H t c → x' ≤ k + 1 → (x' = 0 → x = 0 ∧ ∀ i, cv B N G k (hf - 1) = some i → sK (G i) ≠ 1) → wp 102 242 [some (.inr 0), some (.inr 42), some (.inl (nI fr)), some (.inl (nI hf)), some (.inl (-1)), some (.inl (nI k5)), some (.inl (nI a)), some (.inl (nI k7)), some (.inl (nI 1)), some (.inl (nI k9)), l10, some (.inl (nI x')), some (.inl (nI (k + 1))), l13] [] M' Q := by
      intro x' M' l13 s' hx' hz
      refine ih (k + 1) (by omega) M' x' s' hx' (fun z q hq => ?_) l13
      by_cases hqk : q = k
      · rw [hqk]; exact (hz z).2
      · exact hno (hz z).1 q (by omega)
    cases hcv : cv B N G k (hf - 1) with
    | none =>
      simp (disch := first | assumption | exact isSc1 | exact isSc3 | exact isSc5 | decide | omega) only [iL_copied_258, iL_copied_260, iL_copied_262, iL_copied_264, iL_copied_282, iL_copied_283, iL_copied_284, iL_copied_286, iL_copied_289, Nat.reduceAdd, Nat.reduceSub, Nat.reduceMul, Nat.reduceLeDiff, mm_rv_s, mm_rv_n, true_and, and_true, if_true, if_false, not_true_eq_false, not_false_eq_true, nI_add, nz_0, nz_lt0, nz_0le, nz_0lt, nz_le0, nz_lt, nz_le, nz_eq, nz_cl, nz_in, nz_sub, nz_m1, pk_mul, set_o, set_ne, up_ne, up_set, n1_1, true_or, or_true, n1_01, n0_01, bI_01, bI_01b, bI_0, isSc1, isSc3, isSc5, ln_2, ln_4, ln_6, ln_8, ln_10, ln_11, ln_12, ln_13, ln_14, ln_16, ln_17, ln_18, ln_19, ln_20, ln_21, ln_23, ln_24, ln_25, ln_27, ln_28, ln_29, Nat.one_ne_zero, Nat.reduceEqDiff, Nat.zero_ne_one, Nat.lt_irrefl, nf, m4_lt, Nat.add_zero]
      exact step x M1 _ s (by omega) (fun z => ⟨z, fun i hi => by rw [hcv] at hi; cases hi⟩)
    | some i =>
      have hi := cv_lt hcv
      have hN := s.1.2.1
      simp (disch := first | assumption | exact isSc1 | exact isSc3 | exact isSc5 | decide | omega) only [iL_copied_258, iL_copied_260, iL_copied_262, iL_copied_264, iL_copied_267, iL_copied_268, iL_copied_270, iL_copied_271, Nat.reduceAdd, Nat.reduceSub, Nat.reduceMul, Nat.reduceLeDiff, mm_rv_s, mm_rv_n, true_and, and_true, if_true, if_false, not_true_eq_false, not_false_eq_true, nI_add, nz_0, nz_lt0, nz_0le, nz_0lt, nz_le0, nz_lt, nz_le, nz_eq, nz_cl, nz_in, nz_sub, nz_m1, pk_mul, set_o, set_ne, up_ne, up_set, n1_1, true_or, or_true, n1_01, n0_01, bI_01, bI_01b, bI_0, isSc1, isSc3, isSc5, ln_2, ln_4, ln_6, ln_8, ln_10, ln_11, ln_12, ln_13, ln_14, ln_16, ln_17, ln_18, ln_19, ln_20, ln_21, ln_23, ln_24, ln_25, ln_27, ln_28, ln_29, Nat.one_ne_zero, Nat.reduceEqDiff, Nat.zero_ne_one, Nat.lt_irrefl, nf]
      refine q_sign s hi (nI 3) (fun M2 s => ?_)
      rw [sv_3]
      have hk3 := (hv.2.2.2.1 i hi).1.2.1
      by_cases b2 : sK (G i) = 1
      · simp (disch := first | assumption | exact isSc1 | exact isSc3 | exact isSc5 | decide | omega) only [iL_copied_274, iL_copied_275, iL_copied_278, iL_copied_279, iL_copied_282, iL_copied_283, iL_copied_284, iL_copied_286, iL_copied_289, Nat.reduceAdd, Nat.reduceSub, Nat.reduceMul, Nat.reduceLeDiff, mm_rv_s, mm_rv_n, true_and, and_true, if_true, if_false, not_true_eq_false, not_false_eq_true, nI_add, nz_0, nz_lt0, nz_0le, nz_0lt, nz_le0, nz_lt, nz_le, nz_eq, nz_cl, nz_in, nz_sub, nz_m1, pk_mul, set_o, set_ne, up_ne, up_set, n1_1, true_or, or_true, n1_01, n0_01, bI_01, bI_01b, bI_0, isSc1, isSc3, isSc5, ln_2, ln_4, ln_6, ln_8, ln_10, ln_11, ln_12, ln_13, ln_14, ln_16, ln_17, ln_18, ln_19, ln_20, ln_21, ln_23, ln_24, ln_25, ln_27, ln_28, ln_29, Nat.one_ne_zero, Nat.reduceEqDiff, Nat.zero_ne_one, Nat.lt_irrefl, b2]
        exact step (x + 1) M2 _ s (by omega) (fun z => absurd z (by omega))
      · simp (disch := first | assumption | exact isSc1 | exact isSc3 | exact isSc5 | decide | omega) only [iL_copied_274, iL_copied_275, iL_copied_278, iL_copied_279, iL_copied_282, iL_copied_283, iL_copied_284, iL_copied_286, iL_copied_289, Nat.reduceAdd, Nat.reduceSub, Nat.reduceMul, Nat.reduceLeDiff, mm_rv_s, mm_rv_n, true_and, and_true, if_true, if_false, not_true_eq_false, not_false_eq_true, nI_add, nz_0, nz_lt0, nz_0le, nz_0lt, nz_le0, nz_lt, nz_le, nz_eq, nz_cl, nz_in, nz_sub, nz_m1, pk_mul, set_o, set_ne, up_ne, up_set, n1_1, true_or, or_true, n1_01, n0_01, bI_01, bI_01b, bI_0, isSc1, isSc3, isSc5, ln_2, ln_4, ln_6, ln_8, ln_10, ln_11, ln_12, ln_13, ln_14, ln_16, ln_17, ln_18, ln_19, ln_20, ln_21, ln_23, ln_24, ln_25, ln_27, ln_28, ln_29, Nat.one_ne_zero, Nat.reduceEqDiff, Nat.zero_ne_one, Nat.lt_irrefl, b2, Nat.add_zero]
        exact step x M2 _ s (by omega) (fun z => ⟨z, fun j hj => by rw [hcv] at hj; cases hj; exact b2⟩)
/-- behind the copy -/
theorem cp_after {fr hf a N : Nat} {b : Bool} {G : Nat → Sg} (hab : nI a = bI b) (ha : a = 0 ∨ a = 1) (s : Ste M X V B L (n + n) G (pushN h) (pushH h H (B, L, n, g)) t c) (h3 : 3 ≤ h) (hh6 : h ≤ 6) (hn : n ≤ 30) (h1 : 1 ≤ hf) (hhf : 2 * hf ≤ B)
    (hal : (∀ k, k ≤ 6 → ∀ i, cv B (n + n) G k (hf - 1) = some i → sK (G i) ≠ 1) → alV b B (n + n) G 0 hf hf = nI hf)
    (hQ : ∀ M' h' H', Ste M' X V B L n g h' H' t c → 3 ≤ h' → Q (some (nI 1)) M') : wp 102 136 [some (.inr 0), some (.inr 42), some (.inl (nI fr)), some (.inl (nI hf)), some (.inl (-1)), some (.inl (nI n)), some (.inl (nI a)), none, none, none, none, none, none, none] [.inl (nI n)] M Q := by
  have hG := s.1.1
  have hB2 := hG.2.1
  simp (disch := first | assumption | exact isSc1 | exact isSc3 | exact isSc5 | decide | omega) only [iL_copied_136, iL_copied_138, iL_copied_140, iL_copied_142, iL_copied_145, iL_copied_146, iL_copied_147, Nat.reduceAdd, Nat.reduceSub, Nat.reduceMul, Nat.reduceLeDiff, mm_rv_s, mm_rv_n, true_and, and_true, if_true, if_false, not_true_eq_false, not_false_eq_true, nI_add, nz_0, nz_lt0, nz_0le, nz_0lt, nz_le0, nz_lt, nz_le, nz_eq, nz_cl, nz_in, nz_sub, nz_m1, pk_mul, set_o, set_ne, up_ne, up_set, n1_1, true_or, or_true, n1_01, n0_01, bI_01, bI_01b, bI_0, isSc1, isSc3, isSc5, ln_2, ln_4, ln_6, ln_8, ln_10, ln_11, ln_12, ln_13, ln_14, ln_16, ln_17, ln_18, ln_19, ln_20, ln_21, ln_23, ln_24, ln_25, ln_27, ln_28, ln_29, Nat.one_ne_zero, Nat.reduceEqDiff, Nat.zero_ne_one, Nat.lt_irrefl, z_count s, cnt_1]
  simp (disch := first | assumption | exact isSc1 | exact isSc3 | exact isSc5 | decide | omega) only [iL_copied_150, iL_copied_151, iL_copied_153, iL_copied_154, iL_copied_157, iL_copied_158, Nat.reduceAdd, Nat.reduceSub, Nat.reduceMul, Nat.reduceLeDiff, mm_rv_s, mm_rv_n, true_and, and_true, if_true, if_false, not_true_eq_false, not_false_eq_true, nI_add, nz_0, nz_lt0, nz_0le, nz_0lt, nz_le0, nz_lt, nz_le, nz_eq, nz_cl, nz_in, nz_sub, nz_m1, pk_mul, set_o, set_ne, up_ne, up_set, n1_1, true_or, or_true, n1_01, n0_01, bI_01, bI_01b, bI_0, isSc1, isSc3, isSc5, ln_2, ln_4, ln_6, ln_8, ln_10, ln_11, ln_12, ln_13, ln_14, ln_16, ln_17, ln_18, ln_19, ln_20, ln_21, ln_23, ln_24, ln_25, ln_27, ln_28, ln_29, Nat.one_ne_zero, Nat.reduceEqDiff, Nat.zero_ne_one, Nat.lt_irrefl, show n + n = 2 * n by omega]
  refine z_holds s (fun M1 s => ?_)
  have hl : ∃ x, alV b B (n + n) G 0 hf hf = nI x ∧ x ≤ hf ∧ alV b B (n + n) G hf (2 * hf) 0 = nI x := by
    refine ⟨cntF (fun t => decide (dcN b B (n + n) G 0 hf 7 t = 0)) hf, by unfold alV; rw [Nat.sub_zero], cntF_le _ _, ?_⟩
    rw [← al_swap hG]
    unfold alV
    rw [Nat.sub_zero]
  obtain ⟨x, x1, x2, x3⟩ := hl
  rw [x1] at hal
  have go : ∀ M, Ste M X V B L (n + n) G (pushN h) (pushH h H (B, L, n, g)) t c → wp 102 236 [some (.inr 0), some (.inr 42), some (.inl (nI fr)), some (.inl (nI hf)), some (.inl (-1)), some (.inl (nI n)), some (.inl (nI a)), some (.inl (nI n)), some (.inl (nI 1)), some (.inl (nI x)), some (.inl (nI x)), none, none, none] [] M Q := by
    intro M s
    simp (disch := first | assumption | exact isSc1 | exact isSc3 | exact isSc5 | decide | omega) only [iL_copied_236, iL_copied_237, iL_copied_239, iL_copied_240, Nat.reduceAdd, Nat.reduceSub, Nat.reduceMul, Nat.reduceLeDiff, mm_rv_s, mm_rv_n, true_and, and_true, if_true, if_false, not_true_eq_false, not_false_eq_true, nI_add, nz_0, nz_lt0, nz_0le, nz_0lt, nz_le0, nz_lt, nz_le, nz_eq, nz_cl, nz_in, nz_sub, nz_m1, pk_mul, set_o, set_ne, up_ne, up_set, n1_1, true_or, or_true, n1_01, n0_01, bI_01, bI_01b, bI_0, isSc1, isSc3, isSc5, ln_2, ln_4, ln_6, ln_8, ln_10, ln_11, ln_12, ln_13, ln_14, ln_16, ln_17, ln_18, ln_19, ln_20, ln_21, ln_23, ln_24, ln_25, ln_27, ln_28, ln_29, Nat.one_ne_zero, Nat.reduceEqDiff, Nat.zero_ne_one, Nat.lt_irrefl]
    refine cp_open h1 hhf (fun M2 y s hy hno l13 => ?_) 7 0 (by omega) M 0 s (by omega) (fun _ q hq => absurd hq (by omega)) none
    obtain ⟨k, k1, k2, k3⟩ := push_top (h := h) (H := H) (S := (B, L, n, g)) hh6
    have fin : wp 102 308 [some (.inr 0), some (.inr 42), some (.inl (nI fr)), some (.inl (nI hf)), some (.inl (-1)), some (.inl (nI n)), some (.inl (nI a)), some (.inl (nI n)), some (.inl (nI 1)), some (.inl (nI x)), some (.inl (nI x)), some (.inl (nI y)), some (.inl (nI 7)), l13] [] M2 Q := by
      rw [k1] at s
      simp (disch := first | assumption | exact isSc1 | exact isSc3 | exact isSc5 | decide | omega) only [iL_copied_308, iL_copied_309, iL_copied_313, iL_copied_315, iL_copied_317, iL_copied_320, iL_copied_321, Nat.reduceAdd, Nat.reduceSub, Nat.reduceMul, Nat.reduceLeDiff, mm_rv_s, mm_rv_n, true_and, and_true, if_true, if_false, not_true_eq_false, not_false_eq_true, nI_add, nz_0, nz_lt0, nz_0le, nz_0lt, nz_le0, nz_lt, nz_le, nz_eq, nz_cl, nz_in, nz_sub, nz_m1, pk_mul, set_o, set_ne, up_ne, up_set, n1_1, true_or, or_true, n1_01, n0_01, bI_01, bI_01b, bI_0, isSc1, isSc3, isSc5, ln_2, ln_4, ln_6, ln_8, ln_10, ln_11, ln_12, ln_13, ln_14, ln_16, ln_17, ln_18, ln_19, ln_20, ln_21, ln_23, ln_24, ln_25, ln_27, ln_28, ln_29, Nat.one_ne_zero, Nat.reduceEqDiff, Nat.zero_ne_one, Nat.lt_irrefl, n1_0]
      refine z_undo s k2 (fun M3 s => ?_)
      have hk6 := s.2.1.1
      simp (disch := first | assumption | exact isSc1 | exact isSc3 | exact isSc5 | decide | omega) only [iL_copied_324, iL_copied_327, iL_copied_328, iL_copied_329, iL_copied_332, iL_copied_334, iL_copied_337, iL_copied_338, iL_copied_341, iL_copied_342, iL_copied_344, iL_copied_346, iL_copied_349, iL_copied_350, Nat.reduceAdd, Nat.reduceSub, Nat.reduceMul, Nat.reduceLeDiff, mm_rv_s, mm_rv_n, true_and, and_true, if_true, if_false, not_true_eq_false, not_false_eq_true, nI_add, nz_0, nz_lt0, nz_0le, nz_0lt, nz_le0, nz_lt, nz_le, nz_eq, nz_cl, nz_in, nz_sub, nz_m1, pk_mul, set_o, set_ne, up_ne, up_set, n1_1, true_or, or_true, n1_01, n0_01, bI_01, bI_01b, bI_0, isSc1, isSc3, isSc5, ln_2, ln_4, ln_6, ln_8, ln_10, ln_11, ln_12, ln_13, ln_14, ln_16, ln_17, ln_18, ln_19, ln_20, ln_21, ln_23, ln_24, ln_25, ln_27, ln_28, ln_29, Nat.one_ne_zero, Nat.reduceEqDiff, Nat.zero_ne_one, Nat.lt_irrefl, n1_0, z_count s, cnt_1]
      refine z_holds s (fun M4 s => ?_)
      simp (disch := first | assumption | exact isSc1 | exact isSc3 | exact isSc5 | decide | omega) only [iL_copied_353, iL_copied_356, iL_copied_357, iL_copied_360, iL_copied_361, Nat.reduceAdd, Nat.reduceSub, Nat.reduceMul, Nat.reduceLeDiff, mm_rv_s, mm_rv_n, true_and, and_true, if_true, if_false, not_true_eq_false, not_false_eq_true, nI_add, nz_0, nz_lt0, nz_0le, nz_0lt, nz_le0, nz_lt, nz_le, nz_eq, nz_cl, nz_in, nz_sub, nz_m1, pk_mul, set_o, set_ne, up_ne, up_set, n1_1, true_or, or_true, n1_01, n0_01, bI_01, bI_01b, bI_0, isSc1, isSc3, isSc5, ln_2, ln_4, ln_6, ln_8, ln_10, ln_11, ln_12, ln_13, ln_14, ln_16, ln_17, ln_18, ln_19, ln_20, ln_21, ln_23, ln_24, ln_25, ln_27, ln_28, ln_29, Nat.one_ne_zero, Nat.reduceEqDiff, Nat.zero_ne_one, Nat.lt_irrefl, n1_0]
      exact hQ M4 k _ s (k3 h3)
    by_cases hy0 : y = 0
    · have hx : x = hf := by
        have e := hal (hno hy0)
        exact (nI_eq (by omega) (by omega)).mp e
      simp (disch := first | assumption | exact isSc1 | exact isSc3 | exact isSc5 | decide | omega) only [iL_copied_292, iL_copied_294, iL_copied_297, iL_copied_299, iL_copied_302, iL_copied_304, iL_copied_305, Nat.reduceAdd, Nat.reduceSub, Nat.reduceMul, Nat.reduceLeDiff, mm_rv_s, mm_rv_n, true_and, and_true, if_true, if_false, not_true_eq_false, not_false_eq_true, nI_add, nz_0, nz_lt0, nz_0le, nz_0lt, nz_le0, nz_lt, nz_le, nz_eq, nz_cl, nz_in, nz_sub, nz_m1, pk_mul, set_o, set_ne, up_ne, up_set, n1_1, true_or, or_true, n1_01, n0_01, bI_01, bI_01b, bI_0, isSc1, isSc3, isSc5, ln_2, ln_4, ln_6, ln_8, ln_10, ln_11, ln_12, ln_13, ln_14, ln_16, ln_17, ln_18, ln_19, ln_20, ln_21, ln_23, ln_24, ln_25, ln_27, ln_28, ln_29, Nat.one_ne_zero, Nat.reduceEqDiff, Nat.zero_ne_one, Nat.lt_irrefl, n1_0, hy0, hx]
      rw [hy0, hx] at fin
      exact fin
    · simp (disch := first | assumption | exact isSc1 | exact isSc3 | exact isSc5 | decide | omega) only [iL_copied_292, iL_copied_294, iL_copied_297, iL_copied_299, Nat.reduceAdd, Nat.reduceSub, Nat.reduceMul, Nat.reduceLeDiff, mm_rv_s, mm_rv_n, true_and, and_true, if_true, if_false, not_true_eq_false, not_false_eq_true, nI_add, nz_0, nz_lt0, nz_0le, nz_0lt, nz_le0, nz_lt, nz_le, nz_eq, nz_cl, nz_in, nz_sub, nz_m1, pk_mul, set_o, set_ne, up_ne, up_set, n1_1, true_or, or_true, n1_01, n0_01, bI_01, bI_01b, bI_0, isSc1, isSc3, isSc5, ln_2, ln_4, ln_6, ln_8, ln_10, ln_11, ln_12, ln_13, ln_14, ln_16, ln_17, ln_18, ln_19, ln_20, ln_21, ln_23, ln_24, ln_25, ln_27, ln_28, ln_29, Nat.one_ne_zero, Nat.reduceEqDiff, Nat.zero_ne_one, Nat.lt_irrefl, n1_0, show 0 < y by omega]
      exact fin
  rcases ha with rfl | rfl
  · have hb : b = false := by
      cases b
      · rfl
      · exact absurd hab (by decide)
    subst hb
    simp (disch := first | assumption | exact isSc1 | exact isSc3 | exact isSc5 | decide | omega) only [iL_copied_161, iL_copied_164, iL_copied_165, iL_copied_168, iL_copied_169, iL_copied_171, iL_copied_172, iL_copied_173, iL_copied_174, iL_copied_175, iL_copied_177, iL_copied_180, iL_copied_181, iL_copied_184, iL_copied_185, Nat.reduceAdd, Nat.reduceSub, Nat.reduceMul, Nat.reduceLeDiff, mm_rv_s, mm_rv_n, true_and, and_true, if_true, if_false, not_true_eq_false, not_false_eq_true, nI_add, nz_0, nz_lt0, nz_0le, nz_0lt, nz_le0, nz_lt, nz_le, nz_eq, nz_cl, nz_in, nz_sub, nz_m1, pk_mul, set_o, set_ne, up_ne, up_set, n1_1, true_or, or_true, n1_01, n0_01, bI_01, bI_01b, bI_0, isSc1, isSc3, isSc5, ln_2, ln_4, ln_6, ln_8, ln_10, ln_11, ln_12, ln_13, ln_14, ln_16, ln_17, ln_18, ln_19, ln_20, ln_21, ln_23, ln_24, ln_25, ln_27, ln_28, ln_29, Nat.one_ne_zero, Nat.reduceEqDiff, Nat.zero_ne_one, Nat.lt_irrefl, n0_0, n1_0]
    refine q_alike s (f := 0) (l := hf) (o := hf) (by omega) (by omega) (by omega) false (fun M2 s => ?_)
    rw [x1]
    simp (disch := first | assumption | exact isSc1 | exact isSc3 | exact isSc5 | decide | omega) only [iL_copied_188, iL_copied_190, iL_copied_191, iL_copied_192, iL_copied_193, iL_copied_194, iL_copied_195, iL_copied_196, iL_copied_198, iL_copied_201, iL_copied_202, iL_copied_205, iL_copied_206, Nat.reduceAdd, Nat.reduceSub, Nat.reduceMul, Nat.reduceLeDiff, mm_rv_s, mm_rv_n, true_and, and_true, if_true, if_false, not_true_eq_false, not_false_eq_true, nI_add, nz_0, nz_lt0, nz_0le, nz_0lt, nz_le0, nz_lt, nz_le, nz_eq, nz_cl, nz_in, nz_sub, nz_m1, pk_mul, set_o, set_ne, up_ne, up_set, n1_1, true_or, or_true, n1_01, n0_01, bI_01, bI_01b, bI_0, isSc1, isSc3, isSc5, ln_2, ln_4, ln_6, ln_8, ln_10, ln_11, ln_12, ln_13, ln_14, ln_16, ln_17, ln_18, ln_19, ln_20, ln_21, ln_23, ln_24, ln_25, ln_27, ln_28, ln_29, Nat.one_ne_zero, Nat.reduceEqDiff, Nat.zero_ne_one, Nat.lt_irrefl, n0_0]
    refine q_alike s (f := hf) (l := 2 * hf) (o := 0) (by omega) (by omega) (by omega) false (fun M3 s => ?_)
    rw [x3]
    simp (disch := first | assumption | exact isSc1 | exact isSc3 | exact isSc5 | decide | omega) only [iL_copied_209, iL_copied_211, iL_copied_213, iL_copied_216, iL_copied_218, iL_copied_220, iL_copied_223, iL_copied_225, iL_copied_226, iL_copied_229, iL_copied_230, iL_copied_233, iL_copied_234, Nat.reduceAdd, Nat.reduceSub, Nat.reduceMul, Nat.reduceLeDiff, mm_rv_s, mm_rv_n, true_and, and_true, if_true, if_false, not_true_eq_false, not_false_eq_true, nI_add, nz_0, nz_lt0, nz_0le, nz_0lt, nz_le0, nz_lt, nz_le, nz_eq, nz_cl, nz_in, nz_sub, nz_m1, pk_mul, set_o, set_ne, up_ne, up_set, n1_1, true_or, or_true, n1_01, n0_01, bI_01, bI_01b, bI_0, isSc1, isSc3, isSc5, ln_2, ln_4, ln_6, ln_8, ln_10, ln_11, ln_12, ln_13, ln_14, ln_16, ln_17, ln_18, ln_19, ln_20, ln_21, ln_23, ln_24, ln_25, ln_27, ln_28, ln_29, Nat.one_ne_zero, Nat.reduceEqDiff, Nat.zero_ne_one, Nat.lt_irrefl, n1_0, show ¬ hf < x by omega]
    exact go M3 s
  · have hb : b = true := by
      cases b
      · exact absurd hab (by decide)
      · rfl
    subst hb
    simp (disch := first | assumption | exact isSc1 | exact isSc3 | exact isSc5 | decide | omega) only [iL_copied_161, iL_copied_164, iL_copied_165, iL_copied_168, iL_copied_169, iL_copied_171, iL_copied_172, iL_copied_173, iL_copied_174, iL_copied_175, iL_copied_177, iL_copied_180, iL_copied_181, iL_copied_184, iL_copied_185, Nat.reduceAdd, Nat.reduceSub, Nat.reduceMul, Nat.reduceLeDiff, mm_rv_s, mm_rv_n, true_and, and_true, if_true, if_false, not_true_eq_false, not_false_eq_true, nI_add, nz_0, nz_lt0, nz_0le, nz_0lt, nz_le0, nz_lt, nz_le, nz_eq, nz_cl, nz_in, nz_sub, nz_m1, pk_mul, set_o, set_ne, up_ne, up_set, n1_1, true_or, or_true, n1_01, n0_01, bI_01, bI_01b, bI_0, isSc1, isSc3, isSc5, ln_2, ln_4, ln_6, ln_8, ln_10, ln_11, ln_12, ln_13, ln_14, ln_16, ln_17, ln_18, ln_19, ln_20, ln_21, ln_23, ln_24, ln_25, ln_27, ln_28, ln_29, Nat.one_ne_zero, Nat.reduceEqDiff, Nat.zero_ne_one, Nat.lt_irrefl, n1_0]
    refine q_alike s (f := 0) (l := hf) (o := hf) (by omega) (by omega) (by omega) true (fun M2 s => ?_)
    rw [x1]
    simp (disch := first | assumption | exact isSc1 | exact isSc3 | exact isSc5 | decide | omega) only [iL_copied_188, iL_copied_190, iL_copied_191, iL_copied_192, iL_copied_193, iL_copied_194, iL_copied_195, iL_copied_196, iL_copied_198, iL_copied_201, iL_copied_202, iL_copied_205, iL_copied_206, Nat.reduceAdd, Nat.reduceSub, Nat.reduceMul, Nat.reduceLeDiff, mm_rv_s, mm_rv_n, true_and, and_true, if_true, if_false, not_true_eq_false, not_false_eq_true, nI_add, nz_0, nz_lt0, nz_0le, nz_0lt, nz_le0, nz_lt, nz_le, nz_eq, nz_cl, nz_in, nz_sub, nz_m1, pk_mul, set_o, set_ne, up_ne, up_set, n1_1, true_or, or_true, n1_01, n0_01, bI_01, bI_01b, bI_0, isSc1, isSc3, isSc5, ln_2, ln_4, ln_6, ln_8, ln_10, ln_11, ln_12, ln_13, ln_14, ln_16, ln_17, ln_18, ln_19, ln_20, ln_21, ln_23, ln_24, ln_25, ln_27, ln_28, ln_29, Nat.one_ne_zero, Nat.reduceEqDiff, Nat.zero_ne_one, Nat.lt_irrefl, n1_0]
    refine q_alike s (f := hf) (l := 2 * hf) (o := 0) (by omega) (by omega) (by omega) true (fun M3 s => ?_)
    rw [x3]
    simp (disch := first | assumption | exact isSc1 | exact isSc3 | exact isSc5 | decide | omega) only [iL_copied_209, iL_copied_211, iL_copied_213, iL_copied_216, iL_copied_218, iL_copied_220, iL_copied_223, iL_copied_225, iL_copied_226, iL_copied_229, iL_copied_230, iL_copied_233, iL_copied_234, Nat.reduceAdd, Nat.reduceSub, Nat.reduceMul, Nat.reduceLeDiff, mm_rv_s, mm_rv_n, true_and, and_true, if_true, if_false, not_true_eq_false, not_false_eq_true, nI_add, nz_0, nz_lt0, nz_0le, nz_0lt, nz_le0, nz_lt, nz_le, nz_eq, nz_cl, nz_in, nz_sub, nz_m1, pk_mul, set_o, set_ne, up_ne, up_set, n1_1, true_or, or_true, n1_01, n0_01, bI_01, bI_01b, bI_0, isSc1, isSc3, isSc5, ln_2, ln_4, ln_6, ln_8, ln_10, ln_11, ln_12, ln_13, ln_14, ln_16, ln_17, ln_18, ln_19, ln_20, ln_21, ln_23, ln_24, ln_25, ln_27, ln_28, ln_29, Nat.one_ne_zero, Nat.reduceEqDiff, Nat.zero_ne_one, Nat.lt_irrefl, n1_0, show ¬ hf < x by omega]
    exact go M3 s
theorem z_copied {fr : Nat} (s : Ste M X V B L n g h H t c) (hV : okV V) (hfr : fr < 500) (h3 : 3 ≤ h)
    (hQ : ∀ M' n' g' h' H', Ste M' X V B L n' g' h' H' t c → 3 ≤ h' → Q (some (nI 1)) M') : wc 102 [.inr 0, .inr 42, .inl (nI fr)] M Q := by
  have w1 := s.1.1.1
  have w2 := s.1.1.2.1
  have hn60 := s.1.2.1
  simp (disch := first | assumption | exact isSc1 | exact isSc3 | exact isSc5 | decide | omega) only [eL_copied, iL_copied_0, iL_copied_1, iL_copied_2, iL_copied_5, iL_copied_6, iL_copied_7, iL_copied_8, iL_copied_9, iL_copied_10, iL_copied_13, iL_copied_14, iL_copied_15, Nat.reduceAdd, Nat.reduceSub, Nat.reduceMul, Nat.reduceLeDiff, mm_rv_s, mm_rv_n, true_and, and_true, if_true, if_false, not_true_eq_false, not_false_eq_true, nI_add, nz_0, nz_lt0, nz_0le, nz_0lt, nz_le0, nz_lt, nz_le, nz_eq, nz_cl, nz_in, nz_sub, nz_m1, pk_mul, set_o, set_ne, up_ne, up_set, n1_1, true_or, or_true, n1_01, n0_01, bI_01, bI_01b, bI_0, isSc1, isSc3, isSc5, ln_2, ln_4, ln_6, ln_8, ln_10, ln_11, ln_12, ln_13, ln_14, ln_16, ln_17, ln_18, ln_19, ln_20, ln_21, ln_23, ln_24, ln_25, ln_27, ln_28, ln_29, Nat.one_ne_zero, Nat.reduceEqDiff, Nat.zero_ne_one, Nat.lt_irrefl, z_count s, cnt_0, cnt_1, pk_div, dn1_m]
  refine cp_clear (by omega) (fun M1 n' g' h' H' s h3 hin l5 => ?_) n M n g h H s h3 (Nat.le_refl n) (fun i h1 h2 => absurd h2 (by omega)) none
  have hn := s.1.2.1
  have hv := s.1.1
  simp (disch := first | assumption | exact isSc1 | exact isSc3 | exact isSc5 | decide | omega) only [iL_copied_84, iL_copied_85, iL_copied_86, iL_copied_89, iL_copied_91, Nat.reduceAdd, Nat.reduceSub, Nat.reduceMul, Nat.reduceLeDiff, mm_rv_s, mm_rv_n, true_and, and_true, if_true, if_false, not_true_eq_false, not_false_eq_true, nI_add, nz_0, nz_lt0, nz_0le, nz_0lt, nz_le0, nz_lt, nz_le, nz_eq, nz_cl, nz_in, nz_sub, nz_m1, pk_mul, set_o, set_ne, up_ne, up_set, n1_1, true_or, or_true, n1_01, n0_01, bI_01, bI_01b, bI_0, isSc1, isSc3, isSc5, ln_2, ln_4, ln_6, ln_8, ln_10, ln_11, ln_12, ln_13, ln_14, ln_16, ln_17, ln_18, ln_19, ln_20, ln_21, ln_23, ln_24, ln_25, ln_27, ln_28, ln_29, Nat.one_ne_zero, Nat.reduceEqDiff, Nat.zero_ne_one, Nat.lt_irrefl, z_count s, cnt_1]
  by_cases h30 : n' ≤ 30
  · simp (disch := first | assumption | exact isSc1 | exact isSc3 | exact isSc5 | decide | omega) only [iL_copied_93, iL_copied_95, iL_copied_98, iL_copied_99, iL_copied_100, iL_copied_101, iL_copied_102, Nat.reduceAdd, Nat.reduceSub, Nat.reduceMul, Nat.reduceLeDiff, mm_rv_s, mm_rv_n, true_and, and_true, if_true, if_false, not_true_eq_false, not_false_eq_true, nI_add, nz_0, nz_lt0, nz_0le, nz_0lt, nz_le0, nz_lt, nz_le, nz_eq, nz_cl, nz_in, nz_sub, nz_m1, pk_mul, set_o, set_ne, up_ne, up_set, n1_1, true_or, or_true, n1_01, n0_01, bI_01, bI_01b, bI_0, isSc1, isSc3, isSc5, ln_2, ln_4, ln_6, ln_8, ln_10, ln_11, ln_12, ln_13, ln_14, ln_16, ln_17, ln_18, ln_19, ln_20, ln_21, ln_23, ln_24, ln_25, ln_27, ln_28, ln_29, Nat.one_ne_zero, Nat.reduceEqDiff, Nat.zero_ne_one, Nat.lt_irrefl, h30]
    refine z_cell s hV (by omega) (fun y hy => ?_)
    have hm2 := Nat.mod_lt y (show 0 < 2 by decide)
    rcases (show y % 2 = 0 ∨ y % 2 = 1 by omega) with r | r
    · simp (disch := first | assumption | exact isSc1 | exact isSc3 | exact isSc5 | decide | omega) only [iL_copied_105, iL_copied_106, iL_copied_107, iL_copied_108, iL_copied_111, iL_copied_112, iL_copied_115, iL_copied_116, iL_copied_118, iL_copied_119, iL_copied_120, iL_copied_121, iL_copied_122, iL_copied_124, iL_copied_127, iL_copied_128, iL_copied_131, iL_copied_132, iL_copied_133, Nat.reduceAdd, Nat.reduceSub, Nat.reduceMul, Nat.reduceLeDiff, mm_rv_s, mm_rv_n, true_and, and_true, if_true, if_false, not_true_eq_false, not_false_eq_true, nI_add, nz_0, nz_lt0, nz_0le, nz_0lt, nz_le0, nz_lt, nz_le, nz_eq, nz_cl, nz_in, nz_sub, nz_m1, pk_mul, set_o, set_ne, up_ne, up_set, n1_1, true_or, or_true, n1_01, n0_01, bI_01, bI_01b, bI_0, isSc1, isSc3, isSc5, ln_2, ln_4, ln_6, ln_8, ln_10, ln_11, ln_12, ln_13, ln_14, ln_16, ln_17, ln_18, ln_19, ln_20, ln_21, ln_23, ln_24, ln_25, ln_27, ln_28, ln_29, Nat.one_ne_zero, Nat.reduceEqDiff, Nat.zero_ne_one, Nat.lt_irrefl, pk_rem, r, n0_0]
      obtain ⟨G, t1, t2⟩ := twin_try (a := 0) hv h30 (show 2 * (B / 2) ≤ B by omega) hin
      have ep := (ph_val (a := 0) hv (show 2 * (B / 2) ≤ B by omega) hin n' (Nat.le_refl n')).1
      refine z_copy s (f := 0) (l := B / 2) (o := B / 2) (a := 0) (r := 0) (by omega) (by omega) (by omega) (by omega) (by omega) t1 (by omega) (fun M2 s2 => ?_)
      rw [ep]
      simp only [mm_rv_s]
      exact cp_after (N := 0) (b := false) rfl (Or.inl rfl) s2 h3 s.2.1.1 h30 (by omega) (by omega) (fun ho => al_all (a := 0) hv s2.1.1 (by omega) hin t2 ho) (fun M3 h4 H4 s4 h43 => hQ M3 n' g' h4 H4 s4 h43)
    · simp (disch := first | assumption | exact isSc1 | exact isSc3 | exact isSc5 | decide | omega) only [iL_copied_105, iL_copied_106, iL_copied_107, iL_copied_108, iL_copied_111, iL_copied_112, iL_copied_115, iL_copied_116, iL_copied_118, iL_copied_119, iL_copied_120, iL_copied_121, iL_copied_122, iL_copied_124, iL_copied_127, iL_copied_128, iL_copied_131, iL_copied_132, iL_copied_133, Nat.reduceAdd, Nat.reduceSub, Nat.reduceMul, Nat.reduceLeDiff, mm_rv_s, mm_rv_n, true_and, and_true, if_true, if_false, not_true_eq_false, not_false_eq_true, nI_add, nz_0, nz_lt0, nz_0le, nz_0lt, nz_le0, nz_lt, nz_le, nz_eq, nz_cl, nz_in, nz_sub, nz_m1, pk_mul, set_o, set_ne, up_ne, up_set, n1_1, true_or, or_true, n1_01, n0_01, bI_01, bI_01b, bI_0, isSc1, isSc3, isSc5, ln_2, ln_4, ln_6, ln_8, ln_10, ln_11, ln_12, ln_13, ln_14, ln_16, ln_17, ln_18, ln_19, ln_20, ln_21, ln_23, ln_24, ln_25, ln_27, ln_28, ln_29, Nat.one_ne_zero, Nat.reduceEqDiff, Nat.zero_ne_one, Nat.lt_irrefl, pk_rem, r, n1_0]
      obtain ⟨G, t1, t2⟩ := twin_try (a := 1) hv h30 (show 2 * (B / 2) ≤ B by omega) hin
      have ep := (ph_val (a := 1) hv (show 2 * (B / 2) ≤ B by omega) hin n' (Nat.le_refl n')).1
      refine z_copy s (f := 0) (l := B / 2) (o := B / 2) (a := 1) (r := 0) (by omega) (by omega) (by omega) (by omega) (by omega) t1 (by omega) (fun M2 s2 => ?_)
      rw [ep]
      simp only [mm_rv_s]
      exact cp_after (N := 0) (b := true) rfl (Or.inr rfl) s2 h3 s.2.1.1 h30 (by omega) (by omega) (fun ho => al_all (a := 1) hv s2.1.1 (by omega) hin t2 ho) (fun M3 h4 H4 s4 h43 => hQ M3 n' g' h4 H4 s4 h43)
  · simp (disch := first | assumption | exact isSc1 | exact isSc3 | exact isSc5 | decide | omega) only [iL_copied_93, iL_copied_95, iL_copied_98, iL_copied_99, Nat.reduceAdd, Nat.reduceSub, Nat.reduceMul, Nat.reduceLeDiff, mm_rv_s, mm_rv_n, true_and, and_true, if_true, if_false, not_true_eq_false, not_false_eq_true, nI_add, nz_0, nz_lt0, nz_0le, nz_0lt, nz_le0, nz_lt, nz_le, nz_eq, nz_cl, nz_in, nz_sub, nz_m1, pk_mul, set_o, set_ne, up_ne, up_set, n1_1, true_or, or_true, n1_01, n0_01, bI_01, bI_01b, bI_0, isSc1, isSc3, isSc5, ln_2, ln_4, ln_6, ln_8, ln_10, ln_11, ln_12, ln_13, ln_14, ln_16, ln_17, ln_18, ln_19, ln_20, ln_21, ln_23, ln_24, ln_25, ln_27, ln_28, ln_29, Nat.one_ne_zero, Nat.reduceEqDiff, Nat.zero_ne_one, Nat.lt_irrefl, h30]
    exact hQ M1 n' g' h' H' s h3
end CPD
