/-! removeSign -/
def delG (g : Nat → Sg) (k : Nat) : Nat → Sg := fun i => if i < k then g i else g (i + 1)
theorem val_del {B n k : Nat} {g : Nat → Sg} (hv : Val B n g) (hk : k < n) : Val B (n - 1) (delG g k) := by
  obtain ⟨w1, w2, w3, v1, v2, v3⟩ := hv
  have e : ∀ i, i < n - 1 → (i < k ∧ delG g k i = g i) ∨ (k ≤ i ∧ delG g k i = g (i + 1)) := by
    intro i hi
    unfold delG
    by_cases h : i < k
    · exact Or.inl ⟨h, if_pos h⟩
    · exact Or.inr ⟨by omega, if_neg h⟩
  refine ⟨w1, w2, by omega, fun i hi => ?_, fun i j hij hj => ?_, fun i j hij hj hc => ?_⟩
  · rcases e i hi with ⟨h, e1⟩ | ⟨h, e1⟩ <;> rw [e1]
    · exact v1 i (by omega)
    · exact v1 (i + 1) (by omega)
  · rcases e i (by omega) with ⟨h, e1⟩ | ⟨h, e1⟩ <;> rcases e j hj with ⟨h2, e2⟩ | ⟨h2, e2⟩ <;> rw [e1, e2]
    · exact v2 i j hij (by omega)
    · exact v2 i (j + 1) (by omega) (by omega)
    · omega
    · exact v2 (i + 1) (j + 1) (by omega) (by omega)
  · rcases e i (by omega) with ⟨h, e1⟩ | ⟨h, e1⟩ <;> rcases e j hj with ⟨h2, e2⟩ | ⟨h2, e2⟩ <;> rw [e1, e2] at hc ⊢
    · exact v3 i j hij (by omega) hc
    · exact v3 i (j + 1) (by omega) (by omega) hc
    · omega
    · exact v3 (i + 1) (j + 1) (by omega) (by omega) hc
section REM
variable {M : mm_M} {Q : mm_Q} {B L n h : Nat} {g : Nat → Sg} {H : Nat → St} {s : Sg}
theorem p_takeOut (hC : isC M 1 B L n g) (hn : n ≤ 60) {k : Nat} (hk : k < n) (hQ : ∀ f2, (∀ i, i < n - 1 → f2 i = nI (pk (delG g k i))) → Q none (mm_up (mm_set M 2 f2) 1 2 (nI (n - 1)))) : wc 11 [.inr 1, .inl (nI k)] M Q := by
  obtain ⟨x0, x1, x2, x3⟩ := hC
  simp (disch := first | assumption | exact isSc1 | exact isSc3 | exact isSc5 | decide | omega) only [eX2_takeOut, iX2_takeOut_0, iX2_takeOut_1, iX2_takeOut_4, iX2_takeOut_5, iX2_takeOut_6, iX2_takeOut_9, iX2_takeOut_12, iX2_takeOut_13, iX2_takeOut_14, Nat.reduceAdd, Nat.reduceSub, Nat.reduceMul, Nat.reduceLeDiff, mm_rv_s, mm_rv_n, true_and, and_true, if_true, if_false, not_true_eq_false, not_false_eq_true, nI_add, nz_0, nz_lt0, nz_0le, nz_0lt, nz_le0, nz_lt, nz_le, nz_eq, nz_cl, nz_in, nz_sub, nz_m1, pk_mul, set_o, set_ne, up_ne, up_set, n1_1, true_or, or_true, n1_01, n0_01, bI_01, bI_01b, bI_0, isSc1, isSc3, isSc5, ln_2, ln_4, ln_6, ln_8, ln_10, ln_11, ln_12, ln_13, ln_14, ln_16, ln_17, ln_18, ln_19, ln_20, ln_21, ln_23, ln_24, ln_25, ln_27, ln_28, ln_29, x2, hk, show ¬ n ≤ k by omega]
  have loop : ∀ d i : Nat, i + d = n - 1 → k ≤ i → ∀ f : Nat → Int32, (∀ j, j < i → f j = nI (pk (delG g k j))) → (∀ j, i ≤ j → j < n → f j = nI (pk (g j))) → wp 11 15 [some (.inr 1), some (.inl (nI k)), some (.inl (nI i))] [] (mm_set M 2 f) Q := by
    intro d
    induction d with
    | zero =>
      intro i hi hki f hf hf2
      have hi : i = n - 1 := by omega
      subst hi
      rw [iX2_takeOut_15]
      simp (disch := first | assumption | exact isSc1 | exact isSc3 | exact isSc5 | decide | omega) only [iX2_takeOut_16, iX2_takeOut_17, iX2_takeOut_20, iX2_takeOut_21, iX2_takeOut_22, iX2_takeOut_45, iX2_takeOut_46, iX2_takeOut_47, iX2_takeOut_50, iX2_takeOut_51, iX2_takeOut_52, iX2_takeOut_55, Nat.reduceAdd, Nat.reduceSub, Nat.reduceMul, Nat.reduceLeDiff, mm_rv_s, mm_rv_n, true_and, and_true, if_true, if_false, not_true_eq_false, not_false_eq_true, nI_add, nz_0, nz_lt0, nz_0le, nz_0lt, nz_le0, nz_lt, nz_le, nz_eq, nz_cl, nz_in, nz_sub, nz_m1, pk_mul, set_o, set_ne, up_ne, up_set, n1_1, true_or, or_true, n1_01, n0_01, bI_01, bI_01b, bI_0, isSc1, isSc3, isSc5, ln_2, ln_4, ln_6, ln_8, ln_10, ln_11, ln_12, ln_13, ln_14, ln_16, ln_17, ln_18, ln_19, ln_20, ln_21, ln_23, ln_24, ln_25, ln_27, ln_28, ln_29, x2, Nat.le_refl]
      exact hQ f hf
    | succ d ih =>
      intro i hi hki f hf hf2
      rw [iX2_takeOut_15]
      simp (disch := first | assumption | exact isSc1 | exact isSc3 | exact isSc5 | decide | omega) only [iX2_takeOut_16, iX2_takeOut_17, iX2_takeOut_20, iX2_takeOut_21, iX2_takeOut_22, iX2_takeOut_25, iX2_takeOut_26, iX2_takeOut_29, iX2_takeOut_30, iX2_takeOut_31, iX2_takeOut_34, iX2_takeOut_35, iX2_takeOut_36, iX2_takeOut_37, iX2_takeOut_38, iX2_takeOut_39, iX2_takeOut_42, Nat.reduceAdd, Nat.reduceSub, Nat.reduceMul, Nat.reduceLeDiff, mm_rv_s, mm_rv_n, true_and, and_true, if_true, if_false, not_true_eq_false, not_false_eq_true, nI_add, nz_0, nz_lt0, nz_0le, nz_0lt, nz_le0, nz_lt, nz_le, nz_eq, nz_cl, nz_in, nz_sub, nz_m1, pk_mul, set_o, set_ne, up_ne, up_set, n1_1, true_or, or_true, n1_01, n0_01, bI_01, bI_01b, bI_0, isSc1, isSc3, isSc5, ln_2, ln_4, ln_6, ln_8, ln_10, ln_11, ln_12, ln_13, ln_14, ln_16, ln_17, ln_18, ln_19, ln_20, ln_21, ln_23, ln_24, ln_25, ln_27, ln_28, ln_29, x2, show ¬ n - 1 ≤ i by omega]
      refine ih (i + 1) (by omega) (by omega) _ (fun j hj => ?_) (fun j hj hjn => ?_)
      · by_cases hji : j = i
        · subst hji
          rw [us, hf2 _ (by omega) (by omega)]
          unfold delG
          rw [if_neg (by omega)]
        · rw [un _ _ _ _ hji]; exact hf j (by omega)
      · rw [un _ _ _ _ (by omega)]; exact hf2 j (by omega) hjn
  have := loop (n - 1 - k) k (by omega) (Nat.le_refl k) (M 2) (fun j hj => by rw [x3 j (by omega)]; unfold delG; rw [if_pos hj]) (fun j _ hj => x3 j hj)
  rw [set_id] at this
  exact this
theorem p_removeSign (hcur : Cur M B L n g) (hh : Hst M h H) (v : Int32) (h1 : ¬ (nI 0 ≤ v ∧ v ≤ nI n - nI 1) → Q (some (-1001)) M)
    (h2 : ∀ k, v = nI k → k < n → ∀ f2 f3, (∀ k, k < pushN h → hC f2 k (pushH h H (B, L, n, g) k)) → (∀ i, i < n - 1 → f3 i = nI (pk (delG g k i))) → Q (some (nI (n - 1))) (mm_up (mm_set (mm_up (mm_set M 8 f2) 7 0 (nI (pushN h))) 2 f3) 1 2 (nI (n - 1)))) : wc 67 [.inr 0, .inl v] M Q := by
  have x2 := hcur.2.2.2.2.2.1
  have hn := hcur.2.1
  simp (disch := first | assumption | exact isSc1 | exact isSc3 | exact isSc5 | decide | omega) only [eX7_removeSign, iX7_removeSign_0, iX7_removeSign_1, iX7_removeSign_2, iX7_removeSign_3, iX7_removeSign_6, iX7_removeSign_9, iX7_removeSign_10, iX7_removeSign_11, p_isWithin, x2, isSc1, ln_2, mm_rv_s, true_and]
  by_cases hr : nI 0 ≤ v ∧ v ≤ nI n - nI 1
  · obtain ⟨k, rfl, hk⟩ := in_upto (by omega) hr
    simp (disch := first | assumption | exact isSc1 | exact isSc3 | exact isSc5 | decide | omega) only [iX7_removeSign_14, iX7_removeSign_17, iX7_removeSign_20, iX7_removeSign_21, iX7_removeSign_22, iX7_removeSign_25, iX7_removeSign_26, iX7_removeSign_29, Nat.reduceAdd, Nat.reduceSub, Nat.reduceMul, Nat.reduceLeDiff, mm_rv_s, mm_rv_n, true_and, and_true, if_true, if_false, not_true_eq_false, not_false_eq_true, nI_add, nz_0, nz_lt0, nz_0le, nz_0lt, nz_le0, nz_lt, nz_le, nz_eq, nz_cl, nz_in, nz_sub, nz_m1, pk_mul, set_o, set_ne, up_ne, up_set, n1_1, true_or, or_true, n1_01, n0_01, bI_01, bI_01b, bI_0, isSc1, isSc3, isSc5, ln_2, ln_4, ln_6, ln_8, ln_10, ln_11, ln_12, ln_13, ln_14, ln_16, ln_17, ln_18, ln_19, ln_20, ln_21, ln_23, ln_24, ln_25, ln_27, ln_28, ln_29, show 0 ≤ k ∧ k ≤ n - 1 by omega, show k ≤ n - 1 by omega, Nat.zero_le, and_self, decide_true, Bool.true_eq_false]
    refine x_keep hcur hh (fun f2 hf => ?_)
    simp (disch := first | assumption | exact isSc1 | exact isSc3 | exact isSc5 | decide | omega) only [iX7_removeSign_32, iX7_removeSign_33, iX7_removeSign_36, iX7_removeSign_37, Nat.reduceAdd, Nat.reduceSub, Nat.reduceMul, Nat.reduceLeDiff, mm_rv_s, mm_rv_n, true_and, and_true, if_true, if_false, not_true_eq_false, not_false_eq_true, nI_add, nz_0, nz_lt0, nz_0le, nz_0lt, nz_le0, nz_lt, nz_le, nz_eq, nz_cl, nz_in, nz_sub, nz_m1, pk_mul, set_o, set_ne, up_ne, up_set, n1_1, true_or, or_true, n1_01, n0_01, bI_01, bI_01b, bI_0, isSc1, isSc3, isSc5, ln_2, ln_4, ln_6, ln_8, ln_10, ln_11, ln_12, ln_13, ln_14, ln_16, ln_17, ln_18, ln_19, ln_20, ln_21, ln_23, ln_24, ln_25, ln_27, ln_28, ln_29]
    refine p_takeOut (isC_cong (M := M) (by rw [up_ne _ _ _ (by decide), set_ne _ _ (by decide)]) (by rw [up_ne _ _ _ (by decide), set_ne _ _ (by decide)]) hcur.2.2.2) hn hk (fun f3 hf3 => ?_)
    simp (disch := first | assumption | exact isSc1 | exact isSc3 | exact isSc5 | decide | omega) only [iX7_removeSign_40, iX7_removeSign_41, iX7_removeSign_44, iX7_removeSign_47, Nat.reduceAdd, Nat.reduceSub, Nat.reduceMul, Nat.reduceLeDiff, mm_rv_s, mm_rv_n, true_and, and_true, if_true, if_false, not_true_eq_false, not_false_eq_true, nI_add, nz_0, nz_lt0, nz_0le, nz_0lt, nz_le0, nz_lt, nz_le, nz_eq, nz_cl, nz_in, nz_sub, nz_m1, pk_mul, set_o, set_ne, up_ne, up_set, n1_1, true_or, or_true, n1_01, n0_01, bI_01, bI_01b, bI_0, isSc1, isSc3, isSc5, ln_2, ln_4, ln_6, ln_8, ln_10, ln_11, ln_12, ln_13, ln_14, ln_16, ln_17, ln_18, ln_19, ln_20, ln_21, ln_23, ln_24, ln_25, ln_27, ln_28, ln_29, up_o, us]
    exact h2 k rfl hk f2 f3 hf hf3
  · simp (disch := first | assumption | exact isSc1 | exact isSc3 | exact isSc5 | decide | omega) only [iX7_removeSign_14, iX7_removeSign_17, iX7_removeSign_20, Nat.reduceAdd, Nat.reduceSub, Nat.reduceMul, Nat.reduceLeDiff, mm_rv_s, mm_rv_n, true_and, and_true, if_true, if_false, not_true_eq_false, not_false_eq_true, nI_add, nz_0, nz_lt0, nz_0le, nz_0lt, nz_le0, nz_lt, nz_le, nz_eq, nz_cl, nz_in, nz_sub, nz_m1, pk_mul, set_o, set_ne, up_ne, up_set, n1_1, true_or, or_true, n1_01, n0_01, bI_01, bI_01b, bI_0, isSc1, isSc3, isSc5, ln_2, ln_4, ln_6, ln_8, ln_10, ln_11, ln_12, ln_13, ln_14, ln_16, ln_17, ln_18, ln_19, ln_20, ln_21, ln_23, ln_24, ln_25, ln_27, ln_28, ln_29, hr, decide_false]
    exact h1 hr
theorem z_removeSign {X V : Nat → Int32} {t : Nat} {c : Nat → Nat} {k : Nat} (s : Ste M X V B L n g h H t c) (hk : k < n) (hQ : ∀ M', Ste M' X V B L (n - 1) (delG g k) (pushN h) (pushH h H (B, L, n, g)) t c → Q (some (nI (n - 1))) M') : wc 67 [.inr 0, .inl (nI k)] M Q := by
  obtain ⟨hcur, hh, ht, hw, h42, h43⟩ := id s
  obtain ⟨hv, hn, hL, x0, x1, x2, x3⟩ := id hcur
  have r : nI 0 ≤ nI k ∧ nI k ≤ nI n - nI 1 := by
    rw [nz_sub _ _ (by omega)]
    simp (disch := omega) only [nz_le]
    omega
  refine p_removeSign hcur hh _ (fun hr => absurd r hr) (fun k2 hk2 hkn f2 f3 hf hf3 => hQ _ ?_)
  have ek : k = k2 := (nI_eq (by omega) (by omega)).mp hk2
  subst ek
  have sm : ∀ q, q ∉ [1, 2, 7, 8] → mm_up (mm_set (mm_up (mm_set M 8 f2) 7 0 (nI (pushN h))) 2 f3) 1 2 (nI (n - 1)) q = M q := fun q hq => by
    simp only [List.mem_cons, List.not_mem_nil, or_false, not_or] at hq
    rw [up_ne _ _ _ (by omega), set_ne _ _ (by omega), up_ne _ _ _ (by omega), set_ne _ _ (by omega)]
  refine change_ste s (by simp [mm_up, mm_set, upd]) ?_ ⟨val_del hv hkn, by omega, hL, ?_, ?_, by simp [mm_up, mm_set, upd], fun i hi => ?_⟩ (TK.of (fun q hq => sm q ?_))
  · have e : mm_up (mm_set (mm_up (mm_set M 8 f2) 7 0 (nI (pushN h))) 2 f3) 1 2 (nI (n - 1)) 8 = f2 := by simp [mm_up, mm_set]
    rw [e]; exact hf
  · rw [← x0]; simp [mm_up, mm_set, upd]
  · rw [← x1]; simp [mm_up, mm_set, upd]
  · rw [← hf3 i hi]; simp [mm_up, mm_set]
  · simp only [List.mem_cons, List.not_mem_nil, or_false] at hq
    rcases hq with rfl | rfl | rfl | rfl | rfl | rfl | rfl <;> decide
end REM
