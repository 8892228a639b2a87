/-! THE HISTORIES: taken back; the reference's -/
theorem isD_cong {d d' : Nat → Int32} {B L n : Nat} {g : Nat → Sg} (hn : n ≤ 120) (h : ∀ x, x < 723 → d' x = d x) (hD : isD d B L n g) : isD d' B L n g := by
  obtain ⟨a0, a1, a2, a3⟩ := hD
  refine ⟨by rw [h 0 (by decide), a0], by rw [h 1 (by decide), a1], by rw [h 2 (by decide), a2], fun i hi => ?_⟩
  obtain ⟨b1, b2, b3, b4, b5, b6⟩ := a3 i hi
  exact ⟨by rw [h _ (by omega), b1], by rw [h _ (by omega), b2], by rw [h _ (by omega), b3], by rw [h _ (by omega), b4], by rw [h _ (by omega), b5], by rw [h _ (by omega), b6]⟩
section HIST2
variable {B L n h : Nat} {g : Nat → Sg} {M : mm_M} {Q : mm_Q}
theorem p_restore (hsz : M 7 0 = nI (h + 1)) (hhh : h ≤ 5) (hH : hC (M 8) h (B, L, n, g)) (hn : n ≤ 60)
    (hQ : ∀ f2, (∀ i, i < n → f2 i = nI (pk (g i))) → Q none (mm_set (mm_up (mm_up (mm_up (mm_up M 7 0 (nI h)) 1 0 (nI B)) 1 1 (nI L)) 1 2 (nI n)) 2 f2)) : wc 4 [.inr 7, .inr 1] M Q := by
  obtain ⟨a0, a1, a2, a3⟩ := hH
  have e0 : M 8 (h * 63) = nI B := by rw [← a0]; congr 1; omega
  have e1 : M 8 (h * 63 + 1) = nI L := by rw [← a1]; congr 1; omega
  have e2 : M 8 (h * 63 + 2) = nI n := by rw [← a2]; congr 1; omega
  have eh : h + 1 - 1 = h := by omega
  have u7 : ∀ v, mm_up M 7 0 v 7 0 = v := fun v => by simp [mm_up, upd]
  simp (disch := first | assumption | exact isSc1 | exact isSc3 | exact isSc5 | decide | omega) only [eX1_restore, iX1_restore_0, iX1_restore_1, iX1_restore_4, iX1_restore_7, iX1_restore_8, iX1_restore_9, iX1_restore_10, iX1_restore_13, iX1_restore_14, iX1_restore_15, iX1_restore_18, iX1_restore_19, iX1_restore_22, iX1_restore_24, iX1_restore_25, iX1_restore_26, iX1_restore_27, iX1_restore_28, iX1_restore_31, iX1_restore_32, iX1_restore_33, iX1_restore_34, iX1_restore_35, iX1_restore_38, iX1_restore_39, iX1_restore_40, iX1_restore_43, iX1_restore_44, iX1_restore_45, iX1_restore_46, iX1_restore_47, iX1_restore_50, iX1_restore_51, iX1_restore_52, iX1_restore_55, iX1_restore_56, iX1_restore_57, iX1_restore_58, iX1_restore_59, iX1_restore_62, iX1_restore_63, Nat.reduceAdd, Nat.reduceSub, Nat.reduceMul, Nat.reduceLeDiff, mm_rv_s, mm_rv_n, true_and, and_true, if_true, if_false, not_true_eq_false, not_false_eq_true, nI_add, nz_0, nz_lt0, nz_0le, nz_0lt, nz_le0, nz_lt, nz_le, nz_eq, nz_cl, nz_in, nz_sub, nz_m1, pk_mul, set_o, set_ne, up_ne, up_set, n1_1, true_or, or_true, n1_01, n0_01, bI_01, bI_01b, bI_0, isSc1, isSc3, isSc5, ln_2, ln_4, ln_6, ln_8, ln_10, ln_11, ln_12, ln_13, ln_14, ln_16, ln_17, ln_18, ln_19, ln_20, ln_21, ln_23, ln_24, ln_25, ln_27, ln_28, ln_29, hsz, Nat.succ_ne_zero, eh, u7, e0, e1, e2, Nat.add_zero]
  have loop : ∀ (M1 : mm_M), M1 8 = M 8 → M1 1 2 = nI n → ∀ d i : Nat, i + d = n → ∀ f : Nat → Int32, (∀ j, j < i → f j = nI (pk (g j))) → (∀ f2, (∀ i, i < n → f2 i = nI (pk (g i))) → Q none (mm_set M1 2 f2)) → wp 4 64 [some (.inr 7), some (.inr 1), some (.inl (nI (h * 63))), some (.inl (nI i))] [] (mm_set M1 2 f) Q := by
    intro M1 h8 h12 d
    induction d with
    | zero =>
      intro i hi f hf hq
      have hi : i = n := by omega
      subst hi
      rw [iX1_restore_64]
      simp (disch := first | assumption | exact isSc1 | exact isSc3 | exact isSc5 | decide | omega) only [iX1_restore_65, iX1_restore_66, iX1_restore_69, iX1_restore_100, Nat.reduceAdd, Nat.reduceSub, Nat.reduceMul, Nat.reduceLeDiff, mm_rv_s, mm_rv_n, true_and, and_true, if_true, if_false, not_true_eq_false, not_false_eq_true, nI_add, nz_0, nz_lt0, nz_0le, nz_0lt, nz_le0, nz_lt, nz_le, nz_eq, nz_cl, nz_in, nz_sub, nz_m1, pk_mul, set_o, set_ne, up_ne, up_set, n1_1, true_or, or_true, n1_01, n0_01, bI_01, bI_01b, bI_0, isSc1, isSc3, isSc5, ln_2, ln_4, ln_6, ln_8, ln_10, ln_11, ln_12, ln_13, ln_14, ln_16, ln_17, ln_18, ln_19, ln_20, ln_21, ln_23, ln_24, ln_25, ln_27, ln_28, ln_29, h12, Nat.le_refl]
      exact hq f hf
    | succ d ih =>
      intro i hi f hf hq
      have e3 := a3 i (show i < n by omega)
      have e4 : M 8 (h * 63 + 3 + i) = nI (pk (g i)) := by rw [← e3]; congr 1; omega
      rw [iX1_restore_64]
      simp (disch := first | assumption | exact isSc1 | exact isSc3 | exact isSc5 | decide | omega) only [iX1_restore_65, iX1_restore_66, iX1_restore_69, iX1_restore_72, iX1_restore_73, iX1_restore_75, iX1_restore_78, iX1_restore_79, iX1_restore_82, iX1_restore_83, iX1_restore_84, iX1_restore_87, iX1_restore_88, iX1_restore_89, iX1_restore_90, iX1_restore_91, iX1_restore_92, iX1_restore_93, iX1_restore_94, iX1_restore_97, Nat.reduceAdd, Nat.reduceSub, Nat.reduceMul, Nat.reduceLeDiff, mm_rv_s, mm_rv_n, true_and, and_true, if_true, if_false, not_true_eq_false, not_false_eq_true, nI_add, nz_0, nz_lt0, nz_0le, nz_0lt, nz_le0, nz_lt, nz_le, nz_eq, nz_cl, nz_in, nz_sub, nz_m1, pk_mul, set_o, set_ne, up_ne, up_set, n1_1, true_or, or_true, n1_01, n0_01, bI_01, bI_01b, bI_0, isSc1, isSc3, isSc5, ln_2, ln_4, ln_6, ln_8, ln_10, ln_11, ln_12, ln_13, ln_14, ln_16, ln_17, ln_18, ln_19, ln_20, ln_21, ln_23, ln_24, ln_25, ln_27, ln_28, ln_29, h12, h8, show ¬ n ≤ i by omega, show ¬ 60 ≤ i by omega, e4]
      refine ih (i + 1) (by omega) _ (fun j hj => ?_) hq
      by_cases hj2 : j = i
      · subst hj2; rw [us]
      · rw [un _ _ _ _ hj2, hf j (by omega)]
  have fin := loop (mm_up (mm_up (mm_up (mm_up M 7 0 (nI h)) 1 0 (nI B)) 1 1 (nI L)) 1 2 (nI n)) (by rw [up_ne _ _ _ (by decide), up_ne _ _ _ (by decide), up_ne _ _ _ (by decide), up_ne _ _ _ (by decide)]) (by rw [up_o, us]) n 0 (by omega) (M 2) (fun j hj => absurd hj (by omega)) hQ
  have e5 : mm_up (mm_up (mm_up (mm_up M 7 0 (nI h)) 1 0 (nI B)) 1 1 (nI L)) 1 2 (nI n) 2 = M 2 := by rw [up_ne _ _ _ (by decide), up_ne _ _ _ (by decide), up_ne _ _ _ (by decide), up_ne _ _ _ (by decide)]
  rw [← e5, set_id] at fin
  exact fin
end HIST2

