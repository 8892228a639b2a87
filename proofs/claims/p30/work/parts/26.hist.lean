/-! THE HISTORIES -/
abbrev St : Type := Nat × Nat × Nat × (Nat → Sg)
def hC (f : Nat → Int32) (k : Nat) (S : St) : Prop := f (63 * k) = nI S.1 ∧ f (63 * k + 1) = nI S.2.1 ∧ f (63 * k + 2) = nI S.2.2.1 ∧ ∀ i : Nat, i < S.2.2.1 → f (63 * k + 3 + i) = nI (pk (S.2.2.2 i))
def hD (f : Nat → Int32) (k : Nat) (S : St) : Prop := isD (fun x => f (723 * k + x)) S.1 S.2.1 S.2.2.1 S.2.2.2
section HIST
variable {B L n h : Nat} {g : Nat → Sg} {M : mm_M} {Q : mm_Q}
theorem p_keep_tail {hh : Nat} {M1 : mm_M} {l3 : Option mm_V} (hC0 : isC M1 1 B L n g) (hn : n ≤ 60) (hsz : M1 7 0 = nI hh) (hhh : hh ≤ 5) {l2 : Option mm_V}
    (hQ : ∀ f2, hC f2 hh (B, L, n, g) → (∀ x, x < 63 * hh → f2 x = M1 8 x) → Q none (mm_up (mm_set M1 8 f2) 7 0 (nI (hh + 1)))) : wp 3 36 [some (.inr 7), some (.inr 1), l2, l3] [] M1 Q := by
  obtain ⟨c0, c1, c2, c3⟩ := hC0
  simp (disch := first | assumption | exact isSc1 | exact isSc3 | exact isSc5 | decide | omega) only [iX1_keep_36, iX1_keep_37, iX1_keep_40, iX1_keep_42, iX1_keep_43, iX1_keep_44, iX1_keep_45, iX1_keep_48, iX1_keep_49, iX1_keep_50, iX1_keep_51, iX1_keep_52, iX1_keep_55, iX1_keep_56, iX1_keep_57, iX1_keep_60, iX1_keep_61, iX1_keep_62, iX1_keep_63, iX1_keep_64, iX1_keep_67, iX1_keep_68, iX1_keep_69, iX1_keep_72, iX1_keep_73, iX1_keep_74, iX1_keep_75, iX1_keep_76, iX1_keep_79, iX1_keep_80, iX1_keep_81, Nat.reduceAdd, Nat.reduceSub, Nat.reduceMul, Nat.reduceLeDiff, mm_rv_s, mm_rv_n, true_and, and_true, if_true, if_false, not_true_eq_false, not_false_eq_true, nI_add, nz_0, nz_lt0, nz_0le, nz_0lt, nz_le0, nz_lt, nz_le, nz_eq, nz_cl, nz_in, nz_sub, nz_m1, pk_mul, set_o, set_ne, up_ne, up_set, n1_1, true_or, or_true, n1_01, n0_01, bI_01, bI_01b, bI_0, isSc1, isSc3, isSc5, ln_2, ln_4, ln_6, ln_8, ln_10, ln_11, ln_12, ln_13, ln_14, ln_16, ln_17, ln_18, ln_19, ln_20, ln_21, ln_23, ln_24, ln_25, ln_27, ln_28, ln_29, hsz, up_as_set M1 8, c0, c1, c2]
  have loop : ∀ d i : Nat, i + d = n → ∀ f : Nat → Int32, f (hh * 63) = nI B → f (hh * 63 + 1) = nI L → f (hh * 63 + 2) = nI n → (∀ j, j < i → f (hh * 63 + 3 + j) = nI (pk (g j))) → (∀ x, x < 63 * hh → f x = M1 8 x) → wp 3 82 [some (.inr 7), some (.inr 1), some (.inl (nI (hh * 63))), some (.inl (nI i))] [] (mm_set M1 8 f) Q := by
    intro d
    induction d with
    | zero =>
      intro i hi f f0 f1 f2 f3 f4
      have hi : i = n := by omega
      subst hi
      rw [iX1_keep_82]
      simp (disch := first | assumption | exact isSc1 | exact isSc3 | exact isSc5 | decide | omega) only [iX1_keep_83, iX1_keep_84, iX1_keep_87, iX1_keep_118, iX1_keep_119, iX1_keep_120, iX1_keep_123, iX1_keep_124, iX1_keep_125, iX1_keep_128, Nat.reduceAdd, Nat.reduceSub, Nat.reduceMul, Nat.reduceLeDiff, mm_rv_s, mm_rv_n, true_and, and_true, if_true, if_false, not_true_eq_false, not_false_eq_true, nI_add, nz_0, nz_lt0, nz_0le, nz_0lt, nz_le0, nz_lt, nz_le, nz_eq, nz_cl, nz_in, nz_sub, nz_m1, pk_mul, set_o, set_ne, up_ne, up_set, n1_1, true_or, or_true, n1_01, n0_01, bI_01, bI_01b, bI_0, isSc1, isSc3, isSc5, ln_2, ln_4, ln_6, ln_8, ln_10, ln_11, ln_12, ln_13, ln_14, ln_16, ln_17, ln_18, ln_19, ln_20, ln_21, ln_23, ln_24, ln_25, ln_27, ln_28, ln_29, c2, hsz, Nat.le_refl]
      refine hQ f ⟨?_, ?_, ?_, fun j hj => ?_⟩ f4
      · rw [← f0]; congr 1; omega
      · rw [← f1]; congr 1; omega
      · rw [← f2]; congr 1; omega
      · rw [← f3 j hj]; congr 1; omega
    | succ d ih =>
      intro i hi f f0 f1 f2 f3 f4
      rw [iX1_keep_82]
      simp (disch := first | assumption | exact isSc1 | exact isSc3 | exact isSc5 | decide | omega) only [iX1_keep_83, iX1_keep_84, iX1_keep_87, iX1_keep_90, iX1_keep_91, iX1_keep_93, iX1_keep_96, iX1_keep_97, iX1_keep_100, iX1_keep_101, iX1_keep_102, iX1_keep_103, iX1_keep_104, iX1_keep_105, iX1_keep_106, iX1_keep_109, iX1_keep_110, iX1_keep_111, iX1_keep_112, iX1_keep_115, Nat.reduceAdd, Nat.reduceSub, Nat.reduceMul, Nat.reduceLeDiff, mm_rv_s, mm_rv_n, true_and, and_true, if_true, if_false, not_true_eq_false, not_false_eq_true, nI_add, nz_0, nz_lt0, nz_0le, nz_0lt, nz_le0, nz_lt, nz_le, nz_eq, nz_cl, nz_in, nz_sub, nz_m1, pk_mul, set_o, set_ne, up_ne, up_set, n1_1, true_or, or_true, n1_01, n0_01, bI_01, bI_01b, bI_0, isSc1, isSc3, isSc5, ln_2, ln_4, ln_6, ln_8, ln_10, ln_11, ln_12, ln_13, ln_14, ln_16, ln_17, ln_18, ln_19, ln_20, ln_21, ln_23, ln_24, ln_25, ln_27, ln_28, ln_29, c2, show ¬ n ≤ i by omega, show ¬ 60 ≤ i by omega]
      refine ih (i + 1) (by omega) _ ?_ ?_ ?_ (fun j hj => ?_) (fun x hx => ?_)
      · rw [un _ _ _ _ (by omega), f0]
      · rw [un _ _ _ _ (by omega), f1]
      · rw [un _ _ _ _ (by omega), f2]
      · by_cases hj2 : j = i
        · subst hj2; rw [us]; exact c3 j (by omega)
        · rw [un _ _ _ _ (by omega), f3 j (by omega)]
      · rw [un _ _ _ _ (by omega), f4 x hx]
  refine loop n 0 (by omega) _ ?_ ?_ ?_ (fun j hj => absurd hj (by omega)) (fun x hx => ?_)
  · rw [un _ _ _ _ (by omega), un _ _ _ _ (by omega)]; exact us _ _ _
  · rw [un _ _ _ _ (by omega), us]
  · rw [us]
  · rw [un _ _ _ _ (by omega), un _ _ _ _ (by omega)]; exact un _ _ _ _ (by omega)
def pushH (h : Nat) (H : Nat → St) (S : St) : Nat → St := fun k => if h = 6 then (if k < 5 then H (k + 1) else S) else (if k < h then H k else S)
def pushN (h : Nat) : Nat := if h = 6 then 6 else h + 1
theorem p_keep {H : Nat → St} (hC0 : isC M 1 B L n g) (hn : n ≤ 60) (hsz : M 7 0 = nI h) (hhh : h ≤ 6) (hH : ∀ k, k < h → hC (M 8) k (H k)) (hHn : ∀ k, k < h → (H k).2.2.1 ≤ 60)
    (hQ : ∀ f2, (∀ k, k < pushN h → hC f2 k (pushH h H (B, L, n, g) k)) → Q none (mm_up (mm_set M 8 f2) 7 0 (nI (pushN h)))) : wc 3 [.inr 7, .inr 1] M Q := by
  by_cases h6 : h = 6
  · subst h6
    have e1 : ¬ nI 63 < 0 := by decide
    have e2 : ¬ nI 0 < 0 := by decide
    have e3 : ¬ nI 315 < 0 := by decide
    simp (disch := first | assumption | exact isSc1 | exact isSc3 | exact isSc5 | decide | omega) only [eX1_keep, iX1_keep_0, iX1_keep_1, iX1_keep_4, iX1_keep_6, iX1_keep_9, iX1_keep_10, iX1_keep_13, iX1_keep_15, iX1_keep_16, iX1_keep_19, iX1_keep_20, iX1_keep_23, iX1_keep_26, iX1_keep_27, iX1_keep_28, iX1_keep_31, iX1_keep_32, iX1_keep_33, Nat.reduceAdd, Nat.reduceSub, Nat.reduceMul, Nat.reduceLeDiff, mm_rv_s, mm_rv_n, true_and, and_true, if_true, if_false, not_true_eq_false, not_false_eq_true, nI_add, nz_0, nz_lt0, nz_0le, nz_0lt, nz_le0, nz_lt, nz_le, nz_eq, nz_cl, nz_in, nz_sub, nz_m1, pk_mul, set_o, set_ne, up_ne, up_set, n1_1, true_or, or_true, n1_01, n0_01, bI_01, bI_01b, bI_0, isSc1, isSc3, isSc5, ln_2, ln_4, ln_6, ln_8, ln_10, ln_11, ln_12, ln_13, ln_14, ln_16, ln_17, ln_18, ln_19, ln_20, ln_21, ln_23, ln_24, ln_25, ln_27, ln_28, ln_29, hsz, e1, e2, e3, Nat.zero_add]
    refine p_keep_tail (hh := 5) (M1 := mm_up (mm_set M 8 (va_cpy (M 8) (M 8) 63 0 315)) 7 0 (nI (6 - 1))) hC0 hn rfl (by decide) (fun f2 hf hx => ?_)
    have e4 : mm_up (mm_set (mm_up (mm_set M 8 (va_cpy (M 8) (M 8) 63 0 315)) 7 0 (nI (6 - 1))) 8 f2) 7 0 (nI (5 + 1)) = mm_up (mm_set M 8 f2) 7 0 (nI 6) := by
      funext q j
      unfold mm_up mm_set upd
      by_cases q7 : q = 7
      · subst q7; simp; split <;> rfl
      · by_cases q8 : q = 8 <;> simp [q7, q8]
    rw [e4]
    refine hQ f2 (fun k hk => ?_)
    have hk : k < 6 := hk
    unfold pushH
    rw [if_pos rfl]
    by_cases hk5 : k < 5
    · rw [if_pos hk5]
      obtain ⟨a0, a1, a2, a3⟩ := hH (k + 1) (by omega)
      have hn1 := hHn (k + 1) (by omega)
      have tr : ∀ x, x < 315 → f2 x = M 8 (63 + x) := by
        intro x hx2
        rw [hx x (by omega), up_ne _ _ _ (by decide), set_o, pk_cpy_in (by omega) (by omega)]
        rfl
      refine ⟨?_, ?_, ?_, fun i hi => ?_⟩
      · rw [tr _ (by omega), ← a0]; congr 1; omega
      · rw [tr _ (by omega), ← a1]; congr 1; omega
      · rw [tr _ (by omega), ← a2]; congr 1; omega
      · rw [tr _ (by omega), ← a3 i hi]; congr 1; omega
    · rw [if_neg hk5]
      have : k = 5 := by omega
      subst this
      exact hf
  · simp (disch := first | assumption | exact isSc1 | exact isSc3 | exact isSc5 | decide | omega) only [eX1_keep, iX1_keep_0, iX1_keep_1, iX1_keep_4, iX1_keep_6, Nat.reduceAdd, Nat.reduceSub, Nat.reduceMul, Nat.reduceLeDiff, mm_rv_s, mm_rv_n, true_and, and_true, if_true, if_false, not_true_eq_false, not_false_eq_true, nI_add, nz_0, nz_lt0, nz_0le, nz_0lt, nz_le0, nz_lt, nz_le, nz_eq, nz_cl, nz_in, nz_sub, nz_m1, pk_mul, set_o, set_ne, up_ne, up_set, n1_1, true_or, or_true, n1_01, n0_01, bI_01, bI_01b, bI_0, isSc1, isSc3, isSc5, ln_2, ln_4, ln_6, ln_8, ln_10, ln_11, ln_12, ln_13, ln_14, ln_16, ln_17, ln_18, ln_19, ln_20, ln_21, ln_23, ln_24, ln_25, ln_27, ln_28, ln_29, hsz, show h ≠ 6 from h6, h6]
    refine p_keep_tail (hh := h) hC0 hn hsz (by omega) (fun f2 hf hx => ?_)
    have e4 : nI (h + 1) = nI (pushN h) := by unfold pushN; rw [if_neg h6]
    rw [e4]
    refine hQ f2 (fun k hk => ?_)
    have hk : k < h + 1 := by unfold pushN at hk; rw [if_neg h6] at hk; exact hk
    unfold pushH
    rw [if_neg h6]
    by_cases hk5 : k < h
    · rw [if_pos hk5]
      obtain ⟨a0, a1, a2, a3⟩ := hH k hk5
      have hn1 := hHn k hk5
      refine ⟨?_, ?_, ?_, fun i hi => ?_⟩
      · rw [hx _ (by omega), a0]
      · rw [hx _ (by omega), a1]
      · rw [hx _ (by omega), a2]
      · rw [hx _ (by omega), a3 i hi]
    · rw [if_neg hk5]
      have : k = h := by omega
      subst this
      exact hf
end HIST

