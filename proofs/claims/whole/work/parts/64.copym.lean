/-! THE REFERENCE COPIES A PHRASE -/
def Kc (M M' : mm_M) : Prop := (∀ q, q ∉ [31, 33, 36, 37] → M' q = M q) ∧ ∀ x, x < 723 → M' 31 x = M 31 x
theorem Inv.kc {M M' : mm_M} (hI : Inv M) (k : Kc M M') : Inv M' := by
  have k1 : Kp M (mm_set (mm_set M 36 (M' 36)) 37 (M' 37)) := (Kp.set _ (by decide)).tr (Kp.set _ (by decide))
  refine (hI.kp k1).kf ⟨fun q hq => ?_, fun x _ => ?_, fun x hx => ?_⟩
  · by_cases h7 : q = 37
    · rw [h7, set_o]
    · rw [set_ne _ _ h7]
      by_cases h6 : q = 36
      · rw [h6, set_o]
      · rw [set_ne _ _ h6]
        simp only [List.mem_cons, List.not_mem_nil, or_false, not_or] at hq
        exact k.1 q (by simp only [List.mem_cons, List.not_mem_nil, or_false, not_or]; omega)
  · rw [set_ne _ _ (by decide), set_ne _ _ (by decide), k.1 30 (by decide)]
  · rw [set_ne _ _ (by decide), set_ne _ _ (by decide), k.2 x hx]
section CPM
variable {M : mm_M} {Q : mm_Q} {B L n h : Nat} {g : Nat → Sg} {H : Nat → St}
theorem mc_aside {a1 a2 a3 a4 a5 l6 l8 l9 l10 : Option mm_V} (hQ : ∀ A l7, (∀ x, x < 723 → A x = M 31 x) → wp 120 118 [some (.inr 30), a1, a2, a3, a4, a5, l6, l7, l8, l9, l10] [] (mm_set M 33 A) Q) : wp 120 90 [some (.inr 30), a1, a2, a3, a4, a5, l6, some (.inl (nI 0)), l8, l9, l10] [] M Q := by
  have loop : ∀ d i : Nat, i + d = 723 → ∀ f : Nat → Int32, (∀ x, x < i → f x = M 31 x) → wp 120 90 [some (.inr 30), a1, a2, a3, a4, a5, l6, some (.inl (nI i)), l8, l9, l10] [] (mm_set M 33 f) Q := by
    intro d
    induction d with
    | zero =>
      intro i hi f hf
      have hi : i = 723 := by omega
      subst hi
      rw [iX8_copyPhrase_90]
      simp (disch := first | assumption | exact isSc1 | exact isSc3 | exact isSc5 | decide | omega) only [iX8_copyPhrase_92, iX8_copyPhrase_95, Nat.reduceAdd, Nat.reduceSub, Nat.reduceMul, Nat.reduceLeDiff, mm_rv_s, mm_rv_n, true_and, and_true, if_true, if_false, not_true_eq_false, not_false_eq_true, nI_add, nz_0, nz_lt0, nz_0le, nz_0lt, nz_le0, nz_lt, nz_le, nz_eq, nz_cl, nz_in, nz_sub, nz_m1, pk_mul, set_o, set_ne, up_ne, up_set, n1_1, true_or, or_true, n1_01, n0_01, bI_01, bI_01b, bI_0, isSc1, isSc3, isSc5, ln_2, ln_4, ln_6, ln_8, ln_10, ln_11, ln_12, ln_13, ln_14, ln_16, ln_17, ln_18, ln_19, ln_20, ln_21, ln_23, ln_24, ln_25, ln_27, ln_28, ln_29, ln_31, ln_32, ln_33, ln_35, ln_36, ln_37, Nat.le_refl]
      exact hQ f _ hf
    | succ d ih =>
      intro i hi f hf
      rw [iX8_copyPhrase_90]
      simp (disch := first | assumption | exact isSc1 | exact isSc3 | exact isSc5 | decide | omega) only [iX8_copyPhrase_92, iX8_copyPhrase_95, iX8_copyPhrase_98, iX8_copyPhrase_99, iX8_copyPhrase_102, iX8_copyPhrase_104, iX8_copyPhrase_105, iX8_copyPhrase_108, iX8_copyPhrase_110, iX8_copyPhrase_111, iX8_copyPhrase_112, iX8_copyPhrase_115, Nat.reduceAdd, Nat.reduceSub, Nat.reduceMul, Nat.reduceLeDiff, mm_rv_s, mm_rv_n, true_and, and_true, if_true, if_false, not_true_eq_false, not_false_eq_true, nI_add, nz_0, nz_lt0, nz_0le, nz_0lt, nz_le0, nz_lt, nz_le, nz_eq, nz_cl, nz_in, nz_sub, nz_m1, pk_mul, set_o, set_ne, up_ne, up_set, n1_1, true_or, or_true, n1_01, n0_01, bI_01, bI_01b, bI_0, isSc1, isSc3, isSc5, ln_2, ln_4, ln_6, ln_8, ln_10, ln_11, ln_12, ln_13, ln_14, ln_16, ln_17, ln_18, ln_19, ln_20, ln_21, ln_23, ln_24, ln_25, ln_27, ln_28, ln_29, ln_31, ln_32, ln_33, ln_35, ln_36, ln_37, show ¬ 723 ≤ i by omega]
      refine ih (i + 1) (by omega) _ (fun x hx => ?_)
      by_cases e : x = i
      · rw [e, us]
      · rw [un _ _ _ _ e]; exact hf x (by omega)
  have := loop 723 0 (by omega) (M 33) (fun x hx => absurd hx (by omega))
  rw [set_id] at this
  exact this
theorem mc_swap {a1 a2 a3 a4 a5 l6 l7 l8 l10 : Option mm_V} (hQ : ∀ M' l9 l10, Same [31, 33] M M' → (∀ x, x < 723 → M' 31 x = M 33 x) → (∀ x, x < 723 → M' 33 x = M 31 x) → wp 120 365 [some (.inr 30), a1, a2, a3, a4, a5, l6, l7, l8, l9, l10] [] M' Q) : wp 120 319 [some (.inr 30), a1, a2, a3, a4, a5, l6, l7, l8, some (.inl (nI 0)), l10] [] M Q := by
  have loop : ∀ d i : Nat, i + d = 723 → ∀ (M' : mm_M) (l10 : Option mm_V), Same [31, 33] M M' → (∀ x, x < i → M' 31 x = M 33 x) → (∀ x, x < i → M' 33 x = M 31 x) → (∀ x, i ≤ x → M' 31 x = M 31 x) → (∀ x, i ≤ x → M' 33 x = M 33 x) → wp 120 319 [some (.inr 30), a1, a2, a3, a4, a5, l6, l7, l8, some (.inl (nI i)), l10] [] M' Q := by
    intro d
    induction d with
    | zero =>
      intro i hi M' l10 hS h1 h2 h3 h4
      have hi : i = 723 := by omega
      subst hi
      rw [iX8_copyPhrase_319]
      simp (disch := first | assumption | exact isSc1 | exact isSc3 | exact isSc5 | decide | omega) only [iX8_copyPhrase_321, iX8_copyPhrase_324, Nat.reduceAdd, Nat.reduceSub, Nat.reduceMul, Nat.reduceLeDiff, mm_rv_s, mm_rv_n, true_and, and_true, if_true, if_false, not_true_eq_false, not_false_eq_true, nI_add, nz_0, nz_lt0, nz_0le, nz_0lt, nz_le0, nz_lt, nz_le, nz_eq, nz_cl, nz_in, nz_sub, nz_m1, pk_mul, set_o, set_ne, up_ne, up_set, n1_1, true_or, or_true, n1_01, n0_01, bI_01, bI_01b, bI_0, isSc1, isSc3, isSc5, ln_2, ln_4, ln_6, ln_8, ln_10, ln_11, ln_12, ln_13, ln_14, ln_16, ln_17, ln_18, ln_19, ln_20, ln_21, ln_23, ln_24, ln_25, ln_27, ln_28, ln_29, ln_31, ln_32, ln_33, ln_35, ln_36, ln_37, Nat.le_refl]
      exact hQ M' _ _ hS h1 h2
    | succ d ih =>
      intro i hi M' l10 hS h1 h2 h3 h4
      have e3 := h3 i (Nat.le_refl i)
      have e4 := h4 i (Nat.le_refl i)
      rw [iX8_copyPhrase_319]
      simp (disch := first | assumption | exact isSc1 | exact isSc3 | exact isSc5 | decide | omega) only [iX8_copyPhrase_321, iX8_copyPhrase_324, iX8_copyPhrase_327, iX8_copyPhrase_328, iX8_copyPhrase_331, iX8_copyPhrase_333, iX8_copyPhrase_334, iX8_copyPhrase_336, iX8_copyPhrase_337, iX8_copyPhrase_340, iX8_copyPhrase_342, iX8_copyPhrase_343, iX8_copyPhrase_346, iX8_copyPhrase_348, iX8_copyPhrase_349, iX8_copyPhrase_350, iX8_copyPhrase_351, iX8_copyPhrase_354, iX8_copyPhrase_356, iX8_copyPhrase_358, iX8_copyPhrase_359, iX8_copyPhrase_362, Nat.reduceAdd, Nat.reduceSub, Nat.reduceMul, Nat.reduceLeDiff, mm_rv_s, mm_rv_n, true_and, and_true, if_true, if_false, not_true_eq_false, not_false_eq_true, nI_add, nz_0, nz_lt0, nz_0le, nz_0lt, nz_le0, nz_lt, nz_le, nz_eq, nz_cl, nz_in, nz_sub, nz_m1, pk_mul, set_o, set_ne, up_ne, up_set, n1_1, true_or, or_true, n1_01, n0_01, bI_01, bI_01b, bI_0, isSc1, isSc3, isSc5, ln_2, ln_4, ln_6, ln_8, ln_10, ln_11, ln_12, ln_13, ln_14, ln_16, ln_17, ln_18, ln_19, ln_20, ln_21, ln_23, ln_24, ln_25, ln_27, ln_28, ln_29, ln_31, ln_32, ln_33, ln_35, ln_36, ln_37, show ¬ 723 ≤ i by omega, e3, e4]
      refine ih (i + 1) (by omega) _ _ ((hS.up (by decide) _ _).up (by decide) _ _) (fun x hx => ?_) (fun x hx => ?_) (fun x hx => ?_) (fun x hx => ?_)
      · rw [up_ne _ _ _ (by decide), up_o]
        by_cases e : x = i
        · rw [e, us]
        · rw [un _ _ _ _ e]; exact h1 x (by omega)
      · rw [up_o]
        by_cases e : x = i
        · rw [e, us]
        · rw [un _ _ _ _ e, up_ne _ _ _ (by decide)]; exact h2 x (by omega)
      · rw [up_ne _ _ _ (by decide), up_o, un _ _ _ _ (by omega)]; exact h3 x (by omega)
      · rw [up_o, un _ _ _ _ (by omega), up_ne _ _ _ (by decide)]; exact h4 x (by omega)
  exact loop 723 0 (by omega) M _ (Same.rf _ _) (fun x hx => absurd hx (by omega)) (fun x hx => absurd hx (by omega)) (fun _ _ => rfl) (fun _ _ => rfl)
theorem mc_back {a1 a2 a3 a4 a5 l6 l7 l8 l10 : Option mm_V} (hQ : ∀ A l9, (∀ x, x < 723 → A x = M 33 x) → wp 120 425 [some (.inr 30), a1, a2, a3, a4, a5, l6, l7, l8, l9, l10] [] (mm_set M 31 A) Q) : wp 120 397 [some (.inr 30), a1, a2, a3, a4, a5, l6, l7, l8, some (.inl (nI 0)), l10] [] M Q := by
  have loop : ∀ d i : Nat, i + d = 723 → ∀ f : Nat → Int32, (∀ x, x < i → f x = M 33 x) → wp 120 397 [some (.inr 30), a1, a2, a3, a4, a5, l6, l7, l8, some (.inl (nI i)), l10] [] (mm_set M 31 f) Q := by
    intro d
    induction d with
    | zero =>
      intro i hi f hf
      have hi : i = 723 := by omega
      subst hi
      rw [iX8_copyPhrase_397]
      simp (disch := first | assumption | exact isSc1 | exact isSc3 | exact isSc5 | decide | omega) only [iX8_copyPhrase_399, iX8_copyPhrase_402, Nat.reduceAdd, Nat.reduceSub, Nat.reduceMul, Nat.reduceLeDiff, mm_rv_s, mm_rv_n, true_and, and_true, if_true, if_false, not_true_eq_false, not_false_eq_true, nI_add, nz_0, nz_lt0, nz_0le, nz_0lt, nz_le0, nz_lt, nz_le, nz_eq, nz_cl, nz_in, nz_sub, nz_m1, pk_mul, set_o, set_ne, up_ne, up_set, n1_1, true_or, or_true, n1_01, n0_01, bI_01, bI_01b, bI_0, isSc1, isSc3, isSc5, ln_2, ln_4, ln_6, ln_8, ln_10, ln_11, ln_12, ln_13, ln_14, ln_16, ln_17, ln_18, ln_19, ln_20, ln_21, ln_23, ln_24, ln_25, ln_27, ln_28, ln_29, ln_31, ln_32, ln_33, ln_35, ln_36, ln_37, Nat.le_refl]
      exact hQ f _ hf
    | succ d ih =>
      intro i hi f hf
      rw [iX8_copyPhrase_397]
      simp (disch := first | assumption | exact isSc1 | exact isSc3 | exact isSc5 | decide | omega) only [iX8_copyPhrase_399, iX8_copyPhrase_402, iX8_copyPhrase_405, iX8_copyPhrase_406, iX8_copyPhrase_409, iX8_copyPhrase_411, iX8_copyPhrase_412, iX8_copyPhrase_415, iX8_copyPhrase_417, iX8_copyPhrase_418, iX8_copyPhrase_419, iX8_copyPhrase_422, Nat.reduceAdd, Nat.reduceSub, Nat.reduceMul, Nat.reduceLeDiff, mm_rv_s, mm_rv_n, true_and, and_true, if_true, if_false, not_true_eq_false, not_false_eq_true, nI_add, nz_0, nz_lt0, nz_0le, nz_0lt, nz_le0, nz_lt, nz_le, nz_eq, nz_cl, nz_in, nz_sub, nz_m1, pk_mul, set_o, set_ne, up_ne, up_set, n1_1, true_or, or_true, n1_01, n0_01, bI_01, bI_01b, bI_0, isSc1, isSc3, isSc5, ln_2, ln_4, ln_6, ln_8, ln_10, ln_11, ln_12, ln_13, ln_14, ln_16, ln_17, ln_18, ln_19, ln_20, ln_21, ln_23, ln_24, ln_25, ln_27, ln_28, ln_29, ln_31, ln_32, ln_33, ln_35, ln_36, ln_37, show ¬ 723 ≤ i by omega]
      refine ih (i + 1) (by omega) _ (fun x hx => ?_)
      by_cases e : x = i
      · rw [e, us]
      · rw [un _ _ _ _ e]; exact hf x (by omega)
  have := loop 723 0 (by omega) (M 31) (fun x hx => absurd hx (by omega))
  rw [set_id] at this
  exact this
/-- the trial of the copies -/
theorem mc_try {m : Nat} {ph : Nat → Sg} {a1 a2 a3 a4 a5 l9 l10 : Option mm_V} (hv : Val B n g) (hn : n ≤ 60) (hm : m ≤ 60) (hph : okG m ph) (hD : isD (M 31) B L n g) (hE : ∀ j, j < m → fE (M 36) j (ph j))
    (hQ : ∀ (b : Bool) N G M' l8 l9, Same [31, 37] M M' → Val B N G → N ≤ 120 → isD (M' 31) B L N G → (b = true → tryF B ph m 0 n g = some (N, G)) → (b = false → tryF B ph m 0 n g = none) → wp 120 298 [some (.inr 30), a1, a2, a3, a4, a5, some (.inl (nI m)), some (.inl (bI b)), l8, l9, l10] [] M' Q) :
    wp 120 124 [some (.inr 30), a1, a2, a3, a4, a5, some (.inl (nI m)), some (.inl (bI true)), some (.inl (nI 0)), l9, l10] [] M Q := by
  have w2 := hv.2.1
  have loop : ∀ d i N G, i + d = m → N = n + i → Val B N G → ∀ (M' : mm_M) l9, Same [31, 37] M M' → isD (M' 31) B L N G → tryF B ph d i N G = tryF B ph m 0 n g → wp 120 124 [some (.inr 30), a1, a2, a3, a4, a5, some (.inl (nI m)), some (.inl (bI true)), some (.inl (nI i)), l9, l10] [] M' Q := by
    intro d
    induction d with
    | zero =>
      intro i N G hi hN hvN M' l9 hS hD' ht
      have hi : i = m := by omega
      subst hi
      rw [iX8_copyPhrase_124]
      simp (disch := first | assumption | exact isSc1 | exact isSc3 | exact isSc5 | decide | omega) only [iX8_copyPhrase_126, iX8_copyPhrase_128, Nat.reduceAdd, Nat.reduceSub, Nat.reduceMul, Nat.reduceLeDiff, mm_rv_s, mm_rv_n, true_and, and_true, if_true, if_false, not_true_eq_false, not_false_eq_true, nI_add, nz_0, nz_lt0, nz_0le, nz_0lt, nz_le0, nz_lt, nz_le, nz_eq, nz_cl, nz_in, nz_sub, nz_m1, pk_mul, set_o, set_ne, up_ne, up_set, n1_1, true_or, or_true, n1_01, n0_01, bI_01, bI_01b, bI_0, isSc1, isSc3, isSc5, ln_2, ln_4, ln_6, ln_8, ln_10, ln_11, ln_12, ln_13, ln_14, ln_16, ln_17, ln_18, ln_19, ln_20, ln_21, ln_23, ln_24, ln_25, ln_27, ln_28, ln_29, ln_31, ln_32, ln_33, ln_35, ln_36, ln_37, Nat.le_refl]
      exact hQ true N G M' _ _ hS hvN (by omega) hD' (fun _ => ht.symm) (fun z => absurd z (by decide))
    | succ d ih =>
      intro i N G hi hN hvN M' l9 hS hD' ht
      have him : i < m := by omega
      obtain ⟨o1, o2⟩ := hph i him
      have ob := okS_b o1
      obtain ⟨f1, f2, f3, f4, f5, f6⟩ := hE i him
      rw [← hS 36 (by decide)] at f1 f2 f3 f4 f5 f6
      have d0 := hD'.1
      have hkk := o1.2.1
      have hnn := o1.2.2.1
      have fail : fitS B N G (ph i) ≠ true → ∀ M2 l9, Same [31, 37] M M2 → isD (M2 31) B L N G → wp 120 222 [some (.inr 30), a1, a2, a3, a4, a5, some (.inl (nI m)), some (.inl (nI 0)), some (.inl (nI i)), l9, l10] [] M2 Q := by
        intro hf M2 l9 hS2 hD2
        have hn1 : tryF B ph m 0 n g = none := by
          rw [← ht]
          unfold tryF
          rw [if_neg hf]
        have q := fun l8 => hQ false N G M2 l8 l9 hS2 hvN (by omega) hD2 (fun z => absurd z (by decide)) (fun _ => hn1)
        simp (disch := first | assumption | exact isSc1 | exact isSc3 | exact isSc5 | decide | omega) only [iX8_copyPhrase_222, iX8_copyPhrase_224, iX8_copyPhrase_292, iX8_copyPhrase_295, Nat.reduceAdd, Nat.reduceSub, Nat.reduceMul, Nat.reduceLeDiff, mm_rv_s, mm_rv_n, true_and, and_true, if_true, if_false, not_true_eq_false, not_false_eq_true, nI_add, nz_0, nz_lt0, nz_0le, nz_0lt, nz_le0, nz_lt, nz_le, nz_eq, nz_cl, nz_in, nz_sub, nz_m1, pk_mul, set_o, set_ne, up_ne, up_set, n1_1, true_or, or_true, n1_01, n0_01, bI_01, bI_01b, bI_0, isSc1, isSc3, isSc5, ln_2, ln_4, ln_6, ln_8, ln_10, ln_11, ln_12, ln_13, ln_14, ln_16, ln_17, ln_18, ln_19, ln_20, ln_21, ln_23, ln_24, ln_25, ln_27, ln_28, ln_29, ln_31, ln_32, ln_33, ln_35, ln_36, ln_37]
        rw [iX8_copyPhrase_124]
        by_cases hl : m ≤ i + 1
        · simp (disch := first | assumption | exact isSc1 | exact isSc3 | exact isSc5 | decide | omega) only [iX8_copyPhrase_126, iX8_copyPhrase_128, Nat.reduceAdd, Nat.reduceSub, Nat.reduceMul, Nat.reduceLeDiff, mm_rv_s, mm_rv_n, true_and, and_true, if_true, if_false, not_true_eq_false, not_false_eq_true, nI_add, nz_0, nz_lt0, nz_0le, nz_0lt, nz_le0, nz_lt, nz_le, nz_eq, nz_cl, nz_in, nz_sub, nz_m1, pk_mul, set_o, set_ne, up_ne, up_set, n1_1, true_or, or_true, n1_01, n0_01, bI_01, bI_01b, bI_0, isSc1, isSc3, isSc5, ln_2, ln_4, ln_6, ln_8, ln_10, ln_11, ln_12, ln_13, ln_14, ln_16, ln_17, ln_18, ln_19, ln_20, ln_21, ln_23, ln_24, ln_25, ln_27, ln_28, ln_29, ln_31, ln_32, ln_33, ln_35, ln_36, ln_37, hl]
          exact q _
        · simp (disch := first | assumption | exact isSc1 | exact isSc3 | exact isSc5 | decide | omega) only [iX8_copyPhrase_126, iX8_copyPhrase_128, iX8_copyPhrase_131, iX8_copyPhrase_133, Nat.reduceAdd, Nat.reduceSub, Nat.reduceMul, Nat.reduceLeDiff, mm_rv_s, mm_rv_n, true_and, and_true, if_true, if_false, not_true_eq_false, not_false_eq_true, nI_add, nz_0, nz_lt0, nz_0le, nz_0lt, nz_le0, nz_lt, nz_le, nz_eq, nz_cl, nz_in, nz_sub, nz_m1, pk_mul, set_o, set_ne, up_ne, up_set, n1_1, true_or, or_true, n1_01, n0_01, bI_01, bI_01b, bI_0, isSc1, isSc3, isSc5, ln_2, ln_4, ln_6, ln_8, ln_10, ln_11, ln_12, ln_13, ln_14, ln_16, ln_17, ln_18, ln_19, ln_20, ln_21, ln_23, ln_24, ln_25, ln_27, ln_28, ln_29, ln_31, ln_32, ln_33, ln_35, ln_36, ln_37, hl]
          exact q _
      have mid : wp 120 167 [some (.inr 30), a1, a2, a3, a4, a5, some (.inl (nI m)), some (.inl (bI true)), some (.inl (nI i)), some (.inl (nI (sS (ph i)))), l10] [] M' Q := by
        simp (disch := first | assumption | exact isSc1 | exact isSc3 | exact isSc5 | decide | omega) only [iX8_copyPhrase_167, iX8_copyPhrase_168, iX8_copyPhrase_171, iX8_copyPhrase_173, iX8_copyPhrase_175, iX8_copyPhrase_176, iX8_copyPhrase_177, iX8_copyPhrase_179, iX8_copyPhrase_180, iX8_copyPhrase_181, iX8_copyPhrase_184, iX8_copyPhrase_185, iX8_copyPhrase_186, Nat.reduceAdd, Nat.reduceSub, Nat.reduceMul, Nat.reduceLeDiff, mm_rv_s, mm_rv_n, true_and, and_true, if_true, if_false, not_true_eq_false, not_false_eq_true, nI_add, nz_0, nz_lt0, nz_0le, nz_0lt, nz_le0, nz_lt, nz_le, nz_eq, nz_cl, nz_in, nz_sub, nz_m1, pk_mul, set_o, set_ne, up_ne, up_set, n1_1, true_or, or_true, n1_01, n0_01, bI_01, bI_01b, bI_0, isSc1, isSc3, isSc5, ln_2, ln_4, ln_6, ln_8, ln_10, ln_11, ln_12, ln_13, ln_14, ln_16, ln_17, ln_18, ln_19, ln_20, ln_21, ln_23, ln_24, ln_25, ln_27, ln_28, ln_29, ln_31, ln_32, ln_33, ln_35, ln_36, ln_37, f2, d0]
        by_cases hb : B < sB (ph i) + sS (ph i)
        · have hf : fitS B N G (ph i) ≠ true := fun z => by have := (fitS_iff.mp z).1; omega
          simp (disch := first | assumption | exact isSc1 | exact isSc3 | exact isSc5 | decide | omega) only [iX8_copyPhrase_219, iX8_copyPhrase_220, Nat.reduceAdd, Nat.reduceSub, Nat.reduceMul, Nat.reduceLeDiff, mm_rv_s, mm_rv_n, true_and, and_true, if_true, if_false, not_true_eq_false, not_false_eq_true, nI_add, nz_0, nz_lt0, nz_0le, nz_0lt, nz_le0, nz_lt, nz_le, nz_eq, nz_cl, nz_in, nz_sub, nz_m1, pk_mul, set_o, set_ne, up_ne, up_set, n1_1, true_or, or_true, n1_01, n0_01, bI_01, bI_01b, bI_0, isSc1, isSc3, isSc5, ln_2, ln_4, ln_6, ln_8, ln_10, ln_11, ln_12, ln_13, ln_14, ln_16, ln_17, ln_18, ln_19, ln_20, ln_21, ln_23, ln_24, ln_25, ln_27, ln_28, ln_29, ln_31, ln_32, ln_33, ln_35, ln_36, ln_37, hb]
          exact fail hf M' _ hS hD'
        · simp (disch := first | assumption | exact isSc1 | exact isSc3 | exact isSc5 | decide | omega) only [iX8_copyPhrase_189, iX8_copyPhrase_190, iX8_copyPhrase_191, iX8_copyPhrase_194, iX8_copyPhrase_196, iX8_copyPhrase_197, iX8_copyPhrase_198, iX8_copyPhrase_201, iX8_copyPhrase_203, iX8_copyPhrase_205, iX8_copyPhrase_206, iX8_copyPhrase_207, iX8_copyPhrase_209, Nat.reduceAdd, Nat.reduceSub, Nat.reduceMul, Nat.reduceLeDiff, mm_rv_s, mm_rv_n, true_and, and_true, if_true, if_false, not_true_eq_false, not_false_eq_true, nI_add, nz_0, nz_lt0, nz_0le, nz_0lt, nz_le0, nz_lt, nz_le, nz_eq, nz_cl, nz_in, nz_sub, nz_m1, pk_mul, set_o, set_ne, up_ne, up_set, n1_1, true_or, or_true, n1_01, n0_01, bI_01, bI_01b, bI_0, isSc1, isSc3, isSc5, ln_2, ln_4, ln_6, ln_8, ln_10, ln_11, ln_12, ln_13, ln_14, ln_16, ln_17, ln_18, ln_19, ln_20, ln_21, ln_23, ln_24, ln_25, ln_27, ln_28, ln_29, ln_31, ln_32, ln_33, ln_35, ln_36, ln_37, hb, f1, f2]
          refine m_isFree hD' hvN o1.1 (by omega) ob.2.2.1 ob.2.2.2.2.2.2.2.2 (fun f hr => ?_) (fun f hr => ?_)
          · have hf : fitS B N G (ph i) = true := fitS_iff.mpr ⟨by omega, hr⟩
            have g1 : mm_set M' 37 f 36 = M' 36 := set_ne _ _ (by decide)
            simp (disch := first | assumption | exact isSc1 | exact isSc3 | exact isSc5 | decide | omega) only [iX8_copyPhrase_212, iX8_copyPhrase_215, iX8_copyPhrase_216, iX8_copyPhrase_219, iX8_copyPhrase_220, iX8_copyPhrase_222, iX8_copyPhrase_224, iX8_copyPhrase_227, iX8_copyPhrase_228, iX8_copyPhrase_229, iX8_copyPhrase_232, iX8_copyPhrase_234, iX8_copyPhrase_235, iX8_copyPhrase_236, iX8_copyPhrase_239, iX8_copyPhrase_241, iX8_copyPhrase_243, iX8_copyPhrase_244, iX8_copyPhrase_245, iX8_copyPhrase_246, iX8_copyPhrase_249, iX8_copyPhrase_251, iX8_copyPhrase_253, iX8_copyPhrase_254, iX8_copyPhrase_255, iX8_copyPhrase_256, iX8_copyPhrase_259, iX8_copyPhrase_262, iX8_copyPhrase_264, iX8_copyPhrase_265, iX8_copyPhrase_266, iX8_copyPhrase_267, iX8_copyPhrase_270, iX8_copyPhrase_273, iX8_copyPhrase_275, iX8_copyPhrase_276, iX8_copyPhrase_277, iX8_copyPhrase_278, iX8_copyPhrase_281, iX8_copyPhrase_284, iX8_copyPhrase_286, iX8_copyPhrase_287, Nat.reduceAdd, Nat.reduceSub, Nat.reduceMul, Nat.reduceLeDiff, mm_rv_s, mm_rv_n, true_and, and_true, if_true, if_false, not_true_eq_false, not_false_eq_true, nI_add, nz_0, nz_lt0, nz_0le, nz_0lt, nz_le0, nz_lt, nz_le, nz_eq, nz_cl, nz_in, nz_sub, nz_m1, pk_mul, set_o, set_ne, up_ne, up_set, n1_1, true_or, or_true, n1_01, n0_01, bI_01, bI_01b, bI_0, isSc1, isSc3, isSc5, ln_2, ln_4, ln_6, ln_8, ln_10, ln_11, ln_12, ln_13, ln_14, ln_16, ln_17, ln_18, ln_19, ln_20, ln_21, ln_23, ln_24, ln_25, ln_27, ln_28, ln_29, ln_31, ln_32, ln_33, ln_35, ln_36, ln_37, Nat.one_ne_zero, f1, f2, f3, f4, f5, f6]
            rw [iX8_copyPhrase_288]
            refine m_puts (B := B) (L := L) (n := N) (g := G) (by rw [set_ne _ _ (by decide)]; exact hD') (by omega) (fun j hj => ⟨(okG_b hvN.okG hj).2.2.2.1, (okG_b hvN.okG hj).2.2.1⟩) ⟨o1.1, o2⟩ (fun d2 hd2 => ?_)
            simp (disch := first | assumption | exact isSc1 | exact isSc3 | exact isSc5 | decide | omega) only [iX8_copyPhrase_291, iX8_copyPhrase_292, iX8_copyPhrase_295, Nat.reduceAdd, Nat.reduceSub, Nat.reduceMul, Nat.reduceLeDiff, mm_rv_s, mm_rv_n, true_and, and_true, if_true, if_false, not_true_eq_false, not_false_eq_true, nI_add, nz_0, nz_lt0, nz_0le, nz_0lt, nz_le0, nz_lt, nz_le, nz_eq, nz_cl, nz_in, nz_sub, nz_m1, pk_mul, set_o, set_ne, up_ne, up_set, n1_1, true_or, or_true, n1_01, n0_01, bI_01, bI_01b, bI_0, isSc1, isSc3, isSc5, ln_2, ln_4, ln_6, ln_8, ln_10, ln_11, ln_12, ln_13, ln_14, ln_16, ln_17, ln_18, ln_19, ln_20, ln_21, ln_23, ln_24, ln_25, ln_27, ln_28, ln_29, ln_31, ln_32, ln_33, ln_35, ln_36, ln_37]
            refine ih (i + 1) (N + 1) _ (by omega) (by omega) (val_ins hvN (by omega) o1 (by omega) hr) _ _ ((hS.set (by decide) _).set (by decide) _) (by rw [set_o]; exact hd2) ?_
            rw [← ht]
            show _ = (if fitS B N G (ph i) = true then _ else none)
            rw [if_pos hf]
          · have hf : fitS B N G (ph i) ≠ true := fun z => hr (fitS_iff.mp z).2
            simp (disch := first | assumption | exact isSc1 | exact isSc3 | exact isSc5 | decide | omega) only [iX8_copyPhrase_212, iX8_copyPhrase_219, iX8_copyPhrase_220, Nat.reduceAdd, Nat.reduceSub, Nat.reduceMul, Nat.reduceLeDiff, mm_rv_s, mm_rv_n, true_and, and_true, if_true, if_false, not_true_eq_false, not_false_eq_true, nI_add, nz_0, nz_lt0, nz_0le, nz_0lt, nz_le0, nz_lt, nz_le, nz_eq, nz_cl, nz_in, nz_sub, nz_m1, pk_mul, set_o, set_ne, up_ne, up_set, n1_1, true_or, or_true, n1_01, n0_01, bI_01, bI_01b, bI_0, isSc1, isSc3, isSc5, ln_2, ln_4, ln_6, ln_8, ln_10, ln_11, ln_12, ln_13, ln_14, ln_16, ln_17, ln_18, ln_19, ln_20, ln_21, ln_23, ln_24, ln_25, ln_27, ln_28, ln_29, ln_31, ln_32, ln_33, ln_35, ln_36, ln_37]
            exact fail hf _ _ (hS.set (by decide) _) (by rw [set_ne _ _ (by decide)]; exact hD')
      rw [iX8_copyPhrase_124]
      simp (disch := first | assumption | exact isSc1 | exact isSc3 | exact isSc5 | decide | omega) only [iX8_copyPhrase_126, iX8_copyPhrase_128, iX8_copyPhrase_131, iX8_copyPhrase_133, iX8_copyPhrase_136, iX8_copyPhrase_137, iX8_copyPhrase_140, iX8_copyPhrase_142, iX8_copyPhrase_144, iX8_copyPhrase_145, iX8_copyPhrase_146, iX8_copyPhrase_147, Nat.reduceAdd, Nat.reduceSub, Nat.reduceMul, Nat.reduceLeDiff, mm_rv_s, mm_rv_n, true_and, and_true, if_true, if_false, not_true_eq_false, not_false_eq_true, nI_add, nz_0, nz_lt0, nz_0le, nz_0lt, nz_le0, nz_lt, nz_le, nz_eq, nz_cl, nz_in, nz_sub, nz_m1, pk_mul, set_o, set_ne, up_ne, up_set, n1_1, true_or, or_true, n1_01, n0_01, bI_01, bI_01b, bI_0, isSc1, isSc3, isSc5, ln_2, ln_4, ln_6, ln_8, ln_10, ln_11, ln_12, ln_13, ln_14, ln_16, ln_17, ln_18, ln_19, ln_20, ln_21, ln_23, ln_24, ln_25, ln_27, ln_28, ln_29, ln_31, ln_32, ln_33, ln_35, ln_36, ln_37, show ¬ m ≤ i by omega, bI_0, Bool.true_eq_false, f3]
      by_cases k1 : sK (ph i) = 1
      · have e : sS (ph i) = 1 := by unfold sS; rw [if_pos k1]
        rw [e] at mid
        simp (disch := first | assumption | exact isSc1 | exact isSc3 | exact isSc5 | decide | omega) only [iX8_copyPhrase_150, iX8_copyPhrase_151, iX8_copyPhrase_154, iX8_copyPhrase_155, iX8_copyPhrase_158, iX8_copyPhrase_161, iX8_copyPhrase_163, iX8_copyPhrase_164, iX8_copyPhrase_165, Nat.reduceAdd, Nat.reduceSub, Nat.reduceMul, Nat.reduceLeDiff, mm_rv_s, mm_rv_n, true_and, and_true, if_true, if_false, not_true_eq_false, not_false_eq_true, nI_add, nz_0, nz_lt0, nz_0le, nz_0lt, nz_le0, nz_lt, nz_le, nz_eq, nz_cl, nz_in, nz_sub, nz_m1, pk_mul, set_o, set_ne, up_ne, up_set, n1_1, true_or, or_true, n1_01, n0_01, bI_01, bI_01b, bI_0, isSc1, isSc3, isSc5, ln_2, ln_4, ln_6, ln_8, ln_10, ln_11, ln_12, ln_13, ln_14, ln_16, ln_17, ln_18, ln_19, ln_20, ln_21, ln_23, ln_24, ln_25, ln_27, ln_28, ln_29, ln_31, ln_32, ln_33, ln_35, ln_36, ln_37, k1]
        exact mid
      · rw [sS_N k1] at mid
        simp (disch := first | assumption | exact isSc1 | exact isSc3 | exact isSc5 | decide | omega) only [iX8_copyPhrase_154, iX8_copyPhrase_155, iX8_copyPhrase_158, iX8_copyPhrase_161, iX8_copyPhrase_163, iX8_copyPhrase_164, iX8_copyPhrase_165, Nat.reduceAdd, Nat.reduceSub, Nat.reduceMul, Nat.reduceLeDiff, mm_rv_s, mm_rv_n, true_and, and_true, if_true, if_false, not_true_eq_false, not_false_eq_true, nI_add, nz_0, nz_lt0, nz_0le, nz_0lt, nz_le0, nz_lt, nz_le, nz_eq, nz_cl, nz_in, nz_sub, nz_m1, pk_mul, set_o, set_ne, up_ne, up_set, n1_1, true_or, or_true, n1_01, n0_01, bI_01, bI_01b, bI_0, isSc1, isSc3, isSc5, ln_2, ln_4, ln_6, ln_8, ln_10, ln_11, ln_12, ln_13, ln_14, ln_16, ln_17, ln_18, ln_19, ln_20, ln_21, ln_23, ln_24, ln_25, ln_27, ln_28, ln_29, ln_31, ln_32, ln_33, ln_35, ln_36, ln_37, k1, f4]
        exact mid
  exact loop m 0 n g (by omega) (by omega) hv M _ (Same.rf _ _) hD rfl
end CPM
