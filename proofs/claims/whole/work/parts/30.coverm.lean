/-! THE REFERENCE TELLS WHAT COVERS A BEAT -/
section CM
variable {B L n : Nat} {g : Nat → Sg} {M : mm_M} {Q : mm_Q}
theorem m_endOf (hD : isD (M 31) B L n g) (hn : n ≤ 120) (hg : okG n g) (hB : B ≤ 48) {i : Nat} (hi : i < n) : wc 104 [.inr 30, .inl (nI i)] M Q ↔ Q (some (nI (endN B n g i))) M := by
  obtain ⟨c0, c1, c2, c3⟩ := hD
  obtain ⟨a1, a2, a3, a4, a5, a6, a7, a8⟩ := okG_b hg hi
  obtain ⟨f1, f2, f3, f4, f5, f6⟩ := c3 i hi
  simp (disch := first | assumption | exact isSc1 | exact isSc3 | exact isSc5 | decide | omega) only [eX8_endOf, iX8_endOf_0, iX8_endOf_1, iX8_endOf_4, iX8_endOf_7, iX8_endOf_8, iX8_endOf_9, iX8_endOf_10, iX8_endOf_11, Nat.reduceAdd, Nat.reduceSub, Nat.reduceMul, Nat.reduceLeDiff, mm_rv_s, mm_rv_n, true_and, and_true, if_true, if_false, not_true_eq_false, not_false_eq_true, nI_add, nz_0, nz_lt0, nz_0le, nz_0lt, nz_le0, nz_lt, nz_le, nz_eq, nz_cl, nz_in, nz_sub, nz_m1, pk_mul, set_o, set_ne, up_ne, up_set, n1_1, true_or, or_true, n1_01, n0_01, bI_01, bI_01b, bI_0, isSc1, isSc3, isSc5, ln_2, ln_4, ln_6, ln_8, ln_10, ln_11, ln_12, ln_13, ln_14, ln_16, ln_17, ln_18, ln_19, ln_20, ln_21, ln_23, ln_24, ln_25, ln_27, ln_28, ln_29, ln_31, ln_32, ln_33, ln_35, ln_36, ln_37, f3]
  unfold endN
  by_cases hk : sK (g i) = 1
  · rw [if_pos hk, if_pos hk]
    simp (disch := first | assumption | exact isSc1 | exact isSc3 | exact isSc5 | decide | omega) only [iX8_endOf_35, iX8_endOf_36, iX8_endOf_37, iX8_endOf_38, Nat.reduceAdd, Nat.reduceSub, Nat.reduceMul, Nat.reduceLeDiff, mm_rv_s, mm_rv_n, true_and, and_true, if_true, if_false, not_true_eq_false, not_false_eq_true, nI_add, nz_0, nz_lt0, nz_0le, nz_0lt, nz_le0, nz_lt, nz_le, nz_eq, nz_cl, nz_in, nz_sub, nz_m1, pk_mul, set_o, set_ne, up_ne, up_set, n1_1, true_or, or_true, n1_01, n0_01, bI_01, bI_01b, bI_0, isSc1, isSc3, isSc5, ln_2, ln_4, ln_6, ln_8, ln_10, ln_11, ln_12, ln_13, ln_14, ln_16, ln_17, ln_18, ln_19, ln_20, ln_21, ln_23, ln_24, ln_25, ln_27, ln_28, ln_29, ln_31, ln_32, ln_33, ln_35, ln_36, ln_37]
    have loop : ∀ d k : Nat, k + d = n → (wp 104 39 [some (.inr 30), some (.inl (nI i)), some (.inl (nI k))] [] M Q ↔ Q (some (nI (nxt B g (sC (g i)) d k))) M) := by
      intro d
      induction d with
      | zero =>
        intro k hk
        rw [iX8_endOf_39]
        simp (disch := first | assumption | exact isSc1 | exact isSc3 | exact isSc5 | decide | omega) only [iX8_endOf_40, iX8_endOf_41, iX8_endOf_44, iX8_endOf_45, iX8_endOf_46, iX8_endOf_84, iX8_endOf_85, iX8_endOf_88, iX8_endOf_89, iX8_endOf_90, Nat.reduceAdd, Nat.reduceSub, Nat.reduceMul, Nat.reduceLeDiff, mm_rv_s, mm_rv_n, true_and, and_true, if_true, if_false, not_true_eq_false, not_false_eq_true, nI_add, nz_0, nz_lt0, nz_0le, nz_0lt, nz_le0, nz_lt, nz_le, nz_eq, nz_cl, nz_in, nz_sub, nz_m1, pk_mul, set_o, set_ne, up_ne, up_set, n1_1, true_or, or_true, n1_01, n0_01, bI_01, bI_01b, bI_0, isSc1, isSc3, isSc5, ln_2, ln_4, ln_6, ln_8, ln_10, ln_11, ln_12, ln_13, ln_14, ln_16, ln_17, ln_18, ln_19, ln_20, ln_21, ln_23, ln_24, ln_25, ln_27, ln_28, ln_29, ln_31, ln_32, ln_33, ln_35, ln_36, ln_37, c2, c0, show n ≤ k by omega]
        rfl
      | succ d ih =>
        intro k hk
        obtain ⟨b1, b2, b3, b4, b5, b6, b7, b8⟩ := okG_b hg (show k < n by omega)
        obtain ⟨e1, e2, e3, e4, e5, e6⟩ := c3 k (by omega)
        rw [iX8_endOf_39]
        simp (disch := first | assumption | exact isSc1 | exact isSc3 | exact isSc5 | decide | omega) only [iX8_endOf_40, iX8_endOf_41, iX8_endOf_44, iX8_endOf_45, iX8_endOf_46, iX8_endOf_49, iX8_endOf_50, iX8_endOf_53, iX8_endOf_54, iX8_endOf_55, iX8_endOf_56, iX8_endOf_57, iX8_endOf_58, iX8_endOf_61, iX8_endOf_62, iX8_endOf_63, iX8_endOf_64, iX8_endOf_65, Nat.reduceAdd, Nat.reduceSub, Nat.reduceMul, Nat.reduceLeDiff, mm_rv_s, mm_rv_n, true_and, and_true, if_true, if_false, not_true_eq_false, not_false_eq_true, nI_add, nz_0, nz_lt0, nz_0le, nz_0lt, nz_le0, nz_lt, nz_le, nz_eq, nz_cl, nz_in, nz_sub, nz_m1, pk_mul, set_o, set_ne, up_ne, up_set, n1_1, true_or, or_true, n1_01, n0_01, bI_01, bI_01b, bI_0, isSc1, isSc3, isSc5, ln_2, ln_4, ln_6, ln_8, ln_10, ln_11, ln_12, ln_13, ln_14, ln_16, ln_17, ln_18, ln_19, ln_20, ln_21, ln_23, ln_24, ln_25, ln_27, ln_28, ln_29, ln_31, ln_32, ln_33, ln_35, ln_36, ln_37, c2, show ¬ n ≤ k by omega, e1, f1]
        unfold nxt
        by_cases hcc : sC (g k) = sC (g i)
        · rw [if_neg (by simpa using hcc), if_pos hcc]
          simp (disch := first | assumption | exact isSc1 | exact isSc3 | exact isSc5 | decide | omega) only [iX8_endOf_68, iX8_endOf_69, iX8_endOf_72, iX8_endOf_74, iX8_endOf_75, iX8_endOf_76, iX8_endOf_77, Nat.reduceAdd, Nat.reduceSub, Nat.reduceMul, Nat.reduceLeDiff, mm_rv_s, mm_rv_n, true_and, and_true, if_true, if_false, not_true_eq_false, not_false_eq_true, nI_add, nz_0, nz_lt0, nz_0le, nz_0lt, nz_le0, nz_lt, nz_le, nz_eq, nz_cl, nz_in, nz_sub, nz_m1, pk_mul, set_o, set_ne, up_ne, up_set, n1_1, true_or, or_true, n1_01, n0_01, bI_01, bI_01b, bI_0, isSc1, isSc3, isSc5, ln_2, ln_4, ln_6, ln_8, ln_10, ln_11, ln_12, ln_13, ln_14, ln_16, ln_17, ln_18, ln_19, ln_20, ln_21, ln_23, ln_24, ln_25, ln_27, ln_28, ln_29, ln_31, ln_32, ln_33, ln_35, ln_36, ln_37, e2]
        · rw [if_pos hcc, if_neg hcc, ← ih (k + 1) (by omega)]
          simp (disch := first | assumption | exact isSc1 | exact isSc3 | exact isSc5 | decide | omega) only [iX8_endOf_78, iX8_endOf_81, Nat.reduceAdd, Nat.reduceSub, Nat.reduceMul, Nat.reduceLeDiff, mm_rv_s, mm_rv_n, true_and, and_true, if_true, if_false, not_true_eq_false, not_false_eq_true, nI_add, nz_0, nz_lt0, nz_0le, nz_0lt, nz_le0, nz_lt, nz_le, nz_eq, nz_cl, nz_in, nz_sub, nz_m1, pk_mul, set_o, set_ne, up_ne, up_set, n1_1, true_or, or_true, n1_01, n0_01, bI_01, bI_01b, bI_0, isSc1, isSc3, isSc5, ln_2, ln_4, ln_6, ln_8, ln_10, ln_11, ln_12, ln_13, ln_14, ln_16, ln_17, ln_18, ln_19, ln_20, ln_21, ln_23, ln_24, ln_25, ln_27, ln_28, ln_29, ln_31, ln_32, ln_33, ln_35, ln_36, ln_37]
    rw [loop (n - (i + 1)) (i + 1) (by omega)]
  · rw [if_neg hk, if_neg hk]
    simp (disch := first | assumption | exact isSc1 | exact isSc3 | exact isSc5 | decide | omega) only [iX8_endOf_14, iX8_endOf_15, iX8_endOf_18, iX8_endOf_20, iX8_endOf_21, iX8_endOf_22, iX8_endOf_23, iX8_endOf_24, iX8_endOf_27, iX8_endOf_30, iX8_endOf_31, iX8_endOf_32, iX8_endOf_33, iX8_endOf_34, Nat.reduceAdd, Nat.reduceSub, Nat.reduceMul, Nat.reduceLeDiff, mm_rv_s, mm_rv_n, true_and, and_true, if_true, if_false, not_true_eq_false, not_false_eq_true, nI_add, nz_0, nz_lt0, nz_0le, nz_0lt, nz_le0, nz_lt, nz_le, nz_eq, nz_cl, nz_in, nz_sub, nz_m1, pk_mul, set_o, set_ne, up_ne, up_set, n1_1, true_or, or_true, n1_01, n0_01, bI_01, bI_01b, bI_0, isSc1, isSc3, isSc5, ln_2, ln_4, ln_6, ln_8, ln_10, ln_11, ln_12, ln_13, ln_14, ln_16, ln_17, ln_18, ln_19, ln_20, ln_21, ln_23, ln_24, ln_25, ln_27, ln_28, ln_29, ln_31, ln_32, ln_33, ln_35, ln_36, ln_37, f2, f4]
def cvk (B : Nat) (g : Nat → Sg) (k c t : Nat) : Option Nat := match latest g k c t with
  | some i => if t < eM B (g i) then some i else none
  | none => none
theorem cvk_s (B : Nat) (g : Nat → Sg) (k c t : Nat) : cvk B g (k + 1) c t = if sC (g k) = c ∧ sB (g k) ≤ t then (if t < eM B (g k) then some k else none) else cvk B g k c t := by
  unfold cvk
  have e : latest g (k + 1) c t = if sC (g k) = c ∧ sB (g k) ≤ t then some k else latest g k c t := by
    unfold latest
    rw [lastF]
    by_cases hz : sC (g k) = c ∧ sB (g k) ≤ t <;> simp [hz]
  rw [e]
  by_cases hz : sC (g k) = c ∧ sB (g k) ≤ t
  · rw [if_pos hz, if_pos hz]
  · rw [if_neg hz, if_neg hz]
/-- the reference's rows of cover, filled -/
def isCov (f : Nat → Int32) (B n : Nat) (g : Nat → Sg) : Prop := ∀ c t : Nat, c ≤ 6 → t < B → f (48 * c + t) = oI (cv B n g c t)
theorem m_fills (hD : isD (M 31) B L n g) (hn : n ≤ 120) (hg : okG n g) (hB : B ≤ 48)
    (hQ : ∀ f, isCov f B n g → Q none (mm_set M 37 f)) : wc 105 [.inr 30] M Q := by
  obtain ⟨c0, c1, c2, c3⟩ := hD
  simp (disch := first | assumption | exact isSc1 | exact isSc3 | exact isSc5 | decide | omega) only [eX8_fills, iX8_fills_0, iX8_fills_1, Nat.reduceAdd, Nat.reduceSub, Nat.reduceMul, Nat.reduceLeDiff, mm_rv_s, mm_rv_n, true_and, and_true, if_true, if_false, not_true_eq_false, not_false_eq_true, nI_add, nz_0, nz_lt0, nz_0le, nz_0lt, nz_le0, nz_lt, nz_le, nz_eq, nz_cl, nz_in, nz_sub, nz_m1, pk_mul, set_o, set_ne, up_ne, up_set, n1_1, true_or, or_true, n1_01, n0_01, bI_01, bI_01b, bI_0, isSc1, isSc3, isSc5, ln_2, ln_4, ln_6, ln_8, ln_10, ln_11, ln_12, ln_13, ln_14, ln_16, ln_17, ln_18, ln_19, ln_20, ln_21, ln_23, ln_24, ln_25, ln_27, ln_28, ln_29, ln_31, ln_32, ln_33, ln_35, ln_36, ln_37]
  have first : ∀ d k : Nat, k + d = 336 → ∀ f : Nat → Int32, (∀ x, x < k → f x = -1) → (∀ f, (∀ x, x < 336 → f x = -1) → wp 105 22 [some (.inr 30), some (.inl (nI 336)), none, none] [] (mm_set M 37 f) Q) → wp 105 2 [some (.inr 30), some (.inl (nI k)), none, none] [] (mm_set M 37 f) Q := by
    intro d
    induction d with
    | zero =>
      intro k hk f hf hq
      have hk : k = 336 := by omega
      subst hk
      rw [iX8_fills_2]
      simp (disch := first | assumption | exact isSc1 | exact isSc3 | exact isSc5 | decide | omega) only [iX8_fills_3, iX8_fills_6, Nat.reduceAdd, Nat.reduceSub, Nat.reduceMul, Nat.reduceLeDiff, mm_rv_s, mm_rv_n, true_and, and_true, if_true, if_false, not_true_eq_false, not_false_eq_true, nI_add, nz_0, nz_lt0, nz_0le, nz_0lt, nz_le0, nz_lt, nz_le, nz_eq, nz_cl, nz_in, nz_sub, nz_m1, pk_mul, set_o, set_ne, up_ne, up_set, n1_1, true_or, or_true, n1_01, n0_01, bI_01, bI_01b, bI_0, isSc1, isSc3, isSc5, ln_2, ln_4, ln_6, ln_8, ln_10, ln_11, ln_12, ln_13, ln_14, ln_16, ln_17, ln_18, ln_19, ln_20, ln_21, ln_23, ln_24, ln_25, ln_27, ln_28, ln_29, ln_31, ln_32, ln_33, ln_35, ln_36, ln_37]
      exact hq f hf
    | succ d ih =>
      intro k hk f hf hq
      rw [iX8_fills_2]
      simp (disch := first | assumption | exact isSc1 | exact isSc3 | exact isSc5 | decide | omega) only [iX8_fills_3, iX8_fills_6, iX8_fills_9, iX8_fills_10, iX8_fills_13, iX8_fills_14, iX8_fills_15, iX8_fills_16, iX8_fills_19, Nat.reduceAdd, Nat.reduceSub, Nat.reduceMul, Nat.reduceLeDiff, mm_rv_s, mm_rv_n, true_and, and_true, if_true, if_false, not_true_eq_false, not_false_eq_true, nI_add, nz_0, nz_lt0, nz_0le, nz_0lt, nz_le0, nz_lt, nz_le, nz_eq, nz_cl, nz_in, nz_sub, nz_m1, pk_mul, set_o, set_ne, up_ne, up_set, n1_1, true_or, or_true, n1_01, n0_01, bI_01, bI_01b, bI_0, isSc1, isSc3, isSc5, ln_2, ln_4, ln_6, ln_8, ln_10, ln_11, ln_12, ln_13, ln_14, ln_16, ln_17, ln_18, ln_19, ln_20, ln_21, ln_23, ln_24, ln_25, ln_27, ln_28, ln_29, ln_31, ln_32, ln_33, ln_35, ln_36, ln_37, show ¬ 336 ≤ k by omega]
      refine ih (k + 1) (by omega) _ (fun x hx => ?_) hq
      by_cases hx2 : x = k
      · subst hx2; rw [us]
      · rw [un _ _ _ _ hx2, hf x (by omega)]
  have fst := first 336 0 (by omega) (M 37) (fun x hx => absurd hx (by omega))
  rw [set_id] at fst
  refine fst (fun f hf => ?_)
  simp (disch := first | assumption | exact isSc1 | exact isSc3 | exact isSc5 | decide | omega) only [iX8_fills_22, iX8_fills_23, Nat.reduceAdd, Nat.reduceSub, Nat.reduceMul, Nat.reduceLeDiff, mm_rv_s, mm_rv_n, true_and, and_true, if_true, if_false, not_true_eq_false, not_false_eq_true, nI_add, nz_0, nz_lt0, nz_0le, nz_0lt, nz_le0, nz_lt, nz_le, nz_eq, nz_cl, nz_in, nz_sub, nz_m1, pk_mul, set_o, set_ne, up_ne, up_set, n1_1, true_or, or_true, n1_01, n0_01, bI_01, bI_01b, bI_0, isSc1, isSc3, isSc5, ln_2, ln_4, ln_6, ln_8, ln_10, ln_11, ln_12, ln_13, ln_14, ln_16, ln_17, ln_18, ln_19, ln_20, ln_21, ln_23, ln_24, ln_25, ln_27, ln_28, ln_29, ln_31, ln_32, ln_33, ln_35, ln_36, ln_37]
  have loop : ∀ d k : Nat, k + d = n → ∀ (f : Nat → Int32) (l2 l3 : Option mm_V), (∀ c t : Nat, c ≤ 6 → t < B → f (48 * c + t) = oI (cvk B g k c t)) → wp 105 24 [some (.inr 30), some (.inl (nI k)), l2, l3] [] (mm_set M 37 f) Q := by
    intro d
    induction d with
    | zero =>
      intro k hk f l2 l3 hf
      have hk : k = n := by omega
      subst hk
      rw [iX8_fills_24]
      simp (disch := first | assumption | exact isSc1 | exact isSc3 | exact isSc5 | decide | omega) only [iX8_fills_25, iX8_fills_26, iX8_fills_29, iX8_fills_30, iX8_fills_31, iX8_fills_138, Nat.reduceAdd, Nat.reduceSub, Nat.reduceMul, Nat.reduceLeDiff, mm_rv_s, mm_rv_n, true_and, and_true, if_true, if_false, not_true_eq_false, not_false_eq_true, nI_add, nz_0, nz_lt0, nz_0le, nz_0lt, nz_le0, nz_lt, nz_le, nz_eq, nz_cl, nz_in, nz_sub, nz_m1, pk_mul, set_o, set_ne, up_ne, up_set, n1_1, true_or, or_true, n1_01, n0_01, bI_01, bI_01b, bI_0, isSc1, isSc3, isSc5, ln_2, ln_4, ln_6, ln_8, ln_10, ln_11, ln_12, ln_13, ln_14, ln_16, ln_17, ln_18, ln_19, ln_20, ln_21, ln_23, ln_24, ln_25, ln_27, ln_28, ln_29, ln_31, ln_32, ln_33, ln_35, ln_36, ln_37, c2, Nat.le_refl]
      exact hQ f hf
    | succ d ih =>
      intro k hk f l2 l3 hf
      obtain ⟨b1, b2, b3, b4, b5, b6, b7, b8⟩ := okG_b hg (show k < n by omega)
      obtain ⟨e1, e2, e3, e4, e5, e6⟩ := c3 k (by omega)
      have inner : ∀ e t0 : Nat, t0 + e = max (sB (g k)) B → sB (g k) ≤ t0 → ∀ f' : Nat → Int32, (∀ c t : Nat, c ≤ 6 → t < B → f' (48 * c + t) = if c = sC (g k) ∧ sB (g k) ≤ t ∧ t < t0 then oI (if t < eM B (g k) then some k else none) else f (48 * c + t)) →
          wp 105 88 [some (.inr 30), some (.inl (nI k)), some (.inl (nI (eM B (g k)))), some (.inl (nI t0))] [] (mm_set M 37 f') Q := by
        intro e
        induction e with
        | zero =>
          intro t0 ht0 hst f' hf'
          rw [iX8_fills_88]
          simp (disch := first | assumption | exact isSc1 | exact isSc3 | exact isSc5 | decide | omega) only [iX8_fills_89, iX8_fills_90, iX8_fills_93, iX8_fills_94, iX8_fills_95, iX8_fills_132, iX8_fills_135, Nat.reduceAdd, Nat.reduceSub, Nat.reduceMul, Nat.reduceLeDiff, mm_rv_s, mm_rv_n, true_and, and_true, if_true, if_false, not_true_eq_false, not_false_eq_true, nI_add, nz_0, nz_lt0, nz_0le, nz_0lt, nz_le0, nz_lt, nz_le, nz_eq, nz_cl, nz_in, nz_sub, nz_m1, pk_mul, set_o, set_ne, up_ne, up_set, n1_1, true_or, or_true, n1_01, n0_01, bI_01, bI_01b, bI_0, isSc1, isSc3, isSc5, ln_2, ln_4, ln_6, ln_8, ln_10, ln_11, ln_12, ln_13, ln_14, ln_16, ln_17, ln_18, ln_19, ln_20, ln_21, ln_23, ln_24, ln_25, ln_27, ln_28, ln_29, ln_31, ln_32, ln_33, ln_35, ln_36, ln_37, c0, show B ≤ t0 by omega]
          refine ih (k + 1) (by omega) f' _ _ (fun c t hc ht => ?_)
          rw [hf' c t hc ht, cvk_s]
          by_cases hz : sC (g k) = c ∧ sB (g k) ≤ t
          · rw [if_pos hz, if_pos ⟨hz.1.symm, hz.2, by omega⟩]
          · rw [if_neg hz, if_neg (fun y => hz ⟨y.1.symm, y.2.1⟩)]
            exact hf c t hc ht
        | succ e ihe =>
          intro t0 ht0 hst f' hf'
          have hm : eM B (g k) ≤ 200 := by unfold eM; split <;> omega
          have step : ∀ v : Int32, v = oI (if t0 < eM B (g k) then some k else none) → wp 105 88 [some (.inr 30), some (.inl (nI k)), some (.inl (nI (eM B (g k)))), some (.inl (nI (t0 + 1)))] [] (mm_set M 37 (upd f' (48 * sC (g k) + t0) v)) Q := by
            intro v hv
            refine ihe (t0 + 1) (by omega) (by omega) _ (fun c t hc ht => ?_)
            by_cases hz : c = sC (g k) ∧ t = t0
            · obtain ⟨rfl, rfl⟩ := hz
              rw [us, if_pos (by omega), hv]
            · rw [un _ _ _ _ (by omega), hf' c t hc ht]
              by_cases hz2 : c = sC (g k) ∧ sB (g k) ≤ t ∧ t < t0
              · rw [if_pos hz2, if_pos (show c = sC (g k) ∧ sB (g k) ≤ t ∧ t < t0 + 1 from ⟨hz2.1, hz2.2.1, by omega⟩)]
              · rw [if_neg hz2, if_neg (show ¬ (c = sC (g k) ∧ sB (g k) ≤ t ∧ t < t0 + 1) by omega)]
          rw [iX8_fills_88]
          simp (disch := first | assumption | exact isSc1 | exact isSc3 | exact isSc5 | decide | omega) only [iX8_fills_89, iX8_fills_90, iX8_fills_93, iX8_fills_94, iX8_fills_95, iX8_fills_98, iX8_fills_99, iX8_fills_102, iX8_fills_104, iX8_fills_105, iX8_fills_108, iX8_fills_109, iX8_fills_110, iX8_fills_111, iX8_fills_112, iX8_fills_113, iX8_fills_114, iX8_fills_115, iX8_fills_116, iX8_fills_117, iX8_fills_120, iX8_fills_121, iX8_fills_124, iX8_fills_125, iX8_fills_126, iX8_fills_129, Nat.reduceAdd, Nat.reduceSub, Nat.reduceMul, Nat.reduceLeDiff, mm_rv_s, mm_rv_n, true_and, and_true, if_true, if_false, not_true_eq_false, not_false_eq_true, nI_add, nz_0, nz_lt0, nz_0le, nz_0lt, nz_le0, nz_lt, nz_le, nz_eq, nz_cl, nz_in, nz_sub, nz_m1, pk_mul, set_o, set_ne, up_ne, up_set, n1_1, true_or, or_true, n1_01, n0_01, bI_01, bI_01b, bI_0, isSc1, isSc3, isSc5, ln_2, ln_4, ln_6, ln_8, ln_10, ln_11, ln_12, ln_13, ln_14, ln_16, ln_17, ln_18, ln_19, ln_20, ln_21, ln_23, ln_24, ln_25, ln_27, ln_28, ln_29, ln_31, ln_32, ln_33, ln_35, ln_36, ln_37, c0, show ¬ B ≤ t0 by omega, e1]
          by_cases hlt : t0 < eM B (g k)
          · rw [if_neg (by omega)]
            exact step _ (by rw [if_pos hlt]; rfl)
          · rw [if_pos (by omega)]
            exact step _ (by rw [if_neg hlt]; rfl)
      have start : ∀ l3 : Option mm_V, wp 105 77 [some (.inr 30), some (.inl (nI k)), l2, l3] [.inl (nI (eM B (g k)))] (mm_set M 37 f) Q := by
        intro l3
        simp (disch := first | assumption | exact isSc1 | exact isSc3 | exact isSc5 | decide | omega) only [iX8_fills_77, iX8_fills_78, iX8_fills_79, iX8_fills_82, iX8_fills_84, iX8_fills_85, iX8_fills_86, iX8_fills_87, Nat.reduceAdd, Nat.reduceSub, Nat.reduceMul, Nat.reduceLeDiff, mm_rv_s, mm_rv_n, true_and, and_true, if_true, if_false, not_true_eq_false, not_false_eq_true, nI_add, nz_0, nz_lt0, nz_0le, nz_0lt, nz_le0, nz_lt, nz_le, nz_eq, nz_cl, nz_in, nz_sub, nz_m1, pk_mul, set_o, set_ne, up_ne, up_set, n1_1, true_or, or_true, n1_01, n0_01, bI_01, bI_01b, bI_0, isSc1, isSc3, isSc5, ln_2, ln_4, ln_6, ln_8, ln_10, ln_11, ln_12, ln_13, ln_14, ln_16, ln_17, ln_18, ln_19, ln_20, ln_21, ln_23, ln_24, ln_25, ln_27, ln_28, ln_29, ln_31, ln_32, ln_33, ln_35, ln_36, ln_37, e2]
        exact inner (max (sB (g k)) B - sB (g k)) (sB (g k)) (by omega) (Nat.le_refl _) f (fun c t hc ht => by rw [if_neg (by omega)])
      rw [iX8_fills_24]
      simp (disch := first | assumption | exact isSc1 | exact isSc3 | exact isSc5 | decide | omega) only [iX8_fills_25, iX8_fills_26, iX8_fills_29, iX8_fills_30, iX8_fills_31, iX8_fills_34, iX8_fills_35, iX8_fills_38, iX8_fills_41, iX8_fills_42, iX8_fills_43, iX8_fills_44, iX8_fills_45, Nat.reduceAdd, Nat.reduceSub, Nat.reduceMul, Nat.reduceLeDiff, mm_rv_s, mm_rv_n, true_and, and_true, if_true, if_false, not_true_eq_false, not_false_eq_true, nI_add, nz_0, nz_lt0, nz_0le, nz_0lt, nz_le0, nz_lt, nz_le, nz_eq, nz_cl, nz_in, nz_sub, nz_m1, pk_mul, set_o, set_ne, up_ne, up_set, n1_1, true_or, or_true, n1_01, n0_01, bI_01, bI_01b, bI_0, isSc1, isSc3, isSc5, ln_2, ln_4, ln_6, ln_8, ln_10, ln_11, ln_12, ln_13, ln_14, ln_16, ln_17, ln_18, ln_19, ln_20, ln_21, ln_23, ln_24, ln_25, ln_27, ln_28, ln_29, ln_31, ln_32, ln_33, ln_35, ln_36, ln_37, c2, show ¬ n ≤ k by omega, e3]
      by_cases hk1 : sK (g k) = 1
      · rw [if_neg (by simpa using hk1)]
        simp (disch := first | assumption | exact isSc1 | exact isSc3 | exact isSc5 | decide | omega) only [iX8_fills_48, iX8_fills_49, iX8_fills_52, iX8_fills_53, iX8_fills_54, Nat.reduceAdd, Nat.reduceSub, Nat.reduceMul, Nat.reduceLeDiff, mm_rv_s, mm_rv_n, true_and, and_true, if_true, if_false, not_true_eq_false, not_false_eq_true, nI_add, nz_0, nz_lt0, nz_0le, nz_0lt, nz_le0, nz_lt, nz_le, nz_eq, nz_cl, nz_in, nz_sub, nz_m1, pk_mul, set_o, set_ne, up_ne, up_set, n1_1, true_or, or_true, n1_01, n0_01, bI_01, bI_01b, bI_0, isSc1, isSc3, isSc5, ln_2, ln_4, ln_6, ln_8, ln_10, ln_11, ln_12, ln_13, ln_14, ln_16, ln_17, ln_18, ln_19, ln_20, ln_21, ln_23, ln_24, ln_25, ln_27, ln_28, ln_29, ln_31, ln_32, ln_33, ln_35, ln_36, ln_37, c0]
        have e : eM B (g k) = B := by unfold eM; rw [if_pos hk1]
        rw [← e]
        rw [e] at start
        rw [e]
        exact start l3
      · rw [if_pos hk1]
        simp (disch := first | assumption | exact isSc1 | exact isSc3 | exact isSc5 | decide | omega) only [iX8_fills_57, iX8_fills_58, iX8_fills_61, iX8_fills_63, iX8_fills_64, iX8_fills_65, iX8_fills_66, iX8_fills_67, iX8_fills_70, iX8_fills_73, iX8_fills_74, iX8_fills_75, iX8_fills_76, Nat.reduceAdd, Nat.reduceSub, Nat.reduceMul, Nat.reduceLeDiff, mm_rv_s, mm_rv_n, true_and, and_true, if_true, if_false, not_true_eq_false, not_false_eq_true, nI_add, nz_0, nz_lt0, nz_0le, nz_0lt, nz_le0, nz_lt, nz_le, nz_eq, nz_cl, nz_in, nz_sub, nz_m1, pk_mul, set_o, set_ne, up_ne, up_set, n1_1, true_or, or_true, n1_01, n0_01, bI_01, bI_01b, bI_0, isSc1, isSc3, isSc5, ln_2, ln_4, ln_6, ln_8, ln_10, ln_11, ln_12, ln_13, ln_14, ln_16, ln_17, ln_18, ln_19, ln_20, ln_21, ln_23, ln_24, ln_25, ln_27, ln_28, ln_29, ln_31, ln_32, ln_33, ln_35, ln_36, ln_37, e2, e4]
        have e : eM B (g k) = sB (g k) + sN (g k) := by unfold eM; rw [if_neg hk1]
        rw [← e]
        exact start l3
  refine loop n 0 (by omega) f _ _ (fun c t hc ht => ?_)
  rw [hf _ (by omega)]
  rfl
theorem m_covering {f : Nat → Int32} (hM : M 37 = f) (hf : isCov f B n g) {c t : Nat} (hc : c ≤ 6) (ht : t < B) (hB : B ≤ 48) : wc 106 [.inr 30, .inl (nI c), .inl (nI t)] M Q ↔ Q (some (oI (cv B n g c t))) M := by
  simp (disch := first | assumption | exact isSc1 | exact isSc3 | exact isSc5 | decide | omega) only [eX8_covering, iX8_covering_0, iX8_covering_1, iX8_covering_4, iX8_covering_6, iX8_covering_7, iX8_covering_8, iX8_covering_9, iX8_covering_10, iX8_covering_11, Nat.reduceAdd, Nat.reduceSub, Nat.reduceMul, Nat.reduceLeDiff, mm_rv_s, mm_rv_n, true_and, and_true, if_true, if_false, not_true_eq_false, not_false_eq_true, nI_add, nz_0, nz_lt0, nz_0le, nz_0lt, nz_le0, nz_lt, nz_le, nz_eq, nz_cl, nz_in, nz_sub, nz_m1, pk_mul, set_o, set_ne, up_ne, up_set, n1_1, true_or, or_true, n1_01, n0_01, bI_01, bI_01b, bI_0, isSc1, isSc3, isSc5, ln_2, ln_4, ln_6, ln_8, ln_10, ln_11, ln_12, ln_13, ln_14, ln_16, ln_17, ln_18, ln_19, ln_20, ln_21, ln_23, ln_24, ln_25, ln_27, ln_28, ln_29, ln_31, ln_32, ln_33, ln_35, ln_36, ln_37, hM, hf c t hc ht]
theorem m_isFree (hD : isD (M 31) B L n g) (hv : Val B n g) {c b l : Nat} (hc : c ≤ 6) (hb : b < B) (hl : 1 ≤ l) (hl2 : l ≤ 48)
    (h1 : ∀ f, roomS B n g c b l → Q (some (nI 1)) (mm_set M 37 f)) (h2 : ∀ f, ¬ roomS B n g c b l → Q (some (nI 0)) (mm_set M 37 f)) : wc 107 [.inr 30, .inl (nI c), .inl (nI b), .inl (nI l)] M Q := by
  obtain ⟨c0, c1, c2, c3⟩ := id hD
  obtain ⟨w1, w2, w3, v1, v2, v3⟩ := id hv
  have hg := hv.okG
  simp (disch := first | assumption | exact isSc1 | exact isSc3 | exact isSc5 | decide | omega) only [eX8_isFree, iX8_isFree_0, iX8_isFree_1, Nat.reduceAdd, Nat.reduceSub, Nat.reduceMul, Nat.reduceLeDiff, mm_rv_s, mm_rv_n, true_and, and_true, if_true, if_false, not_true_eq_false, not_false_eq_true, nI_add, nz_0, nz_lt0, nz_0le, nz_0lt, nz_le0, nz_lt, nz_le, nz_eq, nz_cl, nz_in, nz_sub, nz_m1, pk_mul, set_o, set_ne, up_ne, up_set, n1_1, true_or, or_true, n1_01, n0_01, bI_01, bI_01b, bI_0, isSc1, isSc3, isSc5, ln_2, ln_4, ln_6, ln_8, ln_10, ln_11, ln_12, ln_13, ln_14, ln_16, ln_17, ln_18, ln_19, ln_20, ln_21, ln_23, ln_24, ln_25, ln_27, ln_28, ln_29, ln_31, ln_32, ln_33, ln_35, ln_36, ln_37]
  refine m_fills hD w3 hg w2 (fun f hf => ?_)
  have hM37 : mm_set M 37 f 37 = f := set_o _ _ _
  simp (disch := first | assumption | exact isSc1 | exact isSc3 | exact isSc5 | decide | omega) only [iX8_isFree_4, iX8_isFree_5, iX8_isFree_6, iX8_isFree_7, Nat.reduceAdd, Nat.reduceSub, Nat.reduceMul, Nat.reduceLeDiff, mm_rv_s, mm_rv_n, true_and, and_true, if_true, if_false, not_true_eq_false, not_false_eq_true, nI_add, nz_0, nz_lt0, nz_0le, nz_0lt, nz_le0, nz_lt, nz_le, nz_eq, nz_cl, nz_in, nz_sub, nz_m1, pk_mul, set_o, set_ne, up_ne, up_set, n1_1, true_or, or_true, n1_01, n0_01, bI_01, bI_01b, bI_0, isSc1, isSc3, isSc5, ln_2, ln_4, ln_6, ln_8, ln_10, ln_11, ln_12, ln_13, ln_14, ln_16, ln_17, ln_18, ln_19, ln_20, ln_21, ln_23, ln_24, ln_25, ln_27, ln_28, ln_29, ln_31, ln_32, ln_33, ln_35, ln_36, ln_37, m_covering hM37 hf hc hb w2]
  simp (disch := first | assumption | exact isSc1 | exact isSc3 | exact isSc5 | decide | omega) only [iX8_isFree_10, iX8_isFree_12, iX8_isFree_14, Nat.reduceAdd, Nat.reduceSub, Nat.reduceMul, Nat.reduceLeDiff, mm_rv_s, mm_rv_n, true_and, and_true, if_true, if_false, not_true_eq_false, not_false_eq_true, nI_add, nz_0, nz_lt0, nz_0le, nz_0lt, nz_le0, nz_lt, nz_le, nz_eq, nz_cl, nz_in, nz_sub, nz_m1, pk_mul, set_o, set_ne, up_ne, up_set, n1_1, true_or, or_true, n1_01, n0_01, bI_01, bI_01b, bI_0, isSc1, isSc3, isSc5, ln_2, ln_4, ln_6, ln_8, ln_10, ln_11, ln_12, ln_13, ln_14, ln_16, ln_17, ln_18, ln_19, ln_20, ln_21, ln_23, ln_24, ln_25, ln_27, ln_28, ln_29, ln_31, ln_32, ln_33, ln_35, ln_36, ln_37]
  -- the loop, with what was told of the beat itself
  have loop : ∀ (z : Bool) (l4 : Option mm_V), (z = true ↔ ∀ i, cv B n g c b = some i → sK (g i) = 1) → ∀ d k : Nat, k + d = n → ∀ y : Bool, (y = true ↔ (z = true ∧ ∀ i, i < k → ¬ (sC (g i) = c ∧ b ≤ sB (g i) ∧ sB (g i) ≤ b + l - 1))) →
      wp 107 42 [some (.inr 30), some (.inl (nI c)), some (.inl (nI b)), some (.inl (nI l)), l4, some (.inl (bI y)), some (.inl (nI k))] [] (mm_set M 37 f) Q := by
    intro z l4 hz d
    induction d with
    | zero =>
      intro k hk y hy
      have hk : k = n := by omega
      subst hk
      rw [iX8_isFree_42]
      simp (disch := first | assumption | exact isSc1 | exact isSc3 | exact isSc5 | decide | omega) only [iX8_isFree_44, iX8_isFree_45, iX8_isFree_48, iX8_isFree_49, iX8_isFree_50, iX8_isFree_106, iX8_isFree_108, Nat.reduceAdd, Nat.reduceSub, Nat.reduceMul, Nat.reduceLeDiff, mm_rv_s, mm_rv_n, true_and, and_true, if_true, if_false, not_true_eq_false, not_false_eq_true, nI_add, nz_0, nz_lt0, nz_0le, nz_0lt, nz_le0, nz_lt, nz_le, nz_eq, nz_cl, nz_in, nz_sub, nz_m1, pk_mul, set_o, set_ne, up_ne, up_set, n1_1, true_or, or_true, n1_01, n0_01, bI_01, bI_01b, bI_0, isSc1, isSc3, isSc5, ln_2, ln_4, ln_6, ln_8, ln_10, ln_11, ln_12, ln_13, ln_14, ln_16, ln_17, ln_18, ln_19, ln_20, ln_21, ln_23, ln_24, ln_25, ln_27, ln_28, ln_29, ln_31, ln_32, ln_33, ln_35, ln_36, ln_37, c2, Nat.le_refl]
      have hr := room_iff hv (c := c) hb hl
      cases y with
      | true =>
        have hy := hy.mp rfl
        exact h1 f (hr.mpr ⟨hz.mp hy.1, hy.2⟩)
      | false =>
        refine h2 f (fun w => ?_)
        have w2 := hr.mp w
        have := hy.mpr ⟨hz.mpr w2.1, w2.2⟩
        cases this
    | succ d ih =>
      intro k hk y hy
      obtain ⟨b1, b2, b3, b4, b5, b6, b7, b8⟩ := okG_b hg (show k < n by omega)
      obtain ⟨e1, e2, e3, e4, e5, e6⟩ := c3 k (by omega)
      have next : ∀ y' : Bool, (y' = true ↔ (y = true ∧ ¬ (sC (g k) = c ∧ b ≤ sB (g k) ∧ sB (g k) ≤ b + l - 1))) → wp 107 100 [some (.inr 30), some (.inl (nI c)), some (.inl (nI b)), some (.inl (nI l)), l4, some (.inl (bI y')), some (.inl (nI k))] [] (mm_set M 37 f) Q := by
        intro y' hy'
        simp (disch := first | assumption | exact isSc1 | exact isSc3 | exact isSc5 | decide | omega) only [iX8_isFree_100, iX8_isFree_103, Nat.reduceAdd, Nat.reduceSub, Nat.reduceMul, Nat.reduceLeDiff, mm_rv_s, mm_rv_n, true_and, and_true, if_true, if_false, not_true_eq_false, not_false_eq_true, nI_add, nz_0, nz_lt0, nz_0le, nz_0lt, nz_le0, nz_lt, nz_le, nz_eq, nz_cl, nz_in, nz_sub, nz_m1, pk_mul, set_o, set_ne, up_ne, up_set, n1_1, true_or, or_true, n1_01, n0_01, bI_01, bI_01b, bI_0, isSc1, isSc3, isSc5, ln_2, ln_4, ln_6, ln_8, ln_10, ln_11, ln_12, ln_13, ln_14, ln_16, ln_17, ln_18, ln_19, ln_20, ln_21, ln_23, ln_24, ln_25, ln_27, ln_28, ln_29, ln_31, ln_32, ln_33, ln_35, ln_36, ln_37]
        refine ih (k + 1) (by omega) y' ?_
        rw [hy', hy]
        constructor
        · rintro ⟨⟨p1, p2⟩, p3⟩
          refine ⟨p1, fun i hi => ?_⟩
          by_cases hik : i = k
          · subst hik; exact p3
          · exact p2 i (by omega)
        · rintro ⟨p1, p2⟩
          exact ⟨⟨p1, fun i hi => p2 i (by omega)⟩, p2 k (by omega)⟩
      rw [iX8_isFree_42]
      simp (disch := first | assumption | exact isSc1 | exact isSc3 | exact isSc5 | decide | omega) only [iX8_isFree_44, iX8_isFree_45, iX8_isFree_48, iX8_isFree_49, iX8_isFree_50, iX8_isFree_53, iX8_isFree_55, Nat.reduceAdd, Nat.reduceSub, Nat.reduceMul, Nat.reduceLeDiff, mm_rv_s, mm_rv_n, true_and, and_true, if_true, if_false, not_true_eq_false, not_false_eq_true, nI_add, nz_0, nz_lt0, nz_0le, nz_0lt, nz_le0, nz_lt, nz_le, nz_eq, nz_cl, nz_in, nz_sub, nz_m1, pk_mul, set_o, set_ne, up_ne, up_set, n1_1, true_or, or_true, n1_01, n0_01, bI_01, bI_01b, bI_0, isSc1, isSc3, isSc5, ln_2, ln_4, ln_6, ln_8, ln_10, ln_11, ln_12, ln_13, ln_14, ln_16, ln_17, ln_18, ln_19, ln_20, ln_21, ln_23, ln_24, ln_25, ln_27, ln_28, ln_29, ln_31, ln_32, ln_33, ln_35, ln_36, ln_37, c2, show ¬ n ≤ k by omega]
      cases y with
      | false =>
        rw [if_pos rfl]
        simp (disch := first | assumption | exact isSc1 | exact isSc3 | exact isSc5 | decide | omega) only [iX8_isFree_97, iX8_isFree_98, Nat.reduceAdd, Nat.reduceSub, Nat.reduceMul, Nat.reduceLeDiff, mm_rv_s, mm_rv_n, true_and, and_true, if_true, if_false, not_true_eq_false, not_false_eq_true, nI_add, nz_0, nz_lt0, nz_0le, nz_0lt, nz_le0, nz_lt, nz_le, nz_eq, nz_cl, nz_in, nz_sub, nz_m1, pk_mul, set_o, set_ne, up_ne, up_set, n1_1, true_or, or_true, n1_01, n0_01, bI_01, bI_01b, bI_0, isSc1, isSc3, isSc5, ln_2, ln_4, ln_6, ln_8, ln_10, ln_11, ln_12, ln_13, ln_14, ln_16, ln_17, ln_18, ln_19, ln_20, ln_21, ln_23, ln_24, ln_25, ln_27, ln_28, ln_29, ln_31, ln_32, ln_33, ln_35, ln_36, ln_37]
        exact next false (by simp)
      | true =>
        rw [if_neg (by decide)]
        simp (disch := first | assumption | exact isSc1 | exact isSc3 | exact isSc5 | decide | omega) only [iX8_isFree_58, iX8_isFree_59, iX8_isFree_62, iX8_isFree_63, iX8_isFree_65, iX8_isFree_66, iX8_isFree_67, iX8_isFree_68, Nat.reduceAdd, Nat.reduceSub, Nat.reduceMul, Nat.reduceLeDiff, mm_rv_s, mm_rv_n, true_and, and_true, if_true, if_false, not_true_eq_false, not_false_eq_true, nI_add, nz_0, nz_lt0, nz_0le, nz_0lt, nz_le0, nz_lt, nz_le, nz_eq, nz_cl, nz_in, nz_sub, nz_m1, pk_mul, set_o, set_ne, up_ne, up_set, n1_1, true_or, or_true, n1_01, n0_01, bI_01, bI_01b, bI_0, isSc1, isSc3, isSc5, ln_2, ln_4, ln_6, ln_8, ln_10, ln_11, ln_12, ln_13, ln_14, ln_16, ln_17, ln_18, ln_19, ln_20, ln_21, ln_23, ln_24, ln_25, ln_27, ln_28, ln_29, ln_31, ln_32, ln_33, ln_35, ln_36, ln_37, e1]
        by_cases hcc : sC (g k) = c
        · rw [if_neg (by simpa using hcc)]
          simp (disch := first | assumption | exact isSc1 | exact isSc3 | exact isSc5 | decide | omega) only [iX8_isFree_71, iX8_isFree_72, iX8_isFree_75, iX8_isFree_77, iX8_isFree_79, iX8_isFree_80, iX8_isFree_81, iX8_isFree_82, iX8_isFree_83, iX8_isFree_84, iX8_isFree_85, iX8_isFree_86, iX8_isFree_87, Nat.reduceAdd, Nat.reduceSub, Nat.reduceMul, Nat.reduceLeDiff, mm_rv_s, mm_rv_n, true_and, and_true, if_true, if_false, not_true_eq_false, not_false_eq_true, nI_add, nz_0, nz_lt0, nz_0le, nz_0lt, nz_le0, nz_lt, nz_le, nz_eq, nz_cl, nz_in, nz_sub, nz_m1, pk_mul, set_o, set_ne, up_ne, up_set, n1_1, true_or, or_true, n1_01, n0_01, bI_01, bI_01b, bI_0, isSc1, isSc3, isSc5, ln_2, ln_4, ln_6, ln_8, ln_10, ln_11, ln_12, ln_13, ln_14, ln_16, ln_17, ln_18, ln_19, ln_20, ln_21, ln_23, ln_24, ln_25, ln_27, ln_28, ln_29, ln_31, ln_32, ln_33, ln_35, ln_36, ln_37, e2, p_in]
          simp (disch := first | assumption | exact isSc1 | exact isSc3 | exact isSc5 | decide | omega) only [iX8_isFree_90, Nat.reduceAdd, Nat.reduceSub, Nat.reduceMul, Nat.reduceLeDiff, mm_rv_s, mm_rv_n, true_and, and_true, if_true, if_false, not_true_eq_false, not_false_eq_true, nI_add, nz_0, nz_lt0, nz_0le, nz_0lt, nz_le0, nz_lt, nz_le, nz_eq, nz_cl, nz_in, nz_sub, nz_m1, pk_mul, set_o, set_ne, up_ne, up_set, n1_1, true_or, or_true, n1_01, n0_01, bI_01, bI_01b, bI_0, isSc1, isSc3, isSc5, ln_2, ln_4, ln_6, ln_8, ln_10, ln_11, ln_12, ln_13, ln_14, ln_16, ln_17, ln_18, ln_19, ln_20, ln_21, ln_23, ln_24, ln_25, ln_27, ln_28, ln_29, ln_31, ln_32, ln_33, ln_35, ln_36, ln_37]
          by_cases hx : b ≤ sB (g k) ∧ sB (g k) ≤ b + l - 1
          · simp only [hx, and_self, decide_true, Bool.true_eq_false, not_false_eq_true, if_true]
            simp (disch := first | assumption | exact isSc1 | exact isSc3 | exact isSc5 | decide | omega) only [iX8_isFree_97, iX8_isFree_98, Nat.reduceAdd, Nat.reduceSub, Nat.reduceMul, Nat.reduceLeDiff, mm_rv_s, mm_rv_n, true_and, and_true, if_true, if_false, not_true_eq_false, not_false_eq_true, nI_add, nz_0, nz_lt0, nz_0le, nz_0lt, nz_le0, nz_lt, nz_le, nz_eq, nz_cl, nz_in, nz_sub, nz_m1, pk_mul, set_o, set_ne, up_ne, up_set, n1_1, true_or, or_true, n1_01, n0_01, bI_01, bI_01b, bI_0, isSc1, isSc3, isSc5, ln_2, ln_4, ln_6, ln_8, ln_10, ln_11, ln_12, ln_13, ln_14, ln_16, ln_17, ln_18, ln_19, ln_20, ln_21, ln_23, ln_24, ln_25, ln_27, ln_28, ln_29, ln_31, ln_32, ln_33, ln_35, ln_36, ln_37]
            exact next false (by simp [hcc, hx])
          · simp only [hx, decide_false, not_true_eq_false, if_false]
            simp (disch := first | assumption | exact isSc1 | exact isSc3 | exact isSc5 | decide | omega) only [iX8_isFree_93, iX8_isFree_94, iX8_isFree_97, iX8_isFree_98, Nat.reduceAdd, Nat.reduceSub, Nat.reduceMul, Nat.reduceLeDiff, mm_rv_s, mm_rv_n, true_and, and_true, if_true, if_false, not_true_eq_false, not_false_eq_true, nI_add, nz_0, nz_lt0, nz_0le, nz_0lt, nz_le0, nz_lt, nz_le, nz_eq, nz_cl, nz_in, nz_sub, nz_m1, pk_mul, set_o, set_ne, up_ne, up_set, n1_1, true_or, or_true, n1_01, n0_01, bI_01, bI_01b, bI_0, isSc1, isSc3, isSc5, ln_2, ln_4, ln_6, ln_8, ln_10, ln_11, ln_12, ln_13, ln_14, ln_16, ln_17, ln_18, ln_19, ln_20, ln_21, ln_23, ln_24, ln_25, ln_27, ln_28, ln_29, ln_31, ln_32, ln_33, ln_35, ln_36, ln_37]
            exact next true (by simp [hx])
        · rw [if_pos hcc]
          simp (disch := first | assumption | exact isSc1 | exact isSc3 | exact isSc5 | decide | omega) only [iX8_isFree_93, iX8_isFree_94, iX8_isFree_97, iX8_isFree_98, Nat.reduceAdd, Nat.reduceSub, Nat.reduceMul, Nat.reduceLeDiff, mm_rv_s, mm_rv_n, true_and, and_true, if_true, if_false, not_true_eq_false, not_false_eq_true, nI_add, nz_0, nz_lt0, nz_0le, nz_0lt, nz_le0, nz_lt, nz_le, nz_eq, nz_cl, nz_in, nz_sub, nz_m1, pk_mul, set_o, set_ne, up_ne, up_set, n1_1, true_or, or_true, n1_01, n0_01, bI_01, bI_01b, bI_0, isSc1, isSc3, isSc5, ln_2, ln_4, ln_6, ln_8, ln_10, ln_11, ln_12, ln_13, ln_14, ln_16, ln_17, ln_18, ln_19, ln_20, ln_21, ln_23, ln_24, ln_25, ln_27, ln_28, ln_29, ln_31, ln_32, ln_33, ln_35, ln_36, ln_37]
          exact next true (by simp [hcc])
  have begin_ : ∀ (z : Bool) (l4 : Option mm_V), (z = true ↔ ∀ i, cv B n g c b = some i → sK (g i) = 1) → wp 107 37 [some (.inr 30), some (.inl (nI c)), some (.inl (nI b)), some (.inl (nI l)), l4, none, none] [.inl (bI z)] (mm_set M 37 f) Q := by
    intro z l4 hz
    simp (disch := first | assumption | exact isSc1 | exact isSc3 | exact isSc5 | decide | omega) only [iX8_isFree_37, iX8_isFree_39, iX8_isFree_40, Nat.reduceAdd, Nat.reduceSub, Nat.reduceMul, Nat.reduceLeDiff, mm_rv_s, mm_rv_n, true_and, and_true, if_true, if_false, not_true_eq_false, not_false_eq_true, nI_add, nz_0, nz_lt0, nz_0le, nz_0lt, nz_le0, nz_lt, nz_le, nz_eq, nz_cl, nz_in, nz_sub, nz_m1, pk_mul, set_o, set_ne, up_ne, up_set, n1_1, true_or, or_true, n1_01, n0_01, bI_01, bI_01b, bI_0, isSc1, isSc3, isSc5, ln_2, ln_4, ln_6, ln_8, ln_10, ln_11, ln_12, ln_13, ln_14, ln_16, ln_17, ln_18, ln_19, ln_20, ln_21, ln_23, ln_24, ln_25, ln_27, ln_28, ln_29, ln_31, ln_32, ln_33, ln_35, ln_36, ln_37]
    exact loop z l4 hz n 0 (by omega) z (by simp)
  cases hcv : cv B n g c b with
  | none =>
    have e : (oI (none : Option Nat) < 0) = True := by simp [oI]
    simp only [e, if_true]
    simp (disch := first | assumption | exact isSc1 | exact isSc3 | exact isSc5 | decide | omega) only [iX8_isFree_32, iX8_isFree_33, Nat.reduceAdd, Nat.reduceSub, Nat.reduceMul, Nat.reduceLeDiff, mm_rv_s, mm_rv_n, true_and, and_true, if_true, if_false, not_true_eq_false, not_false_eq_true, nI_add, nz_0, nz_lt0, nz_0le, nz_0lt, nz_le0, nz_lt, nz_le, nz_eq, nz_cl, nz_in, nz_sub, nz_m1, pk_mul, set_o, set_ne, up_ne, up_set, n1_1, true_or, or_true, n1_01, n0_01, bI_01, bI_01b, bI_0, isSc1, isSc3, isSc5, ln_2, ln_4, ln_6, ln_8, ln_10, ln_11, ln_12, ln_13, ln_14, ln_16, ln_17, ln_18, ln_19, ln_20, ln_21, ln_23, ln_24, ln_25, ln_27, ln_28, ln_29, ln_31, ln_32, ln_33, ln_35, ln_36, ln_37]
    exact begin_ true _ (by rw [hcv]; simp)
  | some i =>
    have hin : i < n := by
      unfold cv at hcv
      cases hla : latest g n c b with
      | none => rw [hla] at hcv; cases hcv
      | some j =>
        rw [hla] at hcv
        simp only at hcv
        split at hcv
        · cases hcv
          exact (latest_some hla).1
        · cases hcv
    obtain ⟨b1, b2, b3, b4, b5, b6, b7, b8⟩ := okG_b hg hin
    obtain ⟨e1, e2, e3, e4, e5, e6⟩ := c3 i hin
    simp (disch := first | assumption | exact isSc1 | exact isSc3 | exact isSc5 | decide | omega) only [oI, Nat.reduceAdd, Nat.reduceSub, Nat.reduceMul, Nat.reduceLeDiff, mm_rv_s, mm_rv_n, true_and, and_true, if_true, if_false, not_true_eq_false, not_false_eq_true, nI_add, nz_0, nz_lt0, nz_0le, nz_0lt, nz_le0, nz_lt, nz_le, nz_eq, nz_cl, nz_in, nz_sub, nz_m1, pk_mul, set_o, set_ne, up_ne, up_set, n1_1, true_or, or_true, n1_01, n0_01, bI_01, bI_01b, bI_0, isSc1, isSc3, isSc5, ln_2, ln_4, ln_6, ln_8, ln_10, ln_11, ln_12, ln_13, ln_14, ln_16, ln_17, ln_18, ln_19, ln_20, ln_21, ln_23, ln_24, ln_25, ln_27, ln_28, ln_29, ln_31, ln_32, ln_33, ln_35, ln_36, ln_37, iX8_isFree_17, iX8_isFree_18, iX8_isFree_21, iX8_isFree_24, iX8_isFree_26, iX8_isFree_27, iX8_isFree_28, iX8_isFree_29, e3]
    by_cases hk1 : sK (g i) = 1
    · rw [if_neg (by simpa using hk1)]
      simp (disch := first | assumption | exact isSc1 | exact isSc3 | exact isSc5 | decide | omega) only [iX8_isFree_32, iX8_isFree_33, Nat.reduceAdd, Nat.reduceSub, Nat.reduceMul, Nat.reduceLeDiff, mm_rv_s, mm_rv_n, true_and, and_true, if_true, if_false, not_true_eq_false, not_false_eq_true, nI_add, nz_0, nz_lt0, nz_0le, nz_0lt, nz_le0, nz_lt, nz_le, nz_eq, nz_cl, nz_in, nz_sub, nz_m1, pk_mul, set_o, set_ne, up_ne, up_set, n1_1, true_or, or_true, n1_01, n0_01, bI_01, bI_01b, bI_0, isSc1, isSc3, isSc5, ln_2, ln_4, ln_6, ln_8, ln_10, ln_11, ln_12, ln_13, ln_14, ln_16, ln_17, ln_18, ln_19, ln_20, ln_21, ln_23, ln_24, ln_25, ln_27, ln_28, ln_29, ln_31, ln_32, ln_33, ln_35, ln_36, ln_37]
      exact begin_ true _ (by rw [hcv]; simp [hk1])
    · rw [if_pos hk1]
      simp (disch := first | assumption | exact isSc1 | exact isSc3 | exact isSc5 | decide | omega) only [iX8_isFree_36, Nat.reduceAdd, Nat.reduceSub, Nat.reduceMul, Nat.reduceLeDiff, mm_rv_s, mm_rv_n, true_and, and_true, if_true, if_false, not_true_eq_false, not_false_eq_true, nI_add, nz_0, nz_lt0, nz_0le, nz_0lt, nz_le0, nz_lt, nz_le, nz_eq, nz_cl, nz_in, nz_sub, nz_m1, pk_mul, set_o, set_ne, up_ne, up_set, n1_1, true_or, or_true, n1_01, n0_01, bI_01, bI_01b, bI_0, isSc1, isSc3, isSc5, ln_2, ln_4, ln_6, ln_8, ln_10, ln_11, ln_12, ln_13, ln_14, ln_16, ln_17, ln_18, ln_19, ln_20, ln_21, ln_23, ln_24, ln_25, ln_27, ln_28, ln_29, ln_31, ln_32, ln_33, ln_35, ln_36, ln_37]
      exact begin_ false _ (by rw [hcv]; simp [hk1])
end CM
