/-! PAIR: alike -/
section LK2
variable {B L n : Nat} {g : Nat → Sg} {M : mm_M} {Q : mm_Q}
theorem phr_nat {a b : Int32} (hB : 1 ≤ B) (hB2 : B ≤ 48) (h : (nI 0 ≤ a ∧ a ≤ nI B - nI 1) ∧ (a + nI 1 ≤ b ∧ b ≤ nI B)) : ∃ f l : Nat, a = nI f ∧ b = nI l ∧ f < l ∧ l ≤ B := by
  obtain ⟨h1, h2, h3⟩ := h
  obtain ⟨f, rfl, hf⟩ := in_upto (by omega) h1
  rw [nI_add] at h2
  obtain ⟨l, rfl, hl1, hl2⟩ := in_nat h2 h3 (by omega) (by omega)
  exact ⟨f, l, rfl, rfl, by omega, hl2⟩
def alV (b : Bool) (B n : Nat) (g : Nat → Sg) (f l o : Nat) : Int32 := nI (cntF (fun t => decide (dcN b B n g f o 7 t = 0)) (l - f))
theorem x_alikeBeats {e : Nat → Nat} {m : Nat} (hm : m ≤ 48) (he : ∀ t, t < m → M 25 t = nI (e t) ∧ e t ≤ 100) : wc 2 [.inr 22, .inl (nI m)] M Q ↔ Q (some (nI (cntF (fun t => decide (e t = 0)) m))) M := by
  have loop : ∀ d i : Nat, i + d = m → (wp 2 4 [some (.inr 22), some (.inl (nI m)), some (.inl (nI (cntF (fun t => decide (e t = 0)) i))), some (.inl (nI i))] [] M Q ↔ Q (some (nI (cntF (fun t => decide (e t = 0)) m))) M) := by
    intro d
    induction d with
    | zero =>
      intro i hi
      have hi : i = m := by omega
      subst hi
      rw [iX0_alikeBeats_4]
      simp (disch := first | assumption | exact isSc1 | exact isSc3 | exact isSc5 | decide | omega) only [iX0_alikeBeats_5, iX0_alikeBeats_6, iX0_alikeBeats_27, iX0_alikeBeats_28, Nat.reduceAdd, Nat.reduceSub, Nat.reduceMul, Nat.reduceLeDiff, mm_rv_s, mm_rv_n, true_and, and_true, if_true, if_false, not_true_eq_false, not_false_eq_true, nI_add, nz_0, nz_lt0, nz_0le, nz_0lt, nz_le0, nz_lt, nz_le, nz_eq, nz_cl, nz_in, nz_sub, nz_m1, pk_mul, set_o, set_ne, up_ne, up_set, n1_1, true_or, or_true, n1_01, n0_01, bI_01, bI_01b, bI_0, isSc1, isSc3, isSc5, ln_2, ln_4, ln_6, ln_8, ln_10, ln_11, ln_12, ln_13, ln_14, ln_16, ln_17, ln_18, ln_19, ln_20, ln_21, ln_23, ln_24, ln_25, ln_27, ln_28, ln_29, Nat.le_refl]
    | succ d ih =>
      intro i hi
      obtain ⟨e1, e2⟩ := he i (by omega)
      have h := ih (i + 1) (by omega)
      rw [cntF_s] at h
      rw [iX0_alikeBeats_4]
      simp (disch := first | assumption | exact isSc1 | exact isSc3 | exact isSc5 | decide | omega) only [iX0_alikeBeats_5, iX0_alikeBeats_6, iX0_alikeBeats_9, iX0_alikeBeats_10, iX0_alikeBeats_13, iX0_alikeBeats_14, iX0_alikeBeats_15, Nat.reduceAdd, Nat.reduceSub, Nat.reduceMul, Nat.reduceLeDiff, mm_rv_s, mm_rv_n, true_and, and_true, if_true, if_false, not_true_eq_false, not_false_eq_true, nI_add, nz_0, nz_lt0, nz_0le, nz_0lt, nz_le0, nz_lt, nz_le, nz_eq, nz_cl, nz_in, nz_sub, nz_m1, pk_mul, set_o, set_ne, up_ne, up_set, n1_1, true_or, or_true, n1_01, n0_01, bI_01, bI_01b, bI_0, isSc1, isSc3, isSc5, ln_2, ln_4, ln_6, ln_8, ln_10, ln_11, ln_12, ln_13, ln_14, ln_16, ln_17, ln_18, ln_19, ln_20, ln_21, ln_23, ln_24, ln_25, ln_27, ln_28, ln_29, show ¬ m ≤ i by omega, e1]
      by_cases k : e i = 0
      · simp (disch := first | assumption | exact isSc1 | exact isSc3 | exact isSc5 | decide | omega) only [iX0_alikeBeats_18, iX0_alikeBeats_21, iX0_alikeBeats_24, Nat.reduceAdd, Nat.reduceSub, Nat.reduceMul, Nat.reduceLeDiff, mm_rv_s, mm_rv_n, true_and, and_true, if_true, if_false, not_true_eq_false, not_false_eq_true, nI_add, nz_0, nz_lt0, nz_0le, nz_0lt, nz_le0, nz_lt, nz_le, nz_eq, nz_cl, nz_in, nz_sub, nz_m1, pk_mul, set_o, set_ne, up_ne, up_set, n1_1, true_or, or_true, n1_01, n0_01, bI_01, bI_01b, bI_0, isSc1, isSc3, isSc5, ln_2, ln_4, ln_6, ln_8, ln_10, ln_11, ln_12, ln_13, ln_14, ln_16, ln_17, ln_18, ln_19, ln_20, ln_21, ln_23, ln_24, ln_25, ln_27, ln_28, ln_29, k, decide_true] at h ⊢
        exact h
      · simp (disch := first | assumption | exact isSc1 | exact isSc3 | exact isSc5 | decide | omega) only [iX0_alikeBeats_18, iX0_alikeBeats_21, iX0_alikeBeats_24, Nat.reduceAdd, Nat.reduceSub, Nat.reduceMul, Nat.reduceLeDiff, mm_rv_s, mm_rv_n, true_and, and_true, if_true, if_false, not_true_eq_false, not_false_eq_true, nI_add, nz_0, nz_lt0, nz_0le, nz_0lt, nz_le0, nz_lt, nz_le, nz_eq, nz_cl, nz_in, nz_sub, nz_m1, pk_mul, set_o, set_ne, up_ne, up_set, n1_1, true_or, or_true, n1_01, n0_01, bI_01, bI_01b, bI_0, isSc1, isSc3, isSc5, ln_2, ln_4, ln_6, ln_8, ln_10, ln_11, ln_12, ln_13, ln_14, ln_16, ln_17, ln_18, ln_19, ln_20, ln_21, ln_23, ln_24, ln_25, ln_27, ln_28, ln_29, k, decide_false, Bool.false_eq_true, Nat.add_zero] at h ⊢
        exact h
  simp (disch := first | assumption | exact isSc1 | exact isSc3 | exact isSc5 | decide | omega) only [eX0_alikeBeats, iX0_alikeBeats_0, iX0_alikeBeats_1, iX0_alikeBeats_2, iX0_alikeBeats_3]
  exact loop m 0 (by omega)
theorem x_alike (hC : isC M 1 B L n g) (hv : Val B n g) {f l o : Nat} (hfl : f < l) (hl : l ≤ B) (ho : o + (l - f) ≤ B) (b : Bool) (hQ : ∀ M', Same [23, 24, 25] M M' → Q (some (alV b B n g f l o)) M') : wp 85 40 [some (.inr 0), some (.inl (nI f)), some (.inl (nI l)), some (.inl (nI o)), some (.inl (bI b)), none] [] M Q := by
  have w2 := hv.2.1
  have hm : l - f ≤ B - (if f < o then o else f) := by split <;> omega
  have b1 : (nI 1 : Int32) = bI true := rfl
  have b0 : (nI 0 : Int32) = bI false := rfl
  have hmB : B - (if f < o then o else f) ≤ 48 := by omega
  have loop : ∀ d c : Nat, c + d = 7 → ∀ M' : mm_M, Same [23, 24, 25] M M' → (∀ t, t < B - (if f < o then o else f) → M' 25 t = nI (dcN b B n g f o c t)) → wp 85 50 [some (.inr 0), some (.inl (nI f)), some (.inl (nI l)), some (.inl (nI o)), some (.inl (bI b)), some (.inl (nI c))] [] M' Q := by
    intro d
    induction d with
    | zero =>
      intro c hc M' hS h1
      have hc : c = 7 := by omega
      subst hc
      rw [iX7_alike_50]
      simp (disch := first | assumption | exact isSc1 | exact isSc3 | exact isSc5 | decide | omega) only [iX7_alike_52, iX7_alike_54, iX7_alike_89, iX7_alike_90, iX7_alike_93, iX7_alike_94, iX7_alike_95, iX7_alike_96, Nat.reduceAdd, Nat.reduceSub, Nat.reduceMul, Nat.reduceLeDiff, mm_rv_s, mm_rv_n, true_and, and_true, if_true, if_false, not_true_eq_false, not_false_eq_true, nI_add, nz_0, nz_lt0, nz_0le, nz_0lt, nz_le0, nz_lt, nz_le, nz_eq, nz_cl, nz_in, nz_sub, nz_m1, pk_mul, set_o, set_ne, up_ne, up_set, n1_1, true_or, or_true, n1_01, n0_01, bI_01, bI_01b, bI_0, isSc1, isSc3, isSc5, ln_2, ln_4, ln_6, ln_8, ln_10, ln_11, ln_12, ln_13, ln_14, ln_16, ln_17, ln_18, ln_19, ln_20, ln_21, ln_23, ln_24, ln_25, ln_27, ln_28, ln_29, Nat.le_refl]
      refine (x_alikeBeats (m := l - f) (e := fun t => dcN b B n g f o 7 t) (by omega) (fun t ht => ⟨h1 t (by omega), by have := dcN_le b B n g f o t 7; omega⟩)).mpr ?_
      simp (disch := first | assumption | exact isSc1 | exact isSc3 | exact isSc5 | decide | omega) only [iX7_alike_99, Nat.reduceAdd, Nat.reduceSub, Nat.reduceMul, Nat.reduceLeDiff, mm_rv_s, mm_rv_n, true_and, and_true, if_true, if_false, not_true_eq_false, not_false_eq_true, nI_add, nz_0, nz_lt0, nz_0le, nz_0lt, nz_le0, nz_lt, nz_le, nz_eq, nz_cl, nz_in, nz_sub, nz_m1, pk_mul, set_o, set_ne, up_ne, up_set, n1_1, true_or, or_true, n1_01, n0_01, bI_01, bI_01b, bI_0, isSc1, isSc3, isSc5, ln_2, ln_4, ln_6, ln_8, ln_10, ln_11, ln_12, ln_13, ln_14, ln_16, ln_17, ln_18, ln_19, ln_20, ln_21, ln_23, ln_24, ln_25, ln_27, ln_28, ln_29]
      exact hQ M' hS
    | succ d ih =>
      intro c hc M' hS h1
      have go : wc 1 [.inr 22, .inr 1, .inl (nI c), .inl (nI f), .inl (nI o), .inl (bI b)] M' (fun r M'' => wp 85 83 [some (.inr 0), some (.inl (nI f)), some (.inl (nI l)), some (.inl (nI o)), some (.inl (bI b)), some (.inl (nI c))] (mm_rv r ++ []) M'' Q) := by
        refine p_compare (isC_cong (M := M) (hS 1 (by decide)) (hS 2 (by decide)) hC) hv (by omega) (by omega) (by omega) rfl b (e := fun t => dcN b B n g f o c t) (fun t ht => ⟨h1 t ht, by have := dcN_le b B n g f o t c; omega⟩) (fun M'' hS2 h2 => ?_)
        simp (disch := first | assumption | exact isSc1 | exact isSc3 | exact isSc5 | decide | omega) only [iX7_alike_83, iX7_alike_86, Nat.reduceAdd, Nat.reduceSub, Nat.reduceMul, Nat.reduceLeDiff, mm_rv_s, mm_rv_n, true_and, and_true, if_true, if_false, not_true_eq_false, not_false_eq_true, nI_add, nz_0, nz_lt0, nz_0le, nz_0lt, nz_le0, nz_lt, nz_le, nz_eq, nz_cl, nz_in, nz_sub, nz_m1, pk_mul, set_o, set_ne, up_ne, up_set, n1_1, true_or, or_true, n1_01, n0_01, bI_01, bI_01b, bI_0, isSc1, isSc3, isSc5, ln_2, ln_4, ln_6, ln_8, ln_10, ln_11, ln_12, ln_13, ln_14, ln_16, ln_17, ln_18, ln_19, ln_20, ln_21, ln_23, ln_24, ln_25, ln_27, ln_28, ln_29]
        exact ih (c + 1) (by omega) M'' (hS.tr hS2) h2
      rw [iX7_alike_50]
      cases b
      · rw [← b0] at go
        simp (disch := first | assumption | exact isSc1 | exact isSc3 | exact isSc5 | decide | omega) only [iX7_alike_52, iX7_alike_54, iX7_alike_57, iX7_alike_58, iX7_alike_61, iX7_alike_62, iX7_alike_65, iX7_alike_67, iX7_alike_68, iX7_alike_69, iX7_alike_71, iX7_alike_72, iX7_alike_75, iX7_alike_76, iX7_alike_79, iX7_alike_80, Nat.reduceAdd, Nat.reduceSub, Nat.reduceMul, Nat.reduceLeDiff, mm_rv_s, mm_rv_n, true_and, and_true, if_true, if_false, not_true_eq_false, not_false_eq_true, nI_add, nz_0, nz_lt0, nz_0le, nz_0lt, nz_le0, nz_lt, nz_le, nz_eq, nz_cl, nz_in, nz_sub, nz_m1, pk_mul, set_o, set_ne, up_ne, up_set, n1_1, true_or, or_true, n1_01, n0_01, bI_01, bI_01b, bI_0, isSc1, isSc3, isSc5, ln_2, ln_4, ln_6, ln_8, ln_10, ln_11, ln_12, ln_13, ln_14, ln_16, ln_17, ln_18, ln_19, ln_20, ln_21, ln_23, ln_24, ln_25, ln_27, ln_28, ln_29, show ¬ 7 ≤ c by omega, bI, Bool.false_eq_true, Nat.zero_ne_one] at go ⊢
        exact go
      · rw [← b1] at go
        simp (disch := first | assumption | exact isSc1 | exact isSc3 | exact isSc5 | decide | omega) only [iX7_alike_52, iX7_alike_54, iX7_alike_57, iX7_alike_58, iX7_alike_61, iX7_alike_62, iX7_alike_65, iX7_alike_67, iX7_alike_68, iX7_alike_69, iX7_alike_71, iX7_alike_72, iX7_alike_75, iX7_alike_76, iX7_alike_79, iX7_alike_80, Nat.reduceAdd, Nat.reduceSub, Nat.reduceMul, Nat.reduceLeDiff, mm_rv_s, mm_rv_n, true_and, and_true, if_true, if_false, not_true_eq_false, not_false_eq_true, nI_add, nz_0, nz_lt0, nz_0le, nz_0lt, nz_le0, nz_lt, nz_le, nz_eq, nz_cl, nz_in, nz_sub, nz_m1, pk_mul, set_o, set_ne, up_ne, up_set, n1_1, true_or, or_true, n1_01, n0_01, bI_01, bI_01b, bI_0, isSc1, isSc3, isSc5, ln_2, ln_4, ln_6, ln_8, ln_10, ln_11, ln_12, ln_13, ln_14, ln_16, ln_17, ln_18, ln_19, ln_20, ln_21, ln_23, ln_24, ln_25, ln_27, ln_28, ln_29, show ¬ 7 ≤ c by omega, bI] at go ⊢
        exact go
  simp (disch := first | assumption | exact isSc1 | exact isSc3 | exact isSc5 | decide | omega) only [iX7_alike_40, iX7_alike_41, iX7_alike_44, eX0_begin, iX0_begin_0, iX0_begin_1, iX0_begin_4, iX0_begin_5, iX0_begin_8, Nat.reduceAdd, Nat.reduceSub, Nat.reduceMul, Nat.reduceLeDiff, mm_rv_s, mm_rv_n, true_and, and_true, if_true, if_false, not_true_eq_false, not_false_eq_true, nI_add, nz_0, nz_lt0, nz_0le, nz_0lt, nz_le0, nz_lt, nz_le, nz_eq, nz_cl, nz_in, nz_sub, nz_m1, pk_mul, set_o, set_ne, up_ne, up_set, n1_1, true_or, or_true, n1_01, n0_01, bI_01, bI_01b, bI_0, isSc1, isSc3, isSc5, ln_2, ln_4, ln_6, ln_8, ln_10, ln_11, ln_12, ln_13, ln_14, ln_16, ln_17, ln_18, ln_19, ln_20, ln_21, ln_23, ln_24, ln_25, ln_27, ln_28, ln_29, p_fill]
  simp (disch := first | assumption | exact isSc1 | exact isSc3 | exact isSc5 | decide | omega) only [iX7_alike_47, iX7_alike_48, Nat.reduceAdd, Nat.reduceSub, Nat.reduceMul, Nat.reduceLeDiff, mm_rv_s, mm_rv_n, true_and, and_true, if_true, if_false, not_true_eq_false, not_false_eq_true, nI_add, nz_0, nz_lt0, nz_0le, nz_0lt, nz_le0, nz_lt, nz_le, nz_eq, nz_cl, nz_in, nz_sub, nz_m1, pk_mul, set_o, set_ne, up_ne, up_set, n1_1, true_or, or_true, n1_01, n0_01, bI_01, bI_01b, bI_0, isSc1, isSc3, isSc5, ln_2, ln_4, ln_6, ln_8, ln_10, ln_11, ln_12, ln_13, ln_14, ln_16, ln_17, ln_18, ln_19, ln_20, ln_21, ln_23, ln_24, ln_25, ln_27, ln_28, ln_29]
  refine loop 7 0 (by omega) _ ((Same.rf _ _).set (by decide) _) (fun t ht => ?_)
  rw [set_o]
  unfold fillA
  rw [if_pos (by omega)]
  rfl
end LK2

