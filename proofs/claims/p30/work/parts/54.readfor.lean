/-! THE READING OF THE TEXT, by the class -/
def rdR (t : Nat) (c : Nat → Nat) (B : Nat) : Nat → Nat → (Nat → Sg) → (Nat → Nat) → Nat → Nat ⊕ (Nat × (Nat → Sg))
  | 0, n, g, _, _ => .inr (n, g)
  | f + 1, n, g, nb, p => if p < t then (if itG t c B nb p then rdR t c B f (itN t c p n) (itH t c nb p n g) (itB t c nb p) (itE t c p + 1) else .inl p) else .inr (n, g)
def RS (t : Nat) (B n : Nat) (g : Nat → Sg) (nb : Nat → Nat) (p : Nat) : Prop := Val B n g ∧ (∀ k, k ≤ 6 → nb k ≤ B) ∧ (∀ i, i < n → seN (g i) ≤ nb (sC (g i))) ∧ 3 * n ≤ p ∧ p ≤ t
theorem itSg_ok {t B n p : Nat} {c nb : Nat → Nat} {g : Nat → Sg} (h : RS t B n g nb p) (hG : itF t c B nb p) (hg : hcN t c (p + 1) ≠ 101) : okS (itSg t c nb p) ∧ sC (itSg t c nb p) = dgN t c p ∧ sB (itSg t c nb p) = nb (dgN t c p) ∧ sS (itSg t c nb p) = itS t c (dgN t c p) (nb (dgN t c p)) p := by
  obtain ⟨hv, hnb, hroom, h3, hp⟩ := h
  obtain ⟨g1, g2, g3⟩ := hG
  have w2 := hv.2.1
  have eS : itS t c (dgN t c p) (nb (dgN t c p)) p = spO (rSign t c (p + 1) (dgN t c p) (nb (dgN t c p)) (p + 2)) := by unfold itS; rw [if_neg hg]
  rw [eS] at g2 g3 ⊢
  obtain ⟨r1, r2, r3, r4, r5⟩ := rSign_ok (t := t) (c := c) (q := p + 1) (p := p + 2) g1 (by omega) g2 (by omega)
  exact ⟨r2, r3, r4, r5⟩
theorem rs_step {t B n p : Nat} {c nb : Nat → Nat} {g : Nat → Sg} (ht : t ≤ 120) (h : RS t B n g nb p) (hG : itG t c B nb p) : RS t B (itN t c p n) (itH t c nb p n g) (itB t c nb p) (itE t c p + 1) := by
  obtain ⟨hv, hnb, hroom, h3, hp⟩ := id h
  obtain ⟨hF, hs⟩ := id hG
  obtain ⟨g1, g2, g3⟩ := id hF
  have pE := itE_le t c p
  have hEt : itE t c p < t := by
    unfold hcN at hs
    split at hs
    · assumption
    · omega
  have nb' : ∀ k, nb k ≤ itB t c nb p k := by
    intro k
    unfold itB
    split
    · rename_i e; rw [e]; omega
    · exact Nat.le_refl _
  have nb2 : ∀ k, k ≤ 6 → itB t c nb p k ≤ B := by
    intro k hk
    unfold itB
    split
    · exact g3
    · exact hnb k hk
  by_cases hg : hcN t c (p + 1) = 101
  · have e1 : itN t c p n = n := by unfold itN; rw [if_pos hg]
    have e2 : itH t c nb p n g = g := by unfold itH; rw [if_pos hg]
    rw [e1, e2]
    exact ⟨hv, nb2, fun i hi => Nat.le_trans (hroom i hi) (nb' _), by omega, by omega⟩
  · have e1 : itN t c p n = n + 1 := by unfold itN; rw [if_neg hg]
    have e2 : itH t c nb p n g = insG g (pos (gtD g (itSg t c nb p)) n) (itSg t c nb p) := by unfold itH; rw [if_neg hg]
    obtain ⟨s1, s2, s3, s4⟩ := itSg_ok h hF hg
    have key := it_key (s := itSg t c nb p) (nb := nb) hv hroom (by rw [s2, s3]) (by rw [s4]; exact g2)
    rw [e1, e2]
    refine ⟨val_ins hv (by omega) s1 (by rw [s3, s4]; exact g3) key, nb2, fun i hi => ?_, by omega, by omega⟩
    have hpos := pos_le (gtD g (itSg t c nb p)) n
    generalize pos (gtD g (itSg t c nb p)) n = k at hpos ⊢
    rcases Nat.lt_trichotomy i k with h1 | h1 | h1
    · rw [insG_lt h1]
      exact Nat.le_trans (hroom i (by omega)) (nb' _)
    · subst h1
      rw [insG_eq, s2]
      unfold itB seN
      rw [if_pos rfl, s3, s4]
      exact Nat.le_refl _
    · rw [insG_gt h1]
      exact Nat.le_trans (hroom (i - 1) (by omega)) (nb' _)
section RF
variable {M : mm_M} {Q : mm_Q} {t B L n : Nat} {c nb : Nat → Nat} {g : Nat → Sg}
def gZ : Nat → Sg := fun _ => (0, 0, 1, 0, 0, 0)
theorem p_readFor (hR : Rx M t c) (hC : isC M 1 B L n g) (hB : 4 ≤ B) (hB2 : B ≤ 48) (hQ1 : ∀ q, rdR t c B 120 0 gZ (fun _ => 0) 0 = .inl q → ∀ M', Same [5, 6, 26, 28] M M' → M' 26 0 = M 26 0 → q ≤ 120 → Q (some (nI q)) M')
    (hQ2 : ∀ n' g', rdR t c B 120 0 gZ (fun _ => 0) 0 = .inr (n', g') → ∀ M', Same [5, 6, 26, 28] M M' → M' 26 0 = M 26 0 → isC M' 5 B L n' g' → Val B n' g' → n' ≤ 60 → Q (some (-1)) M') : wc 16 [.inr 26, .inr 1, .inr 5] M Q := by
  obtain ⟨r1, r2, r3⟩ := id hR
  have ht := r2.1
  have loop : ∀ f i : Nat, i + f = 120 → ∀ n' g' nb p, RS t B n' g' nb p → ∀ (M' : mm_M) l4, Same [5, 6, 26, 28] M M' → M' 26 0 = M 26 0 → M' 26 1 = nI p → (∀ k, k ≤ 6 → M' 28 k = nI (nb k)) → isC M' 5 B L n' g' →
      (∀ q, rdR t c B f n' g' nb p = .inl q → ∀ M', Same [5, 6, 26, 28] M M' → M' 26 0 = M 26 0 → q ≤ 120 → Q (some (nI q)) M') → (∀ n2 g2, rdR t c B f n' g' nb p = .inr (n2, g2) → ∀ M', Same [5, 6, 26, 28] M M' → M' 26 0 = M 26 0 → isC M' 5 B L n2 g2 → Val B n2 g2 → n2 ≤ 60 → Q (some (-1)) M') →
      wp 16 20 [some (.inr 26), some (.inr 1), some (.inr 5), some (.inl (nI i)), l4] [] M' Q := by
    intro f
    induction f with
    | zero =>
      intro i hi n' g' nb p hS M' l4 hM h0 h1 h28 hC5 q1 q2
      have hi : i = 120 := by omega
      subst hi
      rw [iX3_readFor_20]
      simp (disch := first | assumption | exact isSc1 | exact isSc3 | exact isSc5 | decide | omega) only [iX3_readFor_21, iX3_readFor_23, iX3_readFor_60, iX3_readFor_61, Nat.reduceAdd, Nat.reduceSub, Nat.reduceMul, Nat.reduceLeDiff, mm_rv_s, mm_rv_n, true_and, and_true, if_true, if_false, not_true_eq_false, not_false_eq_true, nI_add, nz_0, nz_lt0, nz_0le, nz_0lt, nz_le0, nz_lt, nz_le, nz_eq, nz_cl, nz_in, nz_sub, nz_m1, pk_mul, set_o, set_ne, up_ne, up_set, n1_1, true_or, or_true, n1_01, n0_01, bI_01, bI_01b, bI_0, isSc1, isSc3, isSc5, ln_2, ln_4, ln_6, ln_8, ln_10, ln_11, ln_12, ln_13, ln_14, ln_16, ln_17, ln_18, ln_19, ln_20, ln_21, ln_23, ln_24, ln_25, ln_27, ln_28, ln_29, Nat.le_refl]
      exact q2 n' g' rfl M' hM h0 hC5 hS.1 (by have := hS.2.2.2.1; have := hS.2.2.2.2; omega)
    | succ f ih =>
      intro i hi n' g' nb p hS M' l4 hM h0 h1 h28 hC5 q1 q2
      have hpt := hS.2.2.2.2
      have h3 := hS.2.2.2.1
      have e0 : M' 26 0 = nI t := by rw [h0, r1]
      rw [iX3_readFor_20]
      simp (disch := first | assumption | exact isSc1 | exact isSc3 | exact isSc5 | decide | omega) only [iX3_readFor_21, iX3_readFor_23, iX3_readFor_26, iX3_readFor_27, iX3_readFor_30, iX3_readFor_31, iX3_readFor_34, Nat.reduceAdd, Nat.reduceSub, Nat.reduceMul, Nat.reduceLeDiff, mm_rv_s, mm_rv_n, true_and, and_true, if_true, if_false, not_true_eq_false, not_false_eq_true, nI_add, nz_0, nz_lt0, nz_0le, nz_0lt, nz_le0, nz_lt, nz_le, nz_eq, nz_cl, nz_in, nz_sub, nz_m1, pk_mul, set_o, set_ne, up_ne, up_set, n1_1, true_or, or_true, n1_01, n0_01, bI_01, bI_01b, bI_0, isSc1, isSc3, isSc5, ln_2, ln_4, ln_6, ln_8, ln_10, ln_11, ln_12, ln_13, ln_14, ln_16, ln_17, ln_18, ln_19, ln_20, ln_21, ln_23, ln_24, ln_25, ln_27, ln_28, ln_29, show ¬ 120 ≤ i by omega, h1, e0]
      by_cases hp : p < t
      · unfold rdR at q1 q2
        rw [if_pos hp] at q1 q2
        simp (disch := first | assumption | exact isSc1 | exact isSc3 | exact isSc5 | decide | omega) only [iX3_readFor_37, iX3_readFor_38, iX3_readFor_41, iX3_readFor_43, iX3_readFor_44, iX3_readFor_45, Nat.reduceAdd, Nat.reduceSub, Nat.reduceMul, Nat.reduceLeDiff, mm_rv_s, mm_rv_n, true_and, and_true, if_true, if_false, not_true_eq_false, not_false_eq_true, nI_add, nz_0, nz_lt0, nz_0le, nz_0lt, nz_le0, nz_lt, nz_le, nz_eq, nz_cl, nz_in, nz_sub, nz_m1, pk_mul, set_o, set_ne, up_ne, up_set, n1_1, true_or, or_true, n1_01, n0_01, bI_01, bI_01b, bI_0, isSc1, isSc3, isSc5, ln_2, ln_4, ln_6, ln_8, ln_10, ln_11, ln_12, ln_13, ln_14, ln_16, ln_17, ln_18, ln_19, ln_20, ln_21, ln_23, ln_24, ln_25, ln_27, ln_28, ln_29, show ¬ t ≤ p by omega, h1]
        have hR' : Rx M' t c := ⟨e0, r2, fun i hi => by rw [hM 27 (by decide), r3 i hi]⟩
        have hself := atP_self h1
        have go : wc 17 [.inr 26, .inr 5] (atP M' p) (fun r M'' => wp 16 48 [some (.inr 26), some (.inr 1), some (.inr 5), some (.inl (nI i)), some (.inl (nI p))] (mm_rv r ++ []) M'' Q) := by
          refine p_readItem hR' hC5 hS.1 (by omega) (by omega) (fun k hk => ⟨h28 k hk, hS.2.1 k hk⟩) hS.2.2.1 (fun hb p' => ?_) (fun hG M2 s1 s2 s3 s4 s5 => ?_)
          · rw [if_neg hb] at q1
            simp (disch := first | assumption | exact isSc1 | exact isSc3 | exact isSc5 | decide | omega) only [iX3_readFor_48, iX3_readFor_51, iX3_readFor_53, Nat.reduceAdd, Nat.reduceSub, Nat.reduceMul, Nat.reduceLeDiff, mm_rv_s, mm_rv_n, true_and, and_true, if_true, if_false, not_true_eq_false, not_false_eq_true, nI_add, nz_0, nz_lt0, nz_0le, nz_0lt, nz_le0, nz_lt, nz_le, nz_eq, nz_cl, nz_in, nz_sub, nz_m1, pk_mul, set_o, set_ne, up_ne, up_set, n1_1, true_or, or_true, n1_01, n0_01, bI_01, bI_01b, bI_0, isSc1, isSc3, isSc5, ln_2, ln_4, ln_6, ln_8, ln_10, ln_11, ln_12, ln_13, ln_14, ln_16, ln_17, ln_18, ln_19, ln_20, ln_21, ln_23, ln_24, ln_25, ln_27, ln_28, ln_29]
            exact q1 p rfl _ (hM.tr ((Same.rf [5, 6, 26, 28] M').up (by decide) _ _)) (by rw [atP_0, h0]) (by omega)
          · rw [if_pos hG] at q1 q2
            simp (disch := first | assumption | exact isSc1 | exact isSc3 | exact isSc5 | decide | omega) only [iX3_readFor_48, iX3_readFor_54, iX3_readFor_57, Nat.reduceAdd, Nat.reduceSub, Nat.reduceMul, Nat.reduceLeDiff, mm_rv_s, mm_rv_n, true_and, and_true, if_true, if_false, not_true_eq_false, not_false_eq_true, nI_add, nz_0, nz_lt0, nz_0le, nz_0lt, nz_le0, nz_lt, nz_le, nz_eq, nz_cl, nz_in, nz_sub, nz_m1, pk_mul, set_o, set_ne, up_ne, up_set, n1_1, true_or, or_true, n1_01, n0_01, bI_01, bI_01b, bI_0, isSc1, isSc3, isSc5, ln_2, ln_4, ln_6, ln_8, ln_10, ln_11, ln_12, ln_13, ln_14, ln_16, ln_17, ln_18, ln_19, ln_20, ln_21, ln_23, ln_24, ln_25, ln_27, ln_28, ln_29, Nat.one_ne_zero]
            exact ih (i + 1) (by omega) _ _ _ _ (rs_step ht hS hG) M2 _ (hM.tr s1) (by rw [s2, h0]) s3 s4 s5 q1 q2
        rw [hself] at go
        exact go
      · unfold rdR at q2
        rw [if_neg hp] at q2
        simp (disch := first | assumption | exact isSc1 | exact isSc3 | exact isSc5 | decide | omega) only [iX3_readFor_60, iX3_readFor_61, Nat.reduceAdd, Nat.reduceSub, Nat.reduceMul, Nat.reduceLeDiff, mm_rv_s, mm_rv_n, true_and, and_true, if_true, if_false, not_true_eq_false, not_false_eq_true, nI_add, nz_0, nz_lt0, nz_0le, nz_0lt, nz_le0, nz_lt, nz_le, nz_eq, nz_cl, nz_in, nz_sub, nz_m1, pk_mul, set_o, set_ne, up_ne, up_set, n1_1, true_or, or_true, n1_01, n0_01, bI_01, bI_01b, bI_0, isSc1, isSc3, isSc5, ln_2, ln_4, ln_6, ln_8, ln_10, ln_11, ln_12, ln_13, ln_14, ln_16, ln_17, ln_18, ln_19, ln_20, ln_21, ln_23, ln_24, ln_25, ln_27, ln_28, ln_29, show t ≤ p by omega]
        exact q2 n' g' rfl M' hM h0 hC5 hS.1 (by omega)
  obtain ⟨x0, x1, x2, x3⟩ := id hC
  simp (disch := first | assumption | exact isSc1 | exact isSc3 | exact isSc5 | decide | omega) only [eX3_readFor, iX3_readFor_0, iX3_readFor_1, iX3_readFor_2, iX3_readFor_5, iX3_readFor_6, iX3_readFor_9, iX3_readFor_10, iX3_readFor_13, iX3_readFor_14, iX3_readFor_15, iX3_readFor_18, iX3_readFor_19, Nat.reduceAdd, Nat.reduceSub, Nat.reduceMul, Nat.reduceLeDiff, mm_rv_s, mm_rv_n, true_and, and_true, if_true, if_false, not_true_eq_false, not_false_eq_true, nI_add, nz_0, nz_lt0, nz_0le, nz_0lt, nz_le0, nz_lt, nz_le, nz_eq, nz_cl, nz_in, nz_sub, nz_m1, pk_mul, set_o, set_ne, up_ne, up_set, n1_1, true_or, or_true, n1_01, n0_01, bI_01, bI_01b, bI_0, isSc1, isSc3, isSc5, ln_2, ln_4, ln_6, ln_8, ln_10, ln_11, ln_12, ln_13, ln_14, ln_16, ln_17, ln_18, ln_19, ln_20, ln_21, ln_23, ln_24, ln_25, ln_27, ln_28, ln_29, p_emptyAs isSc5 isSc1 (show (1 : Nat) ≠ 5 by decide), p_fill, x0, x1]
  refine loop 120 0 (by omega) 0 gZ (fun _ => 0) 0 ⟨⟨hB, hB2, by omega, fun i hi => absurd hi (by omega), fun i j _ hj => absurd hj (by omega), fun i j _ hj => absurd hj (by omega)⟩, fun k _ => Nat.zero_le B, fun i hi => absurd hi (by omega), by omega, by omega⟩ _ _ ?_ ?_ ?_ (fun k hk => ?_) ⟨?_, ?_, ?_, fun i hi => absurd hi (by omega)⟩ hQ1 hQ2
  · exact (((((Same.rf [5, 6, 26, 28] M).up (by decide) _ _).up (by decide) _ _).up (by decide) _ _).set (by decide) _).up (by decide) _ _
  · simp [mm_up, mm_set, upd]
  · simp [mm_up, mm_set, upd]
  · rw [up_ne _ _ _ (by decide), set_o]
    unfold fillA
    rw [if_pos (by omega)]
  · simp [mm_up, mm_set, upd]
  · simp [mm_up, mm_set, upd]
  · simp [mm_up, mm_set, upd]
end RF

