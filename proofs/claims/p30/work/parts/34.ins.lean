/-! A SIGN PUT INTO A SCORE: the score stays as it may be -/
theorem pk_key {a b : Sg} (ha : okS a) (hb : okS b) (h1 : sB a < 128) (h2 : sB b < 128) (hne : 8 * sB a + sC a ≠ 8 * sB b + sC b) : pk a < pk b ↔ 8 * sB a + sC a < 8 * sB b + sC b := by
  have oa := okS_b ha
  have ob := okS_b hb
  have ea : (sA a + 8).toNat < 32 := by omega
  have eb : (sA b + 8).toNat < 32 := by omega
  unfold pk pkN
  generalize (sA a + 8).toNat = x at ea ⊢
  generalize (sA b + 8).toNat = y at eb ⊢
  omega
theorem gt_same {g : Nat → Sg} {n : Nat} {s : Sg} (hg : okG n g) (hs : okS s) (hb : sB s ≤ 94) (hk : ∀ i, i < n → 8 * sB s + sC s ≠ 8 * sB (g i) + sC (g i)) : pos (gtP g s) n = pos (gtD g s) n := by
  refine pos_cong n (fun i hi => ?_)
  obtain ⟨b1, b2, b3, b4, b5, b6, b7, b8⟩ := okG_b hg hi
  have := pk_key hs b1 (by omega) b2 (hk i hi)
  have h6 := hs.1
  unfold gtP gtD
  have e : (pk s < pk (g i)) = (sB s < sB (g i) ∨ (sB (g i) = sB s ∧ sC s < sC (g i))) := by
    rw [eq_iff_iff, this]
    omega
  simp only [e]
theorem room_key {B n : Nat} {g : Nat → Sg} {s : Sg} (hg : okG n g) (hs : okS s) (hr : roomS B n g (sC s) (sB s) (sS s)) : ∀ i, i < n → 8 * sB s + sC s ≠ 8 * sB (g i) + sC (g i) := by
  intro i hi e
  obtain ⟨b1, b2, b3, b4, b5, b6, b7, b8⟩ := okG_b hg hi
  have oa := okS_b hs
  have h6 := hs.1
  exact hr i hi ⟨by omega, by omega, by omega⟩
theorem insG_eq (g : Nat → Sg) (k : Nat) (s : Sg) : insG g k s k = s := by unfold insG; rw [if_pos rfl]
theorem insG_lt {g : Nat → Sg} {k i : Nat} {s : Sg} (h : i < k) : insG g k s i = g i := by unfold insG shG; rw [if_neg (by omega), if_pos h]
theorem insG_gt {g : Nat → Sg} {k i : Nat} {s : Sg} (h : k < i) : insG g k s i = g (i - 1) := by unfold insG shG; rw [if_neg (by omega), if_neg (by omega)]
theorem val_ins {B n : Nat} {g : Nat → Sg} {s : Sg} (hv : Val B n g) (hn : n < 120) (hs : okS s) (he : sB s + sS s ≤ B) (hr : roomS B n g (sC s) (sB s) (sS s)) : Val B (n + 1) (insG g (pos (gtD g s) n) s) := by
  have hg := hv.okG
  have hkey := room_key hg hs hr
  obtain ⟨w1, w2, w3, v1, v2, v3⟩ := id hv
  have hp := pos_le (gtD g s) n
  have hgt := pos_gt (gtD g s) n
  have hno := pos_no (gtD g s) n
  generalize hk : pos (gtD g s) n = k at hp hgt hno ⊢
  have up : ∀ i, k ≤ i → i < n → 8 * sB s + sC s < 8 * sB (g i) + sC (g i) := by
    intro i h1 h2
    have := hgt i h1 h2
    simp only [gtD, decide_eq_true_eq] at this
    have h6 := hs.1
    have h7 := (okG_b hg h2).2.2.2.1
    omega
  have down : ∀ i, i < k → 8 * sB (g i) + sC (g i) < 8 * sB s + sC s := by
    intro i h1
    have h0 := hno (by omega)
    simp only [gtD, decide_eq_false_iff_not] at h0
    have hk1 := hkey (k - 1) (by omega)
    have h6 := hs.1
    have h7 := (okG_b hg (show k - 1 < n by omega)).2.2.2.1
    have last : 8 * sB (g (k - 1)) + sC (g (k - 1)) < 8 * sB s + sC s := by omega
    by_cases hi : i = k - 1
    · rw [hi]; exact last
    · have := v2 i (k - 1) (by omega) (by omega)
      omega
  have at' : ∀ i, i < n + 1 → (i = k ∧ insG g k s i = s) ∨ (i < k ∧ insG g k s i = g i) ∨ (k < i ∧ insG g k s i = g (i - 1)) := by
    intro i hi
    rcases Nat.lt_trichotomy i k with h | h | h
    · exact Or.inr (Or.inl ⟨h, insG_lt h⟩)
    · exact Or.inl ⟨h, by rw [h]; exact insG_eq g k s⟩
    · exact Or.inr (Or.inr ⟨h, insG_gt h⟩)
  have os := okS_b hs
  refine ⟨w1, w2, by omega, fun i hi => ?_, fun i j hij hj => ?_, fun i j hij hj hc => ?_⟩
  · rcases at' i hi with ⟨-, e⟩ | ⟨h, e⟩ | ⟨h, e⟩ <;> rw [e]
    · exact ⟨hs, he⟩
    · exact v1 i (by omega)
    · exact v1 (i - 1) (by omega)
  · rcases at' i (by omega) with ⟨h1, e1⟩ | ⟨h1, e1⟩ | ⟨h1, e1⟩ <;> rcases at' j hj with ⟨h2, e2⟩ | ⟨h2, e2⟩ | ⟨h2, e2⟩ <;> rw [e1, e2]
    · omega
    · omega
    · exact up (j - 1) (by omega) (by omega)
    · exact down i h1
    · exact v2 i j hij (by omega)
    · exact v2 i (j - 1) (by omega) (by omega)
    · omega
    · omega
    · exact v2 (i - 1) (j - 1) (by omega) (by omega)
  · rcases at' i (by omega) with ⟨h1, e1⟩ | ⟨h1, e1⟩ | ⟨h1, e1⟩ <;> rcases at' j hj with ⟨h2, e2⟩ | ⟨h2, e2⟩ | ⟨h2, e2⟩ <;> rw [e1, e2] at hc ⊢
    · omega
    · omega
    · have a := up (j - 1) (by omega) (by omega)
      have b := hr (j - 1) (by omega)
      have c := okG_b hg (show j - 1 < n by omega)
      omega
    · have a := down i h1
      have b := hr i (by omega)
      omega
    · exact v3 i j hij (by omega) hc
    · exact v3 i (j - 1) (by omega) (by omega) hc
    · omega
    · omega
    · exact v3 (i - 1) (j - 1) (by omega) (by omega) hc
section ADD
variable {M : mm_M} {Q : mm_Q} {B L n h : Nat} {g : Nat → Sg} {H : Nat → St} {s : Sg}
theorem x_addSign (hcur : Cur M B L n g) (hh : Hst M h H) (hs : okS s) (he : sB s + sS s ≤ B)
    (h1 : ¬ roomS B n g (sC s) (sB s) (sS s) → Q (some (-1002)) M) (h2 : roomS B n g (sC s) (sB s) (sS s) → n = 60 → Q (some (-1003)) M)
    (h3 : roomS B n g (sC s) (sB s) (sS s) → n < 60 → ∀ f2 M', (∀ k, k < pushN h → hC f2 k (pushH h H (B, L, n, g) k)) → Same [1, 2] (mm_up (mm_set M 8 f2) 7 0 (nI (pushN h))) M' → isC M' 1 B L (n + 1) (insG g (pos (gtD g s) n) s) → Q (some (nI (pos (gtD g s) n))) M') : wc 95 [.inr 0, .inl (nI (pk s))] M Q := by
  obtain ⟨hv, hn, hL, hC0⟩ := id hcur
  obtain ⟨w1, w2, w3, v1, v2, v3⟩ := id hv
  have x2 := hC0.2.2.1
  have os := okS_b hs
  have hg := hv.okG
  simp (disch := first | assumption | exact isSc1 | exact isSc3 | exact isSc5 | decide | omega) only [eX7_addSign, iX7_addSign_0, iX7_addSign_1, iX7_addSign_4, iX7_addSign_5, Nat.reduceAdd, Nat.reduceSub, Nat.reduceMul, Nat.reduceLeDiff, mm_rv_s, mm_rv_n, true_and, and_true, if_true, if_false, not_true_eq_false, not_false_eq_true, nI_add, nz_0, nz_lt0, nz_0le, nz_0lt, nz_le0, nz_lt, nz_le, nz_eq, nz_cl, nz_in, nz_sub, nz_m1, pk_mul, set_o, set_ne, up_ne, up_set, n1_1, true_or, or_true, n1_01, n0_01, bI_01, bI_01b, bI_0, isSc1, isSc3, isSc5, ln_2, ln_4, ln_6, ln_8, ln_10, ln_11, ln_12, ln_13, ln_14, ln_16, ln_17, ln_18, ln_19, ln_20, ln_21, ln_23, ln_24, ln_25, ln_27, ln_28, ln_29]
  refine p_hasRoomFor isSc1 hC0 (by omega) hg w2 hs (by omega) (fun _ hr => ?_) (fun hr => ?_)
  · simp (disch := first | assumption | exact isSc1 | exact isSc3 | exact isSc5 | decide | omega) only [iX7_addSign_8, iX7_addSign_11, iX7_addSign_14, iX7_addSign_15, iX7_addSign_16, iX7_addSign_19, iX7_addSign_22, iX7_addSign_24, Nat.reduceAdd, Nat.reduceSub, Nat.reduceMul, Nat.reduceLeDiff, mm_rv_s, mm_rv_n, true_and, and_true, if_true, if_false, not_true_eq_false, not_false_eq_true, nI_add, nz_0, nz_lt0, nz_0le, nz_0lt, nz_le0, nz_lt, nz_le, nz_eq, nz_cl, nz_in, nz_sub, nz_m1, pk_mul, set_o, set_ne, up_ne, up_set, n1_1, true_or, or_true, n1_01, n0_01, bI_01, bI_01b, bI_0, isSc1, isSc3, isSc5, ln_2, ln_4, ln_6, ln_8, ln_10, ln_11, ln_12, ln_13, ln_14, ln_16, ln_17, ln_18, ln_19, ln_20, ln_21, ln_23, ln_24, ln_25, ln_27, ln_28, ln_29, Nat.one_ne_zero, x2]
    by_cases h60 : n < 60
    · rw [if_pos h60]
      simp (disch := first | assumption | exact isSc1 | exact isSc3 | exact isSc5 | decide | omega) only [iX7_addSign_31, iX7_addSign_32, iX7_addSign_35, iX7_addSign_36, iX7_addSign_39, Nat.reduceAdd, Nat.reduceSub, Nat.reduceMul, Nat.reduceLeDiff, mm_rv_s, mm_rv_n, true_and, and_true, if_true, if_false, not_true_eq_false, not_false_eq_true, nI_add, nz_0, nz_lt0, nz_0le, nz_0lt, nz_le0, nz_lt, nz_le, nz_eq, nz_cl, nz_in, nz_sub, nz_m1, pk_mul, set_o, set_ne, up_ne, up_set, n1_1, true_or, or_true, n1_01, n0_01, bI_01, bI_01b, bI_0, isSc1, isSc3, isSc5, ln_2, ln_4, ln_6, ln_8, ln_10, ln_11, ln_12, ln_13, ln_14, ln_16, ln_17, ln_18, ln_19, ln_20, ln_21, ln_23, ln_24, ln_25, ln_27, ln_28, ln_29]
      refine x_keep hcur hh (fun f2 hf => ?_)
      simp (disch := first | assumption | exact isSc1 | exact isSc3 | exact isSc5 | decide | omega) only [iX7_addSign_42, iX7_addSign_43, iX7_addSign_46, iX7_addSign_47, Nat.reduceAdd, Nat.reduceSub, Nat.reduceMul, Nat.reduceLeDiff, mm_rv_s, mm_rv_n, true_and, and_true, if_true, if_false, not_true_eq_false, not_false_eq_true, nI_add, nz_0, nz_lt0, nz_0le, nz_0lt, nz_le0, nz_lt, nz_le, nz_eq, nz_cl, nz_in, nz_sub, nz_m1, pk_mul, set_o, set_ne, up_ne, up_set, n1_1, true_or, or_true, n1_01, n0_01, bI_01, bI_01b, bI_0, isSc1, isSc3, isSc5, ln_2, ln_4, ln_6, ln_8, ln_10, ln_11, ln_12, ln_13, ln_14, ln_16, ln_17, ln_18, ln_19, ln_20, ln_21, ln_23, ln_24, ln_25, ln_27, ln_28, ln_29]
      have e1 : pos (gtP g s) n = pos (gtD g s) n := gt_same hg hs (by omega) (room_key hg hs hr)
      refine p_put isSc1 (isC_cong (M := M) (by rw [up_ne _ _ _ (by decide), set_ne _ _ (by decide)]) (by rw [up_ne _ _ _ (by decide), set_ne _ _ (by decide)]) hC0) (by omega) (fun i hi => sgp_lt (hg i hi).1 (by have := (hg i hi).2; omega)) (sgp_lt hs (by omega)) (fun M2 hS hC2 => ?_)
      rw [e1] at hC2 ⊢
      simp (disch := first | assumption | exact isSc1 | exact isSc3 | exact isSc5 | decide | omega) only [iX7_addSign_50, Nat.reduceAdd, Nat.reduceSub, Nat.reduceMul, Nat.reduceLeDiff, mm_rv_s, mm_rv_n, true_and, and_true, if_true, if_false, not_true_eq_false, not_false_eq_true, nI_add, nz_0, nz_lt0, nz_0le, nz_0lt, nz_le0, nz_lt, nz_le, nz_eq, nz_cl, nz_in, nz_sub, nz_m1, pk_mul, set_o, set_ne, up_ne, up_set, n1_1, true_or, or_true, n1_01, n0_01, bI_01, bI_01b, bI_0, isSc1, isSc3, isSc5, ln_2, ln_4, ln_6, ln_8, ln_10, ln_11, ln_12, ln_13, ln_14, ln_16, ln_17, ln_18, ln_19, ln_20, ln_21, ln_23, ln_24, ln_25, ln_27, ln_28, ln_29]
      exact h3 hr h60 f2 M2 hf hS hC2
    · rw [if_neg h60]
      simp (disch := first | assumption | exact isSc1 | exact isSc3 | exact isSc5 | decide | omega) only [iX7_addSign_27, iX7_addSign_30, Nat.reduceAdd, Nat.reduceSub, Nat.reduceMul, Nat.reduceLeDiff, mm_rv_s, mm_rv_n, true_and, and_true, if_true, if_false, not_true_eq_false, not_false_eq_true, nI_add, nz_0, nz_lt0, nz_0le, nz_0lt, nz_le0, nz_lt, nz_le, nz_eq, nz_cl, nz_in, nz_sub, nz_m1, pk_mul, set_o, set_ne, up_ne, up_set, n1_1, true_or, or_true, n1_01, n0_01, bI_01, bI_01b, bI_0, isSc1, isSc3, isSc5, ln_2, ln_4, ln_6, ln_8, ln_10, ln_11, ln_12, ln_13, ln_14, ln_16, ln_17, ln_18, ln_19, ln_20, ln_21, ln_23, ln_24, ln_25, ln_27, ln_28, ln_29]
      exact h2 hr (by omega)
  · simp (disch := first | assumption | exact isSc1 | exact isSc3 | exact isSc5 | decide | omega) only [iX7_addSign_8, iX7_addSign_11, iX7_addSign_14, Nat.reduceAdd, Nat.reduceSub, Nat.reduceMul, Nat.reduceLeDiff, mm_rv_s, mm_rv_n, true_and, and_true, if_true, if_false, not_true_eq_false, not_false_eq_true, nI_add, nz_0, nz_lt0, nz_0le, nz_0lt, nz_le0, nz_lt, nz_le, nz_eq, nz_cl, nz_in, nz_sub, nz_m1, pk_mul, set_o, set_ne, up_ne, up_set, n1_1, true_or, or_true, n1_01, n0_01, bI_01, bI_01b, bI_0, isSc1, isSc3, isSc5, ln_2, ln_4, ln_6, ln_8, ln_10, ln_11, ln_12, ln_13, ln_14, ln_16, ln_17, ln_18, ln_19, ln_20, ln_21, ln_23, ln_24, ln_25, ln_27, ln_28, ln_29]
    exact h1 (fun z => hr ⟨he, z⟩)
end ADD
