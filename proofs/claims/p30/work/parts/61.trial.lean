/-! THE TRIAL, by the class -/
section TRY
variable {M : mm_M} {Q : mm_Q} {B L n h : Nat} {g : Nat → Sg} {H : Nat → St}
theorem tryF_ok {ph : Nat → Sg} {m : Nat} (hph : okG m ph) : ∀ d i N (G : Nat → Sg), i + d = m → Val B N G → N + d ≤ 120 → ∀ N2 G2, tryF B ph d i N G = some (N2, G2) → Val B N2 G2 ∧ N2 = N + d := by
  intro d
  induction d with
  | zero =>
    intro i N G hi hv _ N2 G2 e
    cases e
    exact ⟨hv, rfl⟩
  | succ d ih =>
    intro i N G hi hv hN N2 G2 e
    unfold tryF at e
    by_cases hf : fitS B N G (ph i) = true
    · rw [if_pos hf] at e
      obtain ⟨f1, f2⟩ := fitS_iff.mp hf
      have := ih (i + 1) (N + 1) _ (by omega) (val_ins hv (by omega) (hph i (by omega)).1 f1 f2) (by omega) N2 G2 e
      exact ⟨this.1, by omega⟩
    · rw [if_neg hf] at e
      cases e
theorem p_canTry {m : Nat} {ph : Nat → Sg} (hC : isC M 1 B L n g) (hC3 : isC M 3 B L m ph) (hv : Val B n g) (hn : n ≤ 60) (hm : m ≤ 60) (hph : okG m ph)
    (hQ1 : tryF B ph m 0 n g = none → ∀ M', Same [5, 6] M M' → Q (some (nI 0)) M') (hQ2 : ∀ N G, tryF B ph m 0 n g = some (N, G) → ∀ M', Same [5, 6] M M' → isC M' 5 B L N G → Q (some (nI 1)) M') : wc 98 [.inr 0] M Q := by
  obtain ⟨x0, x1, x2, x3⟩ := id hC
  obtain ⟨y0, y1, y2, y3⟩ := id hC3
  have w2 := hv.2.1
  have loop : ∀ d i N G, i + d = m → N = n + i → Val B N G → ∀ (M' : mm_M) l2, Same [5, 6] M M' → isC M' 5 B L N G → (tryF B ph d i N G = none → ∀ M', Same [5, 6] M M' → Q (some (nI 0)) M') → (∀ N2 G2, tryF B ph d i N G = some (N2, G2) → ∀ M', Same [5, 6] M M' → isC M' 5 B L N2 G2 → Q (some (nI 1)) M') → wp 98 13 [some (.inr 0), some (.inl (nI i)), l2] [] M' Q := by
    intro d
    induction d with
    | zero =>
      intro i N G hi hN hvN M' l2 hS hC5 q1 q2
      have hi : i = m := by omega
      subst hi
      have e32 : M' 3 2 = nI i := by rw [hS 3 (by decide), y2]
      rw [iX7_canTryPhrase_13]
      simp (disch := first | assumption | exact isSc1 | exact isSc3 | exact isSc5 | decide | omega) only [iX7_canTryPhrase_14, iX7_canTryPhrase_15, iX7_canTryPhrase_18, iX7_canTryPhrase_21, iX7_canTryPhrase_61, iX7_canTryPhrase_62, Nat.reduceAdd, Nat.reduceSub, Nat.reduceMul, Nat.reduceLeDiff, mm_rv_s, mm_rv_n, true_and, and_true, if_true, if_false, not_true_eq_false, not_false_eq_true, nI_add, nz_0, nz_lt0, nz_0le, nz_0lt, nz_le0, nz_lt, nz_le, nz_eq, nz_cl, nz_in, nz_sub, nz_m1, pk_mul, set_o, set_ne, up_ne, up_set, n1_1, true_or, or_true, n1_01, n0_01, bI_01, bI_01b, bI_0, isSc1, isSc3, isSc5, ln_2, ln_4, ln_6, ln_8, ln_10, ln_11, ln_12, ln_13, ln_14, ln_16, ln_17, ln_18, ln_19, ln_20, ln_21, ln_23, ln_24, ln_25, ln_27, ln_28, ln_29, e32, Nat.le_refl]
      exact q2 N G rfl M' hS hC5
    | succ d ih =>
      intro i N G hi hN hvN M' l2 hS hC5 q1 q2
      have him : i < m := by omega
      have e32 : M' 3 2 = nI m := by rw [hS 3 (by decide), y2]
      have e4 : M' 4 i = nI (pk (ph i)) := by rw [hS 4 (by decide), y3 i him]
      obtain ⟨o1, o2⟩ := hph i him
      have hg := hvN.okG
      unfold tryF at q1 q2
      rw [iX7_canTryPhrase_13]
      simp (disch := first | assumption | exact isSc1 | exact isSc3 | exact isSc5 | decide | omega) only [iX7_canTryPhrase_14, iX7_canTryPhrase_15, iX7_canTryPhrase_18, iX7_canTryPhrase_21, iX7_canTryPhrase_24, iX7_canTryPhrase_25, iX7_canTryPhrase_28, iX7_canTryPhrase_29, iX7_canTryPhrase_32, iX7_canTryPhrase_33, iX7_canTryPhrase_34, iX7_canTryPhrase_37, iX7_canTryPhrase_38, Nat.reduceAdd, Nat.reduceSub, Nat.reduceMul, Nat.reduceLeDiff, mm_rv_s, mm_rv_n, true_and, and_true, if_true, if_false, not_true_eq_false, not_false_eq_true, nI_add, nz_0, nz_lt0, nz_0le, nz_0lt, nz_le0, nz_lt, nz_le, nz_eq, nz_cl, nz_in, nz_sub, nz_m1, pk_mul, set_o, set_ne, up_ne, up_set, n1_1, true_or, or_true, n1_01, n0_01, bI_01, bI_01b, bI_0, isSc1, isSc3, isSc5, ln_2, ln_4, ln_6, ln_8, ln_10, ln_11, ln_12, ln_13, ln_14, ln_16, ln_17, ln_18, ln_19, ln_20, ln_21, ln_23, ln_24, ln_25, ln_27, ln_28, ln_29, e32, show ¬ m ≤ i by omega, p_at isSc3 e32, e4]
      refine p_hasRoomFor isSc5 hC5 (by omega) hg w2 o1 o2 (fun f1 f2 => ?_) (fun hr => ?_)
      · have hf : fitS B N G (ph i) = true := fitS_iff.mpr ⟨f1, f2⟩
        rw [if_pos hf] at q1 q2
        simp (disch := first | assumption | exact isSc1 | exact isSc3 | exact isSc5 | decide | omega) only [iX7_canTryPhrase_41, iX7_canTryPhrase_44, iX7_canTryPhrase_45, iX7_canTryPhrase_46, iX7_canTryPhrase_47, iX7_canTryPhrase_50, iX7_canTryPhrase_51, Nat.reduceAdd, Nat.reduceSub, Nat.reduceMul, Nat.reduceLeDiff, mm_rv_s, mm_rv_n, true_and, and_true, if_true, if_false, not_true_eq_false, not_false_eq_true, nI_add, nz_0, nz_lt0, nz_0le, nz_0lt, nz_le0, nz_lt, nz_le, nz_eq, nz_cl, nz_in, nz_sub, nz_m1, pk_mul, set_o, set_ne, up_ne, up_set, n1_1, true_or, or_true, n1_01, n0_01, bI_01, bI_01b, bI_0, isSc1, isSc3, isSc5, ln_2, ln_4, ln_6, ln_8, ln_10, ln_11, ln_12, ln_13, ln_14, ln_16, ln_17, ln_18, ln_19, ln_20, ln_21, ln_23, ln_24, ln_25, ln_27, ln_28, ln_29, Nat.one_ne_zero]
        have e1 : pos (gtP G (ph i)) N = pos (gtD G (ph i)) N := gt_same hg o1 o2 (room_key hg o1 f2)
        refine p_put isSc5 hC5 (by omega) (fun j hj => sgp_lt (hg j hj).1 (by have := (hg j hj).2; omega)) (sgp_lt o1 (by omega)) (fun M4 hS4 hC4 => ?_)
        rw [e1] at hC4
        simp (disch := first | assumption | exact isSc1 | exact isSc3 | exact isSc5 | decide | omega) only [iX7_canTryPhrase_54, iX7_canTryPhrase_55, iX7_canTryPhrase_58, Nat.reduceAdd, Nat.reduceSub, Nat.reduceMul, Nat.reduceLeDiff, mm_rv_s, mm_rv_n, true_and, and_true, if_true, if_false, not_true_eq_false, not_false_eq_true, nI_add, nz_0, nz_lt0, nz_0le, nz_0lt, nz_le0, nz_lt, nz_le, nz_eq, nz_cl, nz_in, nz_sub, nz_m1, pk_mul, set_o, set_ne, up_ne, up_set, n1_1, true_or, or_true, n1_01, n0_01, bI_01, bI_01b, bI_0, isSc1, isSc3, isSc5, ln_2, ln_4, ln_6, ln_8, ln_10, ln_11, ln_12, ln_13, ln_14, ln_16, ln_17, ln_18, ln_19, ln_20, ln_21, ln_23, ln_24, ln_25, ln_27, ln_28, ln_29]
        exact ih (i + 1) (N + 1) _ (by omega) (by omega) (val_ins hvN (by omega) o1 f1 f2) M4 _ (hS.tr hS4) hC4 q1 q2
      · have hf : ¬ fitS B N G (ph i) = true := fun z => hr (fitS_iff.mp z)
        rw [if_neg hf] at q1
        simp (disch := first | assumption | exact isSc1 | exact isSc3 | exact isSc5 | decide | omega) only [iX7_canTryPhrase_41, iX7_canTryPhrase_44, iX7_canTryPhrase_45, Nat.reduceAdd, Nat.reduceSub, Nat.reduceMul, Nat.reduceLeDiff, mm_rv_s, mm_rv_n, true_and, and_true, if_true, if_false, not_true_eq_false, not_false_eq_true, nI_add, nz_0, nz_lt0, nz_0le, nz_0lt, nz_le0, nz_lt, nz_le, nz_eq, nz_cl, nz_in, nz_sub, nz_m1, pk_mul, set_o, set_ne, up_ne, up_set, n1_1, true_or, or_true, n1_01, n0_01, bI_01, bI_01b, bI_0, isSc1, isSc3, isSc5, ln_2, ln_4, ln_6, ln_8, ln_10, ln_11, ln_12, ln_13, ln_14, ln_16, ln_17, ln_18, ln_19, ln_20, ln_21, ln_23, ln_24, ln_25, ln_27, ln_28, ln_29]
        exact q1 rfl M' hS
  simp (disch := first | assumption | exact isSc1 | exact isSc3 | exact isSc5 | decide | omega) only [eX7_canTryPhrase, iX7_canTryPhrase_0, iX7_canTryPhrase_1, iX7_canTryPhrase_4, iX7_canTryPhrase_5, iX7_canTryPhrase_8, iX7_canTryPhrase_11, iX7_canTryPhrase_12, Nat.reduceAdd, Nat.reduceSub, Nat.reduceMul, Nat.reduceLeDiff, mm_rv_s, mm_rv_n, true_and, and_true, if_true, if_false, not_true_eq_false, not_false_eq_true, nI_add, nz_0, nz_lt0, nz_0le, nz_0lt, nz_le0, nz_lt, nz_le, nz_eq, nz_cl, nz_in, nz_sub, nz_m1, pk_mul, set_o, set_ne, up_ne, up_set, n1_1, true_or, or_true, n1_01, n0_01, bI_01, bI_01b, bI_0, isSc1, isSc3, isSc5, ln_2, ln_4, ln_6, ln_8, ln_10, ln_11, ln_12, ln_13, ln_14, ln_16, ln_17, ln_18, ln_19, ln_20, ln_21, ln_23, ln_24, ln_25, ln_27, ln_28, ln_29, p_become isSc5 isSc1 (show (1 : Nat) ≠ 5 by decide) x2 (show n ≤ 120 by omega), x0, x1]
  refine loop m 0 n g (by omega) (by omega) hv _ _ ((((((Same.rf [5, 6] M).up (by decide) _ _).up (by decide) _ _).up (by decide) _ _)).set (by decide) _) ⟨?_, ?_, ?_, fun i hi => ?_⟩ hQ1 hQ2
  · simp [mm_up, mm_set, upd]
  · simp [mm_up, mm_set, upd]
  · simp [mm_up, mm_set, upd]
  · rw [← x3 i hi, set_o, pk_cpy_in (by omega) (by omega)]
    simp
theorem x_copy (hcur : Cur M B L n g) (hh : Hst M h H) {f l o a r : Nat} (hfl : f < l) (hl : l ≤ B) (ho : o < B) (ha : a ≤ 1) (hr : r ≤ 1)
    (hQ1 : tryF B (phR f l o a r g n).2 (phR f l o a r g n).1 0 n g = none → ∀ M', Same [3, 4, 5, 6] M M' → Q (some (-1002)) M')
    (hQ2 : ∀ N G, tryF B (phR f l o a r g n).2 (phR f l o a r g n).1 0 n g = some (N, G) → 60 < N → ∀ M', Same [3, 4, 5, 6] M M' → Q (some (-1003)) M')
    (hQ3 : ∀ N G, tryF B (phR f l o a r g n).2 (phR f l o a r g n).1 0 n g = some (N, G) → N ≤ 60 → Val B N G → ∀ M' f2, Same [1, 2, 3, 4, 5, 6, 7, 8] M M' → M' 7 0 = nI (pushN h) → M' 8 = f2 → (∀ k, k < pushN h → hC f2 k (pushH h H (B, L, n, g) k)) → isC M' 1 B L N G → Q (some (nI (phR f l o a r g n).1)) M') :
    wp 68 37 [some (.inr 0), some (.inl (nI f)), some (.inl (nI l)), some (.inl (nI o)), some (.inl (nI a)), some (.inl (nI r)), none, none, none] [] M Q := by
  obtain ⟨hv, hn, hL, hx⟩ := id hcur
  have w1 := hv.1
  have w2 := hv.2.1
  refine p_gather hx hv hn hfl hl ho ha hr (fun M1 l6 l7 l8 hS hC3 => ?_)
  have hm := (phR_ok (B := B) (n := n) (f := f) (l := l) (o := o) (a := a) (r := r) (g := g) n).1
  have hph := phR_okG (a := a) (r := r) hv (show o ≤ 47 by omega) (show l ≤ 48 by omega) (Nat.le_refl n) (f := f)
  generalize (phR f l o a r g n).1 = m at hm hph hC3 hQ1 hQ2 hQ3
  generalize (phR f l o a r g n).2 = ph at hph hC3 hQ1 hQ2 hQ3
  have hx1 : isC M1 1 B L n g := isC_cong (hS 1 (by decide)) (hS 2 (by decide)) hx
  simp (disch := first | assumption | exact isSc1 | exact isSc3 | exact isSc5 | decide | omega) only [iX7_copyPhrase_141, iX7_copyPhrase_142]
  refine p_canTry hx1 hC3 hv hn (by omega) hph (fun e M2 hS2 => ?_) (fun N G e M2 hS2 hC5 => ?_)
  · simp (disch := first | assumption | exact isSc1 | exact isSc3 | exact isSc5 | decide | omega) only [iX7_copyPhrase_145, iX7_copyPhrase_148, iX7_copyPhrase_151, Nat.reduceAdd, Nat.reduceSub, Nat.reduceMul, Nat.reduceLeDiff, mm_rv_s, mm_rv_n, true_and, and_true, if_true, if_false, not_true_eq_false, not_false_eq_true, nI_add, nz_0, nz_lt0, nz_0le, nz_0lt, nz_le0, nz_lt, nz_le, nz_eq, nz_cl, nz_in, nz_sub, nz_m1, pk_mul, set_o, set_ne, up_ne, up_set, n1_1, true_or, or_true, n1_01, n0_01, bI_01, bI_01b, bI_0, isSc1, isSc3, isSc5, ln_2, ln_4, ln_6, ln_8, ln_10, ln_11, ln_12, ln_13, ln_14, ln_16, ln_17, ln_18, ln_19, ln_20, ln_21, ln_23, ln_24, ln_25, ln_27, ln_28, ln_29]
    exact hQ1 e M2 ((hS.wk (by decide)).tr (hS2.wk (by decide)))
  · obtain ⟨vN, eN⟩ := tryF_ok hph m 0 n g (by omega) hv (by omega) N G e
    have e52 := hC5.2.2.1
    simp (disch := first | assumption | exact isSc1 | exact isSc3 | exact isSc5 | decide | omega) only [iX7_copyPhrase_145, iX7_copyPhrase_152, iX7_copyPhrase_153, iX7_copyPhrase_156, iX7_copyPhrase_159, iX7_copyPhrase_161, Nat.reduceAdd, Nat.reduceSub, Nat.reduceMul, Nat.reduceLeDiff, mm_rv_s, mm_rv_n, true_and, and_true, if_true, if_false, not_true_eq_false, not_false_eq_true, nI_add, nz_0, nz_lt0, nz_0le, nz_0lt, nz_le0, nz_lt, nz_le, nz_eq, nz_cl, nz_in, nz_sub, nz_m1, pk_mul, set_o, set_ne, up_ne, up_set, n1_1, true_or, or_true, n1_01, n0_01, bI_01, bI_01b, bI_0, isSc1, isSc3, isSc5, ln_2, ln_4, ln_6, ln_8, ln_10, ln_11, ln_12, ln_13, ln_14, ln_16, ln_17, ln_18, ln_19, ln_20, ln_21, ln_23, ln_24, ln_25, ln_27, ln_28, ln_29, Nat.one_ne_zero, e52]
    by_cases h60 : N ≤ 60
    · have kp : Kp M M2 := (Kp.same hS (by decide)).tr (Kp.same hS2 (by decide))
      simp (disch := first | assumption | exact isSc1 | exact isSc3 | exact isSc5 | decide | omega) only [iX7_copyPhrase_168, iX7_copyPhrase_169, iX7_copyPhrase_172, iX7_copyPhrase_173, iX7_copyPhrase_176, Nat.reduceAdd, Nat.reduceSub, Nat.reduceMul, Nat.reduceLeDiff, mm_rv_s, mm_rv_n, true_and, and_true, if_true, if_false, not_true_eq_false, not_false_eq_true, nI_add, nz_0, nz_lt0, nz_0le, nz_0lt, nz_le0, nz_lt, nz_le, nz_eq, nz_cl, nz_in, nz_sub, nz_m1, pk_mul, set_o, set_ne, up_ne, up_set, n1_1, true_or, or_true, n1_01, n0_01, bI_01, bI_01b, bI_0, isSc1, isSc3, isSc5, ln_2, ln_4, ln_6, ln_8, ln_10, ln_11, ln_12, ln_13, ln_14, ln_16, ln_17, ln_18, ln_19, ln_20, ln_21, ln_23, ln_24, ln_25, ln_27, ln_28, ln_29, h60]
      refine x_keep (hcur.kp kp) (hh.kp kp) (fun f2 hf => ?_)
      have uC : isC (mm_up (mm_set M2 8 f2) 7 0 (nI (pushN h))) 5 B L N G := isC_cong (M := M2) (by rw [up_ne _ _ _ (by decide), set_ne _ _ (by decide)]) (by rw [up_ne _ _ _ (by decide), set_ne _ _ (by decide)]) hC5
      have u32 : mm_up (mm_set M2 8 f2) 7 0 (nI (pushN h)) 3 2 = nI m := by rw [up_ne _ _ _ (by decide), set_ne _ _ (by decide), hS2 3 (by decide)]; exact hC3.2.2.1
      have uS : Same [3, 4, 5, 6, 7, 8] M (mm_up (mm_set M2 8 f2) 7 0 (nI (pushN h))) := (((hS.wk (by decide)).tr (hS2.wk (by decide))).set (by decide) _).up (by decide) _ _
      have u7 : mm_up (mm_set M2 8 f2) 7 0 (nI (pushN h)) 7 0 = nI (pushN h) := by rw [up_o, us]
      have u8 : mm_up (mm_set M2 8 f2) 7 0 (nI (pushN h)) 8 = f2 := by rw [up_ne _ _ _ (by decide), set_o]
      rw [mm_rv_n]
      generalize mm_up (mm_set M2 8 f2) 7 0 (nI (pushN h)) = M3 at uC u32 uS u7 u8 ⊢
      obtain ⟨c0, c1, c2, c3⟩ := uC
      simp (disch := first | assumption | exact isSc1 | exact isSc3 | exact isSc5 | decide | omega) only [iX7_copyPhrase_179, iX7_copyPhrase_180, iX7_copyPhrase_183, iX7_copyPhrase_184, iX7_copyPhrase_187, Nat.reduceAdd, Nat.reduceSub, Nat.reduceMul, Nat.reduceLeDiff, mm_rv_s, mm_rv_n, true_and, and_true, if_true, if_false, not_true_eq_false, not_false_eq_true, nI_add, nz_0, nz_lt0, nz_0le, nz_0lt, nz_le0, nz_lt, nz_le, nz_eq, nz_cl, nz_in, nz_sub, nz_m1, pk_mul, set_o, set_ne, up_ne, up_set, n1_1, true_or, or_true, n1_01, n0_01, bI_01, bI_01b, bI_0, isSc1, isSc3, isSc5, ln_2, ln_4, ln_6, ln_8, ln_10, ln_11, ln_12, ln_13, ln_14, ln_16, ln_17, ln_18, ln_19, ln_20, ln_21, ln_23, ln_24, ln_25, ln_27, ln_28, ln_29, p_become isSc1 isSc5 (show (5 : Nat) ≠ 1 by decide) c2 (show N ≤ 120 by omega), c0, c1]
      have v32 : mm_set (mm_up (mm_up (mm_up M3 1 0 (nI B)) 1 1 (nI L)) 1 2 (nI N)) 2 (va_cpy (M3 6) (M3 2) 0 0 N) 3 2 = nI m := by rw [set_ne _ _ (by decide), up_ne _ _ _ (by decide), up_ne _ _ _ (by decide), up_ne _ _ _ (by decide), u32]
      have vS : Same [1, 2, 3, 4, 5, 6, 7, 8] M (mm_set (mm_up (mm_up (mm_up M3 1 0 (nI B)) 1 1 (nI L)) 1 2 (nI N)) 2 (va_cpy (M3 6) (M3 2) 0 0 N)) := ((((uS.wk (by decide)).up (by decide) _ _).up (by decide) _ _).up (by decide) _ _).set (by decide) _
      have v7 : mm_set (mm_up (mm_up (mm_up M3 1 0 (nI B)) 1 1 (nI L)) 1 2 (nI N)) 2 (va_cpy (M3 6) (M3 2) 0 0 N) 7 0 = nI (pushN h) := by rw [set_ne _ _ (by decide), up_ne _ _ _ (by decide), up_ne _ _ _ (by decide), up_ne _ _ _ (by decide), u7]
      have v8 : mm_set (mm_up (mm_up (mm_up M3 1 0 (nI B)) 1 1 (nI L)) 1 2 (nI N)) 2 (va_cpy (M3 6) (M3 2) 0 0 N) 8 = f2 := by rw [set_ne _ _ (by decide), up_ne _ _ _ (by decide), up_ne _ _ _ (by decide), up_ne _ _ _ (by decide), u8]
      have vC : isC (mm_set (mm_up (mm_up (mm_up M3 1 0 (nI B)) 1 1 (nI L)) 1 2 (nI N)) 2 (va_cpy (M3 6) (M3 2) 0 0 N)) 1 B L N G := by
        refine ⟨by simp [mm_up, mm_set, upd], by simp [mm_up, mm_set, upd], by simp [mm_up, mm_set, upd], fun i hi => ?_⟩
        rw [← c3 i hi, set_o, pk_cpy_in (by omega) (by omega)]
        simp
      generalize mm_set (mm_up (mm_up (mm_up M3 1 0 (nI B)) 1 1 (nI L)) 1 2 (nI N)) 2 (va_cpy (M3 6) (M3 2) 0 0 N) = M4 at v32 vS v7 v8 vC ⊢
      simp (disch := first | assumption | exact isSc1 | exact isSc3 | exact isSc5 | decide | omega) only [iX7_copyPhrase_190, iX7_copyPhrase_191, iX7_copyPhrase_194, iX7_copyPhrase_197, Nat.reduceAdd, Nat.reduceSub, Nat.reduceMul, Nat.reduceLeDiff, mm_rv_s, mm_rv_n, true_and, and_true, if_true, if_false, not_true_eq_false, not_false_eq_true, nI_add, nz_0, nz_lt0, nz_0le, nz_0lt, nz_le0, nz_lt, nz_le, nz_eq, nz_cl, nz_in, nz_sub, nz_m1, pk_mul, set_o, set_ne, up_ne, up_set, n1_1, true_or, or_true, n1_01, n0_01, bI_01, bI_01b, bI_0, isSc1, isSc3, isSc5, ln_2, ln_4, ln_6, ln_8, ln_10, ln_11, ln_12, ln_13, ln_14, ln_16, ln_17, ln_18, ln_19, ln_20, ln_21, ln_23, ln_24, ln_25, ln_27, ln_28, ln_29, v32]
      exact hQ3 N G e h60 vN M4 f2 vS v7 v8 hf vC
    · simp (disch := first | assumption | exact isSc1 | exact isSc3 | exact isSc5 | decide | omega) only [iX7_copyPhrase_164, iX7_copyPhrase_167, Nat.reduceAdd, Nat.reduceSub, Nat.reduceMul, Nat.reduceLeDiff, mm_rv_s, mm_rv_n, true_and, and_true, if_true, if_false, not_true_eq_false, not_false_eq_true, nI_add, nz_0, nz_lt0, nz_0le, nz_0lt, nz_le0, nz_lt, nz_le, nz_eq, nz_cl, nz_in, nz_sub, nz_m1, pk_mul, set_o, set_ne, up_ne, up_set, n1_1, true_or, or_true, n1_01, n0_01, bI_01, bI_01b, bI_0, isSc1, isSc3, isSc5, ln_2, ln_4, ln_6, ln_8, ln_10, ln_11, ln_12, ln_13, ln_14, ln_16, ln_17, ln_18, ln_19, ln_20, ln_21, ln_23, ln_24, ln_25, ln_27, ln_28, ln_29, h60]
      exact hQ2 N G e (by omega) M2 ((hS.wk (by decide)).tr (hS2.wk (by decide)))
/-- copyPhrase with arguments in their ranges -/
theorem z_copy {X V : Nat → Int32} {t : Nat} {c : Nat → Nat} {f l o a r : Nat} (s : Ste M X V B L n g h H t c) (hfl : f < l) (hl : l ≤ B) (ho : o < B) (ha : a ≤ 1) (hr : r ≤ 1) {N : Nat} {G : Nat → Sg}
    (e : tryF B (phR f l o a r g n).2 (phR f l o a r g n).1 0 n g = some (N, G)) (hN : N ≤ 60)
    (hQ : ∀ M', Ste M' X V B L N G (pushN h) (pushH h H (B, L, n, g)) t c → Q (some (nI (phR f l o a r g n).1)) M') : wc 68 [.inr 0, .inl (nI f), .inl (nI l), .inl (nI o), .inl (nI a), .inl (nI r)] M Q := by
  obtain ⟨hcur, hh, ht, hw, h42, h43⟩ := id s
  obtain ⟨hv, hn, hL, hx⟩ := id hcur
  have w1 := hv.1
  have w2 := hv.2.1
  have x0 := hx.1
  have hr1 : (nI 0 ≤ nI f ∧ nI f ≤ nI B - nI 1) ∧ (nI f + nI 1 ≤ nI l ∧ nI l ≤ nI B) := by
    rw [nz_sub _ _ (by omega), nI_add]
    simp (disch := omega) only [nz_le]
    omega
  have hr2 : nI 0 ≤ nI o ∧ nI o ≤ nI B - nI 1 := by
    rw [nz_sub _ _ (by omega)]
    simp (disch := omega) only [nz_le]
    omega
  have hr3 : nI 0 ≤ nI a ∧ nI a ≤ nI 1 := by
    simp (disch := omega) only [nz_le]
    omega
  have hr4 : nI 0 ≤ nI r ∧ nI r ≤ nI 1 := by
    simp (disch := omega) only [nz_le]
    omega
  simp (disch := first | assumption | exact isSc1 | exact isSc3 | exact isSc5 | decide | omega) only [eX7_copyPhrase, iX7_copyPhrase_0, iX7_copyPhrase_1, iX7_copyPhrase_2, iX7_copyPhrase_3, iX7_copyPhrase_6, iX7_copyPhrase_9, iX7_copyPhrase_10, iX7_copyPhrase_11, iX7_copyPhrase_14, iX7_copyPhrase_17, iX7_copyPhrase_19, iX7_copyPhrase_22, iX7_copyPhrase_25, iX7_copyPhrase_27, iX7_copyPhrase_30, p_isPhrase, p_isBeat, p_isFlag, x0, mm_rv_s, bI_0, bI_01, hr1, hr2, hr3, hr4, and_self, decide_true, Bool.true_eq_false, not_true_eq_false, not_false_eq_true, if_true, if_false, true_and]
  refine x_copy hcur hh hfl hl ho ha hr (fun e2 => ?_) (fun N2 G2 e2 h60 => ?_) (fun N2 G2 e2 h60 vN M1 f2 hS s7 s8 hf hC1 => ?_)
  · rw [e] at e2; cases e2
  · rw [e] at e2; cases e2; omega
  · rw [e] at e2
    cases e2
    refine hQ M1 (change_ste s s7 (by rw [s8]; exact hf) ⟨vN, h60, hL, hC1⟩ (TK.of (fun q hq => hS q ?_)))
    simp only [List.mem_cons, List.not_mem_nil, or_false] at hq
    rcases hq with rfl | rfl | rfl | rfl | rfl | rfl | rfl <;> decide
end TRY
