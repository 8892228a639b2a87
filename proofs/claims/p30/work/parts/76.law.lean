/-! THE LAW, from its object on -/
theorem n1002 : ((-1002 : Int32) < 0) = True := by simp
theorem push3 {h : Nat} (hh : h ≤ 6) : 3 ≤ pushN (pushN (pushN h)) := by
  unfold pushN
  repeat' split
  all_goals omega
theorem ste0 (X V : Nat → Int32) : Ste (mm_M0 X V) X V 16 1 0 gZ 0 (fun _ => (16, 1, 0, gZ)) 0 (fun _ => 0) := by
  refine ⟨⟨val_0 (B := 16) (n := 0) (by decide) (by decide), by decide, by decide, rfl, rfl, rfl, fun i hi => absurd hi (by omega)⟩, ⟨by decide, rfl, fun k hk => absurd hk (by omega)⟩, ⟨by decide, rfl, fun i hi => absurd hi (by omega)⟩, ⟨rfl, rfl, rfl⟩, rfl, rfl⟩
section LAW
variable {Q : mm_Q} {X V : Nat → Int32}
/-- the end: the last change undone -/
theorem l_end {M : mm_M} {B L n h t : Nat} {g : Nat → Sg} {H : Nat → St} {c : Nat → Nat} (s : Ste M X V B L n g h H t c) (h1 : 1 ≤ h) {l4 l5 l6 l7 l8 l9 l10 l11 : Option mm_V} (hQ : ∀ M', Q (some (nI 1)) M') : wp 169 385 [some (.inr 42), some (.inr 0), some (.inl (nI 1)), some (.inl (nI 3)), l4, l5, l6, l7, l8, l9, l10, l11] [] M Q := by
  obtain ⟨k, rfl⟩ : ∃ k, h = k + 1 := ⟨h - 1, by omega⟩
  have hk := s.2.1.1
  generalize hS : H k = S
  obtain ⟨B', L', n', g'⟩ := S
  simp (disch := first | assumption | exact isSc1 | exact isSc3 | exact isSc5 | decide | omega) only [iL_law_385, iL_law_386, iL_law_387, iL_law_390, iL_law_391, iL_law_392, iL_law_395, iL_law_396, iL_law_399, iL_law_400, Nat.reduceAdd, Nat.reduceSub, Nat.reduceMul, Nat.reduceLeDiff, mm_rv_s, mm_rv_n, true_and, and_true, if_true, if_false, not_true_eq_false, not_false_eq_true, nI_add, nz_0, nz_lt0, nz_0le, nz_0lt, nz_le0, nz_lt, nz_le, nz_eq, nz_cl, nz_in, nz_sub, nz_m1, pk_mul, set_o, set_ne, up_ne, up_set, n1_1, true_or, or_true, n1_01, n0_01, bI_01, bI_01b, bI_0, isSc1, isSc3, isSc5, ln_2, ln_4, ln_6, ln_8, ln_10, ln_11, ln_12, ln_13, ln_14, ln_16, ln_17, ln_18, ln_19, ln_20, ln_21, ln_23, ln_24, ln_25, ln_27, ln_28, ln_29, z_count s, cnt_3, n1_0, Nat.add_one_ne_zero, Nat.succ_ne_zero]
  refine z_undo s hS (fun M1 s => ?_)
  simp (disch := first | assumption | exact isSc1 | exact isSc3 | exact isSc5 | decide | omega) only [iL_law_403, iL_law_404, iL_law_405, iL_law_406, iL_law_409, iL_law_410, Nat.reduceAdd, Nat.reduceSub, Nat.reduceMul, Nat.reduceLeDiff, mm_rv_s, mm_rv_n, true_and, and_true, if_true, if_false, not_true_eq_false, not_false_eq_true, nI_add, nz_0, nz_lt0, nz_0le, nz_0lt, nz_le0, nz_lt, nz_le, nz_eq, nz_cl, nz_in, nz_sub, nz_m1, pk_mul, set_o, set_ne, up_ne, up_set, n1_1, true_or, or_true, n1_01, n0_01, bI_01, bI_01b, bI_0, isSc1, isSc3, isSc5, ln_2, ln_4, ln_6, ln_8, ln_10, ln_11, ln_12, ln_13, ln_14, ln_16, ln_17, ln_18, ln_19, ln_20, ln_21, ln_23, ln_24, ln_25, ln_27, ln_28, ln_29, Nat.add_sub_cancel]
  refine z_holds s (fun M2 s => ?_)
  simp (disch := first | assumption | exact isSc1 | exact isSc3 | exact isSc5 | decide | omega) only [iL_law_413, iL_law_416, iL_law_417, iL_law_420, iL_law_421, Nat.reduceAdd, Nat.reduceSub, Nat.reduceMul, Nat.reduceLeDiff, mm_rv_s, mm_rv_n, true_and, and_true, if_true, if_false, not_true_eq_false, not_false_eq_true, nI_add, nz_0, nz_lt0, nz_0le, nz_0lt, nz_le0, nz_lt, nz_le, nz_eq, nz_cl, nz_in, nz_sub, nz_m1, pk_mul, set_o, set_ne, up_ne, up_set, n1_1, true_or, or_true, n1_01, n0_01, bI_01, bI_01b, bI_0, isSc1, isSc3, isSc5, ln_2, ln_4, ln_6, ln_8, ln_10, ln_11, ln_12, ln_13, ln_14, ln_16, ln_17, ln_18, ln_19, ln_20, ln_21, ln_23, ln_24, ln_25, ln_27, ln_28, ln_29, n1_0]
  exact hQ M2
/-- the moves added -/
theorem l_adds {B L t r m : Nat} {c : Nat → Nat} (hr : r < 3) (hV : okV V) (hQ : ∀ M' n' g' h' H', Ste M' X V B L n' g' h' H' t c → 3 ≤ h' → ∀ l6 l7 l8 l9 l10 l11, wp 169 328 [some (.inr 42), some (.inr 0), some (.inl (nI 1)), some (.inl (nI r)), some (.inl (nI m)), some (.inl (nI 3)), l6, l7, l8, l9, l10, l11] [] M' Q) :
    ∀ d i, i + d = 3 → ∀ M n g h H, Ste M X V B L n g h H t c → 3 ≤ h → n ≤ 14 + i → ∀ l6 l7 l8 l9 l10 l11, wp 169 163 [some (.inr 42), some (.inr 0), some (.inl (nI 1)), some (.inl (nI r)), some (.inl (nI m)), some (.inl (nI i)), l6, l7, l8, l9, l10, l11] [] M Q := by
  intro d
  induction d with
  | zero =>
    intro i hi M n g h H s h3 hn l6 l7 l8 l9 l10 l11
    have hi : i = 3 := by omega
    subst hi
    rw [iL_law_163]
    simp (disch := first | assumption | exact isSc1 | exact isSc3 | exact isSc5 | decide | omega) only [iL_law_165, iL_law_166, Nat.reduceAdd, Nat.reduceSub, Nat.reduceMul, Nat.reduceLeDiff, mm_rv_s, mm_rv_n, true_and, and_true, if_true, if_false, not_true_eq_false, not_false_eq_true, nI_add, nz_0, nz_lt0, nz_0le, nz_0lt, nz_le0, nz_lt, nz_le, nz_eq, nz_cl, nz_in, nz_sub, nz_m1, pk_mul, set_o, set_ne, up_ne, up_set, n1_1, true_or, or_true, n1_01, n0_01, bI_01, bI_01b, bI_0, isSc1, isSc3, isSc5, ln_2, ln_4, ln_6, ln_8, ln_10, ln_11, ln_12, ln_13, ln_14, ln_16, ln_17, ln_18, ln_19, ln_20, ln_21, ln_23, ln_24, ln_25, ln_27, ln_28, ln_29, Nat.le_refl]
    exact hQ M n g h H s h3 _ _ _ _ _ _
  | succ d ih =>
    intro i hi M n g h H s h3 hn l6 l7 l8 l9 l10 l11
    have hv := s.1.1
    have w1 := hv.1
    have w2 := hv.2.1
    rw [iL_law_163]
    simp (disch := first | assumption | exact isSc1 | exact isSc3 | exact isSc5 | decide | omega) only [iL_law_165, iL_law_166, iL_law_169, iL_law_170, iL_law_173, iL_law_174, iL_law_176, iL_law_177, iL_law_178, iL_law_180, iL_law_181, iL_law_183, iL_law_184, Nat.reduceAdd, Nat.reduceSub, Nat.reduceMul, Nat.reduceLeDiff, mm_rv_s, mm_rv_n, true_and, and_true, if_true, if_false, not_true_eq_false, not_false_eq_true, nI_add, nz_0, nz_lt0, nz_0le, nz_0lt, nz_le0, nz_lt, nz_le, nz_eq, nz_cl, nz_in, nz_sub, nz_m1, pk_mul, set_o, set_ne, up_ne, up_set, n1_1, true_or, or_true, n1_01, n0_01, bI_01, bI_01b, bI_0, isSc1, isSc3, isSc5, ln_2, ln_4, ln_6, ln_8, ln_10, ln_11, ln_12, ln_13, ln_14, ln_16, ln_17, ln_18, ln_19, ln_20, ln_21, ln_23, ln_24, ln_25, ln_27, ln_28, ln_29, show ¬ 3 ≤ i by omega, n1_0]
    refine z_cell s hV (k := 20 * r + 15 + i) (by omega) (fun y hy => ?_)
    have hb := Nat.mod_lt y (show 0 < B by omega)
    generalize hbe : y % B = b at hb
    have hl1 := Nat.mod_lt (y / 2 ^ 6) (show 0 < B - b by omega)
    generalize hle : y / 2 ^ 6 % (B - b) = l1 at hl1
    have hl2 := Nat.mod_le l1 5
    have hl3 := Nat.mod_lt l1 (show 0 < 5 by decide)
    generalize hle2 : l1 % 5 = l2 at hl2 hl3
    have hq4 := Nat.mod_lt (y / 2 ^ 9) (show 0 < 4 by decide)
    generalize hqe : y / 2 ^ 9 % 4 = q at hq4
    have hd9 := Nat.mod_lt (y / 2 ^ 11) (show 0 < 9 by decide)
    generalize hde : y / 2 ^ 11 % 9 = e at hd9
    have hv3 := Nat.mod_lt (y / 2 ^ 15) (show 0 < 3 by decide)
    generalize hve : y / 2 ^ 15 % 3 = v at hv3
    simp (disch := first | assumption | exact isSc1 | exact isSc3 | exact isSc5 | decide | omega) only [iL_law_187, iL_law_189, iL_law_190, iL_law_191, iL_law_194, iL_law_196, iL_law_198, iL_law_200, iL_law_201, iL_law_203, iL_law_204, iL_law_206, iL_law_208, iL_law_209, iL_law_211, iL_law_213, iL_law_214, iL_law_215, iL_law_216, iL_law_217, iL_law_218, iL_law_220, iL_law_221, iL_law_222, iL_law_225, iL_law_227, iL_law_228, iL_law_229, iL_law_231, iL_law_233, iL_law_234, iL_law_235, iL_law_236, iL_law_237, iL_law_239, iL_law_241, iL_law_243, iL_law_245, iL_law_246, iL_law_248, iL_law_249, iL_law_251, iL_law_253, iL_law_254, iL_law_255, iL_law_256, Nat.reduceAdd, Nat.reduceSub, Nat.reduceMul, Nat.reduceLeDiff, mm_rv_s, mm_rv_n, true_and, and_true, if_true, if_false, not_true_eq_false, not_false_eq_true, nI_add, nz_0, nz_lt0, nz_0le, nz_0lt, nz_le0, nz_lt, nz_le, nz_eq, nz_cl, nz_in, nz_sub, nz_m1, pk_mul, set_o, set_ne, up_ne, up_set, n1_1, true_or, or_true, n1_01, n0_01, bI_01, bI_01b, bI_0, isSc1, isSc3, isSc5, ln_2, ln_4, ln_6, ln_8, ln_10, ln_11, ln_12, ln_13, ln_14, ln_16, ln_17, ln_18, ln_19, ln_20, ln_21, ln_23, ln_24, ln_25, ln_27, ln_28, ln_29, z_count s, cnt_0, cnt_1, pk_rem, sh_r, hbe, hle, hle2, hqe, hde, hve]
    have next : ∀ M' n' g' h' H' l11, Ste M' X V B L n' g' h' H' t c → 3 ≤ h' → n' ≤ 14 + (i + 1) → wp 169 321 [some (.inr 42), some (.inr 0), some (.inl (nI 1)), some (.inl (nI r)), some (.inl (nI m)), some (.inl (nI i)), some (.inl (nI y)), some (.inl (nI B)), some (.inl (nI b)), some (.inl (nI (1 + l2))), some (.inl (nI n)), l11] [.inl (nI 1)] M' Q := by
      intro M' n' g' h' H' l11 s' h3' hn'
      simp (disch := first | assumption | exact isSc1 | exact isSc3 | exact isSc5 | decide | omega) only [iL_law_321, iL_law_322, iL_law_325, Nat.reduceAdd, Nat.reduceSub, Nat.reduceMul, Nat.reduceLeDiff, mm_rv_s, mm_rv_n, true_and, and_true, if_true, if_false, not_true_eq_false, not_false_eq_true, nI_add, nz_0, nz_lt0, nz_0le, nz_0lt, nz_le0, nz_lt, nz_le, nz_eq, nz_cl, nz_in, nz_sub, nz_m1, pk_mul, set_o, set_ne, up_ne, up_set, n1_1, true_or, or_true, n1_01, n0_01, bI_01, bI_01b, bI_0, isSc1, isSc3, isSc5, ln_2, ln_4, ln_6, ln_8, ln_10, ln_11, ln_12, ln_13, ln_14, ln_16, ln_17, ln_18, ln_19, ln_20, ln_21, ln_23, ln_24, ln_25, ln_27, ln_28, ln_29]
      exact ih (i + 1) (by omega) M' n' g' h' H' s' h3' hn' _ _ _ _ _ _
    refine z_addMove s (k := 2 + q) (b := b) (l := 1 + l2) (d := e) (v := v) (by omega) hb (by omega) (by omega) (by omega) (by omega) (by omega) (fun _ => ?_) (fun hroom M1 s1 => ?_)
    · simp (disch := first | assumption | exact isSc1 | exact isSc3 | exact isSc5 | decide | omega) only [iL_law_259, iL_law_261, iL_law_263, iL_law_308, iL_law_310, iL_law_313, iL_law_316, iL_law_317, Nat.reduceAdd, Nat.reduceSub, Nat.reduceMul, Nat.reduceLeDiff, mm_rv_s, mm_rv_n, true_and, and_true, if_true, if_false, not_true_eq_false, not_false_eq_true, nI_add, nz_0, nz_lt0, nz_0le, nz_0lt, nz_le0, nz_lt, nz_le, nz_eq, nz_cl, nz_in, nz_sub, nz_m1, pk_mul, set_o, set_ne, up_ne, up_set, n1_1, true_or, or_true, n1_01, n0_01, bI_01, bI_01b, bI_0, isSc1, isSc3, isSc5, ln_2, ln_4, ln_6, ln_8, ln_10, ln_11, ln_12, ln_13, ln_14, ln_16, ln_17, ln_18, ln_19, ln_20, ln_21, ln_23, ln_24, ln_25, ln_27, ln_28, ln_29, n1002]
      exact next M n g h H _ s h3 (by omega)
    · have hp := pos_le (gtD g ((2 + q, b, 0, 1 + l2, (e : Int), v) : Sg)) n
      generalize pos (gtD g ((2 + q, b, 0, 1 + l2, (e : Int), v) : Sg)) n = k at hp s1 ⊢
      have hn60 := s1.1.2.1
      have eE : endN B (n + 1) (insG g k (2 + q, b, 0, 1 + l2, (e : Int), v)) k = b + (1 + l2) := by
        unfold endN
        rw [insG_eq]
        rfl
      simp (disch := first | assumption | exact isSc1 | exact isSc3 | exact isSc5 | decide | omega) only [iL_law_259, iL_law_261, iL_law_263, iL_law_266, iL_law_267, iL_law_268, iL_law_271, iL_law_273, iL_law_274, iL_law_275, iL_law_278, iL_law_279, iL_law_281, iL_law_282, Nat.reduceAdd, Nat.reduceSub, Nat.reduceMul, Nat.reduceLeDiff, mm_rv_s, mm_rv_n, true_and, and_true, if_true, if_false, not_true_eq_false, not_false_eq_true, nI_add, nz_0, nz_lt0, nz_0le, nz_0lt, nz_le0, nz_lt, nz_le, nz_eq, nz_cl, nz_in, nz_sub, nz_m1, pk_mul, set_o, set_ne, up_ne, up_set, n1_1, true_or, or_true, n1_01, n0_01, bI_01, bI_01b, bI_0, isSc1, isSc3, isSc5, ln_2, ln_4, ln_6, ln_8, ln_10, ln_11, ln_12, ln_13, ln_14, ln_16, ln_17, ln_18, ln_19, ln_20, ln_21, ln_23, ln_24, ln_25, ln_27, ln_28, ln_29, z_count s1, cnt_1]
      refine q_sign s1 (show k < n + 1 by omega) (nI 2) (fun M2 s2 => ?_)
      rw [sv_2, eE]
      simp (disch := first | assumption | exact isSc1 | exact isSc3 | exact isSc5 | decide | omega) only [iL_law_285, iL_law_287, iL_law_289, iL_law_290, iL_law_293, iL_law_294, Nat.reduceAdd, Nat.reduceSub, Nat.reduceMul, Nat.reduceLeDiff, mm_rv_s, mm_rv_n, true_and, and_true, if_true, if_false, not_true_eq_false, not_false_eq_true, nI_add, nz_0, nz_lt0, nz_0le, nz_0lt, nz_le0, nz_lt, nz_le, nz_eq, nz_cl, nz_in, nz_sub, nz_m1, pk_mul, set_o, set_ne, up_ne, up_set, n1_1, true_or, or_true, n1_01, n0_01, bI_01, bI_01b, bI_0, isSc1, isSc3, isSc5, ln_2, ln_4, ln_6, ln_8, ln_10, ln_11, ln_12, ln_13, ln_14, ln_16, ln_17, ln_18, ln_19, ln_20, ln_21, ln_23, ln_24, ln_25, ln_27, ln_28, ln_29]
      refine z_holds s2 (fun M3 s3 => ?_)
      simp (disch := first | assumption | exact isSc1 | exact isSc3 | exact isSc5 | decide | omega) only [iL_law_297, iL_law_300, iL_law_301, iL_law_304, iL_law_305, Nat.reduceAdd, Nat.reduceSub, Nat.reduceMul, Nat.reduceLeDiff, mm_rv_s, mm_rv_n, true_and, and_true, if_true, if_false, not_true_eq_false, not_false_eq_true, nI_add, nz_0, nz_lt0, nz_0le, nz_0lt, nz_le0, nz_lt, nz_le, nz_eq, nz_cl, nz_in, nz_sub, nz_m1, pk_mul, set_o, set_ne, up_ne, up_set, n1_1, true_or, or_true, n1_01, n0_01, bI_01, bI_01b, bI_0, isSc1, isSc3, isSc5, ln_2, ln_4, ln_6, ln_8, ln_10, ln_11, ln_12, ln_13, ln_14, ln_16, ln_17, ln_18, ln_19, ln_20, ln_21, ln_23, ln_24, ln_25, ln_27, ln_28, ln_29, n1_0]
      exact next M3 (n + 1) _ _ _ _ s3 ((pushN_pos h s.2.1.1).2 h3) (by omega)
/-- a round -/
theorem l_rounds (hV : okV V) (hQ : ∀ M', Q (some (nI 1)) M') : ∀ d r, r + d = 3 → ∀ M B L n g h H t c, Ste M X V B L n g h H t c → 1 ≤ h → ∀ l4 l5 l6 l7 l8 l9 l10 l11, wp 169 40 [some (.inr 42), some (.inr 0), some (.inl (nI 1)), some (.inl (nI r)), l4, l5, l6, l7, l8, l9, l10, l11] [] M Q := by
  intro d
  induction d with
  | zero =>
    intro r hr M B L n g h H t c s h1 l4 l5 l6 l7 l8 l9 l10 l11
    have hr : r = 3 := by omega
    subst hr
    rw [iL_law_40]
    simp (disch := first | assumption | exact isSc1 | exact isSc3 | exact isSc5 | decide | omega) only [iL_law_41, iL_law_42, Nat.reduceAdd, Nat.reduceSub, Nat.reduceMul, Nat.reduceLeDiff, mm_rv_s, mm_rv_n, true_and, and_true, if_true, if_false, not_true_eq_false, not_false_eq_true, nI_add, nz_0, nz_lt0, nz_0le, nz_0lt, nz_le0, nz_lt, nz_le, nz_eq, nz_cl, nz_in, nz_sub, nz_m1, pk_mul, set_o, set_ne, up_ne, up_set, n1_1, true_or, or_true, n1_01, n0_01, bI_01, bI_01b, bI_0, isSc1, isSc3, isSc5, ln_2, ln_4, ln_6, ln_8, ln_10, ln_11, ln_12, ln_13, ln_14, ln_16, ln_17, ln_18, ln_19, ln_20, ln_21, ln_23, ln_24, ln_25, ln_27, ln_28, ln_29, Nat.le_refl]
    exact l_end s h1 hQ
  | succ d ih =>
    intro r hr M B L n g h H t c s h1 l4 l5 l6 l7 l8 l9 l10 l11
    have hh := s.2.1.1
    rw [iL_law_40]
    simp (disch := first | assumption | exact isSc1 | exact isSc3 | exact isSc5 | decide | omega) only [iL_law_41, iL_law_42, iL_law_45, iL_law_46, iL_law_49, iL_law_50, iL_law_52, iL_law_53, iL_law_55, iL_law_56, iL_law_57, Nat.reduceAdd, Nat.reduceSub, Nat.reduceMul, Nat.reduceLeDiff, mm_rv_s, mm_rv_n, true_and, and_true, if_true, if_false, not_true_eq_false, not_false_eq_true, nI_add, nz_0, nz_lt0, nz_0le, nz_0lt, nz_le0, nz_lt, nz_le, nz_eq, nz_cl, nz_in, nz_sub, nz_m1, pk_mul, set_o, set_ne, up_ne, up_set, n1_1, true_or, or_true, n1_01, n0_01, bI_01, bI_01b, bI_0, isSc1, isSc3, isSc5, ln_2, ln_4, ln_6, ln_8, ln_10, ln_11, ln_12, ln_13, ln_14, ln_16, ln_17, ln_18, ln_19, ln_20, ln_21, ln_23, ln_24, ln_25, ln_27, ln_28, ln_29, show ¬ 3 ≤ r by omega, n1_0]
    refine z_cell s hV (k := 20 * r) (by omega) (fun y hy => ?_)
    have hy1 := Nat.mod_lt y (show 0 < 33 by decide)
    generalize hye : y % 33 = y1 at hy1
    have w1 := s.1.1.1
    have w2 := s.1.1.2.1
    simp (disch := first | assumption | exact isSc1 | exact isSc3 | exact isSc5 | decide | omega) only [iL_law_60, iL_law_62, iL_law_63, iL_law_64, Nat.reduceAdd, Nat.reduceSub, Nat.reduceMul, Nat.reduceLeDiff, mm_rv_s, mm_rv_n, true_and, and_true, if_true, if_false, not_true_eq_false, not_false_eq_true, nI_add, nz_0, nz_lt0, nz_0le, nz_0lt, nz_le0, nz_lt, nz_le, nz_eq, nz_cl, nz_in, nz_sub, nz_m1, pk_mul, set_o, set_ne, up_ne, up_set, n1_1, true_or, or_true, n1_01, n0_01, bI_01, bI_01b, bI_0, isSc1, isSc3, isSc5, ln_2, ln_4, ln_6, ln_8, ln_10, ln_11, ln_12, ln_13, ln_14, ln_16, ln_17, ln_18, ln_19, ln_20, ln_21, ln_23, ln_24, ln_25, ln_27, ln_28, ln_29, pk_rem, hye]
    refine z_reset s (k := 8 + y1) (by omega) (by omega) (fun M1 s => ?_)
    simp (disch := first | assumption | exact isSc1 | exact isSc3 | exact isSc5 | decide | omega) only [iL_law_67, iL_law_68, iL_law_71, iL_law_72, iL_law_73, iL_law_75, iL_law_76, iL_law_77, Nat.reduceAdd, Nat.reduceSub, Nat.reduceMul, Nat.reduceLeDiff, mm_rv_s, mm_rv_n, true_and, and_true, if_true, if_false, not_true_eq_false, not_false_eq_true, nI_add, nz_0, nz_lt0, nz_0le, nz_0lt, nz_le0, nz_lt, nz_le, nz_eq, nz_cl, nz_in, nz_sub, nz_m1, pk_mul, set_o, set_ne, up_ne, up_set, n1_1, true_or, or_true, n1_01, n0_01, bI_01, bI_01b, bI_0, isSc1, isSc3, isSc5, ln_2, ln_4, ln_6, ln_8, ln_10, ln_11, ln_12, ln_13, ln_14, ln_16, ln_17, ln_18, ln_19, ln_20, ln_21, ln_23, ln_24, ln_25, ln_27, ln_28, ln_29, show ¬ B < 4 by omega]
    refine z_cell s hV (k := 20 * r) (by omega) (fun y2 hy2 => ?_)
    have hy3 := Nat.mod_lt (y2 / 40) (show 0 < 9 by decide)
    generalize hye3 : y2 / 40 % 9 = y3 at hy3
    have hL := s.1.2.2.1
    simp (disch := first | assumption | exact isSc1 | exact isSc3 | exact isSc5 | decide | omega) only [iL_law_80, iL_law_82, iL_law_83, iL_law_85, iL_law_86, Nat.reduceAdd, Nat.reduceSub, Nat.reduceMul, Nat.reduceLeDiff, mm_rv_s, mm_rv_n, true_and, and_true, if_true, if_false, not_true_eq_false, not_false_eq_true, nI_add, nz_0, nz_lt0, nz_0le, nz_0lt, nz_le0, nz_lt, nz_le, nz_eq, nz_cl, nz_in, nz_sub, nz_m1, pk_mul, set_o, set_ne, up_ne, up_set, n1_1, true_or, or_true, n1_01, n0_01, bI_01, bI_01b, bI_0, isSc1, isSc3, isSc5, ln_2, ln_4, ln_6, ln_8, ln_10, ln_11, ln_12, ln_13, ln_14, ln_16, ln_17, ln_18, ln_19, ln_20, ln_21, ln_23, ln_24, ln_25, ln_27, ln_28, ln_29, pk_rem, pk_div, hye3]
    refine z_setLeap s (k := y3) (by omega) (fun M2 s => ?_)
    simp (disch := first | assumption | exact isSc1 | exact isSc3 | exact isSc5 | decide | omega) only [iL_law_89, iL_law_92, iL_law_93, iL_law_96, iL_law_97, iL_law_98, iL_law_99, iL_law_102, iL_law_103, iL_law_104, iL_law_106, iL_law_107, iL_law_108, iL_law_109, iL_law_110, Nat.reduceAdd, Nat.reduceSub, Nat.reduceMul, Nat.reduceLeDiff, mm_rv_s, mm_rv_n, true_and, and_true, if_true, if_false, not_true_eq_false, not_false_eq_true, nI_add, nz_0, nz_lt0, nz_0le, nz_0lt, nz_le0, nz_lt, nz_le, nz_eq, nz_cl, nz_in, nz_sub, nz_m1, pk_mul, set_o, set_ne, up_ne, up_set, n1_1, true_or, or_true, n1_01, n0_01, bI_01, bI_01b, bI_0, isSc1, isSc3, isSc5, ln_2, ln_4, ln_6, ln_8, ln_10, ln_11, ln_12, ln_13, ln_14, ln_16, ln_17, ln_18, ln_19, ln_20, ln_21, ln_23, ln_24, ln_25, ln_27, ln_28, ln_29, n1_0]
    refine z_types s hV (fr := 20 * r + 1) (by omega) (fun M3 c3 m p f g3 nb hm hp hf hr3 s => ?_)
    have hd := hr3.done (by omega)
    simp (disch := first | assumption | exact isSc1 | exact isSc3 | exact isSc5 | decide | omega) only [iL_law_113, iL_law_116, iL_law_117, iL_law_119, iL_law_120, iL_law_123, iL_law_125, iL_law_128, iL_law_129, Nat.reduceAdd, Nat.reduceSub, Nat.reduceMul, Nat.reduceLeDiff, mm_rv_s, mm_rv_n, true_and, and_true, if_true, if_false, not_true_eq_false, not_false_eq_true, nI_add, nz_0, nz_lt0, nz_0le, nz_0lt, nz_le0, nz_lt, nz_le, nz_eq, nz_cl, nz_in, nz_sub, nz_m1, pk_mul, set_o, set_ne, up_ne, up_set, n1_1, true_or, or_true, n1_01, n0_01, bI_01, bI_01b, bI_0, isSc1, isSc3, isSc5, ln_2, ln_4, ln_6, ln_8, ln_10, ln_11, ln_12, ln_13, ln_14, ln_16, ln_17, ln_18, ln_19, ln_20, ln_21, ln_23, ln_24, ln_25, ln_27, ln_28, ln_29, n1_0]
    refine z_lay s (fun q e => by rw [hd] at e; cases e) (fun n' g' e M4 s => ?_)
    rw [hd] at e
    cases e
    simp (disch := first | assumption | exact isSc1 | exact isSc3 | exact isSc5 | decide | omega) only [iL_law_132, iL_law_134, iL_law_137, iL_law_138, iL_law_139, iL_law_142, iL_law_144, iL_law_147, iL_law_148, Nat.reduceAdd, Nat.reduceSub, Nat.reduceMul, Nat.reduceLeDiff, mm_rv_s, mm_rv_n, true_and, and_true, if_true, if_false, not_true_eq_false, not_false_eq_true, nI_add, nz_0, nz_lt0, nz_0le, nz_0lt, nz_le0, nz_lt, nz_le, nz_eq, nz_cl, nz_in, nz_sub, nz_m1, pk_mul, set_o, set_ne, up_ne, up_set, n1_1, true_or, or_true, n1_01, n0_01, bI_01, bI_01b, bI_0, isSc1, isSc3, isSc5, ln_2, ln_4, ln_6, ln_8, ln_10, ln_11, ln_12, ln_13, ln_14, ln_16, ln_17, ln_18, ln_19, ln_20, ln_21, ln_23, ln_24, ln_25, ln_27, ln_28, ln_29, z_count s, cnt_1]
    refine z_holds s (fun M5 s => ?_)
    simp (disch := first | assumption | exact isSc1 | exact isSc3 | exact isSc5 | decide | omega) only [iL_law_151, iL_law_154, iL_law_155, iL_law_158, iL_law_159, iL_law_160, iL_law_161, Nat.reduceAdd, Nat.reduceSub, Nat.reduceMul, Nat.reduceLeDiff, mm_rv_s, mm_rv_n, true_and, and_true, if_true, if_false, not_true_eq_false, not_false_eq_true, nI_add, nz_0, nz_lt0, nz_0le, nz_0lt, nz_le0, nz_lt, nz_le, nz_eq, nz_cl, nz_in, nz_sub, nz_m1, pk_mul, set_o, set_ne, up_ne, up_set, n1_1, true_or, or_true, n1_01, n0_01, bI_01, bI_01b, bI_0, isSc1, isSc3, isSc5, ln_2, ln_4, ln_6, ln_8, ln_10, ln_11, ln_12, ln_13, ln_14, ln_16, ln_17, ln_18, ln_19, ln_20, ln_21, ln_23, ln_24, ln_25, ln_27, ln_28, ln_29, n1_0]
    refine l_adds (by omega) hV (fun M6 n6 g6 h6 H6 s h63 l6 l7 l8 l9 l10 l11 => ?_) 3 0 (by omega) M5 _ _ _ _ s (push3 hh) (by omega) _ _ _ _ _ _
    simp (disch := first | assumption | exact isSc1 | exact isSc3 | exact isSc5 | decide | omega) only [iL_law_328, iL_law_329, iL_law_332, iL_law_333, iL_law_334, iL_law_336, iL_law_337, iL_law_338, iL_law_340, iL_law_341, Nat.reduceAdd, Nat.reduceSub, Nat.reduceMul, Nat.reduceLeDiff, mm_rv_s, mm_rv_n, true_and, and_true, if_true, if_false, not_true_eq_false, not_false_eq_true, nI_add, nz_0, nz_lt0, nz_0le, nz_0lt, nz_le0, nz_lt, nz_le, nz_eq, nz_cl, nz_in, nz_sub, nz_m1, pk_mul, set_o, set_ne, up_ne, up_set, n1_1, true_or, or_true, n1_01, n0_01, bI_01, bI_01b, bI_0, isSc1, isSc3, isSc5, ln_2, ln_4, ln_6, ln_8, ln_10, ln_11, ln_12, ln_13, ln_14, ln_16, ln_17, ln_18, ln_19, ln_20, ln_21, ln_23, ln_24, ln_25, ln_27, ln_28, ln_29, n1_0]
    refine z_copied s hV (fr := 20 * r + 18) (by omega) h63 (fun M7 n7 g7 h7 H7 s h73 => ?_)
    simp (disch := first | assumption | exact isSc1 | exact isSc3 | exact isSc5 | decide | omega) only [iL_law_344, iL_law_347, iL_law_348, iL_law_350, Nat.reduceAdd, Nat.reduceSub, Nat.reduceMul, Nat.reduceLeDiff, mm_rv_s, mm_rv_n, true_and, and_true, if_true, if_false, not_true_eq_false, not_false_eq_true, nI_add, nz_0, nz_lt0, nz_0le, nz_0lt, nz_le0, nz_lt, nz_le, nz_eq, nz_cl, nz_in, nz_sub, nz_m1, pk_mul, set_o, set_ne, up_ne, up_set, n1_1, true_or, or_true, n1_01, n0_01, bI_01, bI_01b, bI_0, isSc1, isSc3, isSc5, ln_2, ln_4, ln_6, ln_8, ln_10, ln_11, ln_12, ln_13, ln_14, ln_16, ln_17, ln_18, ln_19, ln_20, ln_21, ln_23, ln_24, ln_25, ln_27, ln_28, ln_29, n1_0]
    refine z_type s (k := 33) (by omega) (by omega) (by omega) (fun M8 s => ?_)
    obtain ⟨f', rfl⟩ : ∃ f', f = f' + 1 := ⟨f - 1, by omega⟩
    have hbad := hr3.bad (k := 33) (by omega) (by omega)
    simp (disch := first | assumption | exact isSc1 | exact isSc3 | exact isSc5 | decide | omega) only [iL_law_353, iL_law_356, iL_law_357, Nat.reduceAdd, Nat.reduceSub, Nat.reduceMul, Nat.reduceLeDiff, mm_rv_s, mm_rv_n, true_and, and_true, if_true, if_false, not_true_eq_false, not_false_eq_true, nI_add, nz_0, nz_lt0, nz_0le, nz_0lt, nz_le0, nz_lt, nz_le, nz_eq, nz_cl, nz_in, nz_sub, nz_m1, pk_mul, set_o, set_ne, up_ne, up_set, n1_1, true_or, or_true, n1_01, n0_01, bI_01, bI_01b, bI_0, isSc1, isSc3, isSc5, ln_2, ln_4, ln_6, ln_8, ln_10, ln_11, ln_12, ln_13, ln_14, ln_16, ln_17, ln_18, ln_19, ln_20, ln_21, ln_23, ln_24, ln_25, ln_27, ln_28, ln_29, Nat.add_one_ne_zero, Nat.succ_ne_zero]
    refine z_fault s (fun q e hq M9 s => ?_) (fun n' g' e => by rw [hbad] at e; cases e)
    simp (disch := first | assumption | exact isSc1 | exact isSc3 | exact isSc5 | decide | omega) only [iL_law_360, iL_law_363, iL_law_364, Nat.reduceAdd, Nat.reduceSub, Nat.reduceMul, Nat.reduceLeDiff, mm_rv_s, mm_rv_n, true_and, and_true, if_true, if_false, not_true_eq_false, not_false_eq_true, nI_add, nz_0, nz_lt0, nz_0le, nz_0lt, nz_le0, nz_lt, nz_le, nz_eq, nz_cl, nz_in, nz_sub, nz_m1, pk_mul, set_o, set_ne, up_ne, up_set, n1_1, true_or, or_true, n1_01, n0_01, bI_01, bI_01b, bI_0, isSc1, isSc3, isSc5, ln_2, ln_4, ln_6, ln_8, ln_10, ln_11, ln_12, ln_13, ln_14, ln_16, ln_17, ln_18, ln_19, ln_20, ln_21, ln_23, ln_24, ln_25, ln_27, ln_28, ln_29]
    refine z_lay s (fun q e M10 s => ?_) (fun n' g' e => by rw [hbad] at e; cases e)
    simp (disch := first | assumption | exact isSc1 | exact isSc3 | exact isSc5 | decide | omega) only [iL_law_367, iL_law_370, iL_law_373, iL_law_374, iL_law_377, iL_law_378, iL_law_379, iL_law_382, Nat.reduceAdd, Nat.reduceSub, Nat.reduceMul, Nat.reduceLeDiff, mm_rv_s, mm_rv_n, true_and, and_true, if_true, if_false, not_true_eq_false, not_false_eq_true, nI_add, nz_0, nz_lt0, nz_0le, nz_0lt, nz_le0, nz_lt, nz_le, nz_eq, nz_cl, nz_in, nz_sub, nz_m1, pk_mul, set_o, set_ne, up_ne, up_set, n1_1, true_or, or_true, n1_01, n0_01, bI_01, bI_01b, bI_0, isSc1, isSc3, isSc5, ln_2, ln_4, ln_6, ln_8, ln_10, ln_11, ln_12, ln_13, ln_14, ln_16, ln_17, ln_18, ln_19, ln_20, ln_21, ln_23, ln_24, ln_25, ln_27, ln_28, ln_29]
    exact ih (r + 1) (by omega) M10 _ _ _ _ _ _ _ _ s (by omega) _ _ _ _ _ _ _ _
theorem l_law (hV : okV V) (hQ : ∀ M', Q (some (nI 1)) M') : wp 169 8 [some (.inr 42), some (.inr 0), none, none, none, none, none, none, none, none, none, none] [] (mm_M0 X V) Q := by
  have s := ste0 X V
  have hd := (Rdd.start 16 (fun _ => 0)).done (by decide)
  simp (disch := first | assumption | exact isSc1 | exact isSc3 | exact isSc5 | decide | omega) only [iL_law_8, iL_law_9, Nat.reduceAdd, Nat.reduceSub, Nat.reduceMul, Nat.reduceLeDiff, mm_rv_s, mm_rv_n, true_and, and_true, if_true, if_false, not_true_eq_false, not_false_eq_true, nI_add, nz_0, nz_lt0, nz_0le, nz_0lt, nz_le0, nz_lt, nz_le, nz_eq, nz_cl, nz_in, nz_sub, nz_m1, pk_mul, set_o, set_ne, up_ne, up_set, n1_1, true_or, or_true, n1_01, n0_01, bI_01, bI_01b, bI_0, isSc1, isSc3, isSc5, ln_2, ln_4, ln_6, ln_8, ln_10, ln_11, ln_12, ln_13, ln_14, ln_16, ln_17, ln_18, ln_19, ln_20, ln_21, ln_23, ln_24, ln_25, ln_27, ln_28, ln_29]
  refine z_holds s (fun M1 s => ?_)
  simp (disch := first | assumption | exact isSc1 | exact isSc3 | exact isSc5 | decide | omega) only [iL_law_12, iL_law_15, iL_law_16, Nat.reduceAdd, Nat.reduceSub, Nat.reduceMul, Nat.reduceLeDiff, mm_rv_s, mm_rv_n, true_and, and_true, if_true, if_false, not_true_eq_false, not_false_eq_true, nI_add, nz_0, nz_lt0, nz_0le, nz_0lt, nz_le0, nz_lt, nz_le, nz_eq, nz_cl, nz_in, nz_sub, nz_m1, pk_mul, set_o, set_ne, up_ne, up_set, n1_1, true_or, or_true, n1_01, n0_01, bI_01, bI_01b, bI_0, isSc1, isSc3, isSc5, ln_2, ln_4, ln_6, ln_8, ln_10, ln_11, ln_12, ln_13, ln_14, ln_16, ln_17, ln_18, ln_19, ln_20, ln_21, ln_23, ln_24, ln_25, ln_27, ln_28, ln_29, n1_0]
  refine z_fault s (fun q e => by rw [hd] at e; cases e) (fun n' g' e M2 s => ?_)
  simp (disch := first | assumption | exact isSc1 | exact isSc3 | exact isSc5 | decide | omega) only [iL_law_19, iL_law_22, iL_law_25, iL_law_26, Nat.reduceAdd, Nat.reduceSub, Nat.reduceMul, Nat.reduceLeDiff, mm_rv_s, mm_rv_n, true_and, and_true, if_true, if_false, not_true_eq_false, not_false_eq_true, nI_add, nz_0, nz_lt0, nz_0le, nz_0lt, nz_le0, nz_lt, nz_le, nz_eq, nz_cl, nz_in, nz_sub, nz_m1, pk_mul, set_o, set_ne, up_ne, up_set, n1_1, true_or, or_true, n1_01, n0_01, bI_01, bI_01b, bI_0, isSc1, isSc3, isSc5, ln_2, ln_4, ln_6, ln_8, ln_10, ln_11, ln_12, ln_13, ln_14, ln_16, ln_17, ln_18, ln_19, ln_20, ln_21, ln_23, ln_24, ln_25, ln_27, ln_28, ln_29]
  refine z_lay s (fun q e => by rw [hd] at e; cases e) (fun n' g' e M3 s => ?_)
  rw [hd] at e
  cases e
  simp (disch := first | assumption | exact isSc1 | exact isSc3 | exact isSc5 | decide | omega) only [iL_law_29, iL_law_32, iL_law_33, iL_law_36, iL_law_37, iL_law_38, iL_law_39, Nat.reduceAdd, Nat.reduceSub, Nat.reduceMul, Nat.reduceLeDiff, mm_rv_s, mm_rv_n, true_and, and_true, if_true, if_false, not_true_eq_false, not_false_eq_true, nI_add, nz_0, nz_lt0, nz_0le, nz_0lt, nz_le0, nz_lt, nz_le, nz_eq, nz_cl, nz_in, nz_sub, nz_m1, pk_mul, set_o, set_ne, up_ne, up_set, n1_1, true_or, or_true, n1_01, n0_01, bI_01, bI_01b, bI_0, isSc1, isSc3, isSc5, ln_2, ln_4, ln_6, ln_8, ln_10, ln_11, ln_12, ln_13, ln_14, ln_16, ln_17, ln_18, ln_19, ln_20, ln_21, ln_23, ln_24, ln_25, ln_27, ln_28, ln_29, n0_0]
  exact l_rounds hV hQ 3 0 (by omega) M3 _ _ _ _ _ _ _ _ s (pushN_pos 0 (by decide)).1 _ _ _ _ _ _ _ _
end LAW
