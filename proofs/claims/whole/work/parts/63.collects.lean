section COL2
variable {M : mm_M} {Q : mm_Q} {B L n : Nat} {g : Nat → Sg}
def wyI (a : Nat) (s : Sg) : Int := if a = 1 then mirW (sK s) (sW s) else sW s
theorem cpy_w {f l o a r : Nat} {s : Sg} : (if decide (r = 1) = true ∧ sK s = 2 then -wyI a s else wyI a s) = sW (cpyS f l o a r s) ∧ sN (cpyS f l o a r s) = sN s ∧ sV (cpyS f l o a r s) = sV s := by
  unfold cpyS wyI
  by_cases hr : r = 1 <;> by_cases ha : a = 1
  · simp only [hr, ha, if_true, decide_true, true_and]
    exact ⟨rfl, rfl, rfl⟩
  · simp only [hr, ha, if_true, if_false, decide_true, true_and]
    exact ⟨rfl, rfl, rfl⟩
  · simp only [hr, ha, if_true, if_false, decide_false, Bool.false_eq_true, false_and]
    exact ⟨rfl, rfl, rfl⟩
  · simp only [hr, ha, if_false, decide_false, Bool.false_eq_true, false_and]
    exact ⟨rfl, rfl, rfl⟩
theorem m_collects (hD : isD (M 31) B L n g) (hv : Val B n g) (hn : n ≤ 60) {f l o a r : Nat} (hfl : f < l) (hl : l ≤ B) (ho : o < B) (ha : a ≤ 1) (hr : r ≤ 1)
    (hQ : ∀ E, (∀ j, j < (phR f l o a r g n).1 → fE E j ((phR f l o a r g n).2 j)) → Q (some (nI (phR f l o a r g n).1)) (mm_set M 36 E)) : wc 119 [.inr 30, .inl (nI f), .inl (nI l), .inl (nI o), .inl (bI (decide (a = 1))), .inl (bI (decide (r = 1)))] M Q := by
  obtain ⟨c0, c1, c2, c3⟩ := id hD
  have w1 := hv.1
  have w2 := hv.2.1
  have w3 := hv.2.2.1
  have hg := hv.okG
  have loop : ∀ d i : Nat, i + d = n → ∀ (E : Nat → Int32), (∀ j, j < (phR f l o a r g i).1 → fE E j ((phR f l o a r g i).2 j)) → ∀ l8 l9 l10 l11 l12 l13 l14,
      wp 119 6 [some (.inr 30), some (.inl (nI f)), some (.inl (nI l)), some (.inl (nI o)), some (.inl (bI (decide (a = 1)))), some (.inl (bI (decide (r = 1)))), some (.inl (nI (phR f l o a r g i).1)), some (.inl (nI i)), l8, l9, l10, l11, l12, l13, l14] [] (mm_set M 36 E) Q := by
    intro d
    induction d with
    | zero =>
      intro i hi E hE l8 l9 l10 l11 l12 l13 l14
      have hi : i = n := by omega
      subst hi
      rw [iX8_collects_6]
      simp (disch := first | assumption | exact isSc1 | exact isSc3 | exact isSc5 | decide | omega) only [iX8_collects_8, iX8_collects_9, iX8_collects_12, iX8_collects_13, iX8_collects_14, iX8_collects_411, iX8_collects_413, Nat.reduceAdd, Nat.reduceSub, Nat.reduceMul, Nat.reduceLeDiff, mm_rv_s, mm_rv_n, true_and, and_true, if_true, if_false, not_true_eq_false, not_false_eq_true, nI_add, nz_0, nz_lt0, nz_0le, nz_0lt, nz_le0, nz_lt, nz_le, nz_eq, nz_cl, nz_in, nz_sub, nz_m1, pk_mul, set_o, set_ne, up_ne, up_set, n1_1, true_or, or_true, n1_01, n0_01, bI_01, bI_01b, bI_0, isSc1, isSc3, isSc5, ln_2, ln_4, ln_6, ln_8, ln_10, ln_11, ln_12, ln_13, ln_14, ln_16, ln_17, ln_18, ln_19, ln_20, ln_21, ln_23, ln_24, ln_25, ln_27, ln_28, ln_29, ln_31, ln_32, ln_33, ln_35, ln_36, ln_37, c2, Nat.le_refl]
      exact hQ E hE
    | succ d ih =>
      intro i hi E hE l8 l9 l10 l11 l12 l13 l14
      have hin : i < n := by omega
      obtain ⟨f1, f2, f3, f4, f5, f6⟩ := c3 i hin
      obtain ⟨o1, o2⟩ := hv.2.2.2.1 i hin
      have hkk := o1.2.1
      have hcc := o1.1
      have ob := okS_b o1
      have ww := okS_w o1
      have hm := (phR_ok (B := B) (n := n) (f := f) (l := l) (o := o) (a := a) (r := r) (g := g) i).1
      have hph := phR_okG (a := a) (r := r) hv (show o ≤ 47 by omega) (show l ≤ 48 by omega) (show i ≤ n by omega) (f := f)
      have skip : ¬ inPh f l (g i) → ∀ l8 l9 l10 l11 l12 l13 l14, wp 119 405 [some (.inr 30), some (.inl (nI f)), some (.inl (nI l)), some (.inl (nI o)), some (.inl (bI (decide (a = 1)))), some (.inl (bI (decide (r = 1)))), some (.inl (nI (phR f l o a r g i).1)), some (.inl (nI i)), l8, l9, l10, l11, l12, l13, l14] [] (mm_set M 36 E) Q := by
        intro hp l8 l9 l10 l11 l12 l13 l14
        have eR : phR f l o a r g (i + 1) = phR f l o a r g i := by
          show (if inPh f l (g i) then _ else _) = _
          rw [if_neg hp]
        have i1 := ih (i + 1) (by omega) E (by rw [eR]; exact hE) l8 l9 l10 l11 l12 l13 l14
        rw [eR] at i1
        simp (disch := first | assumption | exact isSc1 | exact isSc3 | exact isSc5 | decide | omega) only [iX8_collects_405, iX8_collects_408, Nat.reduceAdd, Nat.reduceSub, Nat.reduceMul, Nat.reduceLeDiff, mm_rv_s, mm_rv_n, true_and, and_true, if_true, if_false, not_true_eq_false, not_false_eq_true, nI_add, nz_0, nz_lt0, nz_0le, nz_0lt, nz_le0, nz_lt, nz_le, nz_eq, nz_cl, nz_in, nz_sub, nz_m1, pk_mul, set_o, set_ne, up_ne, up_set, n1_1, true_or, or_true, n1_01, n0_01, bI_01, bI_01b, bI_0, isSc1, isSc3, isSc5, ln_2, ln_4, ln_6, ln_8, ln_10, ln_11, ln_12, ln_13, ln_14, ln_16, ln_17, ln_18, ln_19, ln_20, ln_21, ln_23, ln_24, ln_25, ln_27, ln_28, ln_29, ln_31, ln_32, ln_33, ln_35, ln_36, ln_37]
        exact i1
      have tail : inPh f l (g i) → wp 119 95 [some (.inr 30), some (.inl (nI f)), some (.inl (nI l)), some (.inl (nI o)), some (.inl (bI (decide (a = 1)))), some (.inl (bI (decide (r = 1)))), some (.inl (nI (phR f l o a r g i).1)), some (.inl (nI i)), some (.inl (nI (sK (g i)))), some (.inl (nI (seN (g i)))), l10, l11, l12, l13, l14] [] (mm_set M 36 E) Q := by
        intro hp
        · skip
          have hcb := cpB_le (r := r) o1 hp (show o ≤ 47 by omega) (show l ≤ 48 by omega)
          obtain ⟨a1, a2, a3, a4, a5⟩ := cpy_f (f := f) (l := l) (o := o) (a := a) (r := r) o1
          obtain ⟨b1, b2, b3⟩ := cpy_w (f := f) (l := l) (o := o) (a := a) (r := r) (s := g i)
          have eR : phR f l o a r g (i + 1) = ((phR f l o a r g i).1 + 1, insG (phR f l o a r g i).2 (pos (gtD (phR f l o a r g i).2 (cpyS f l o a r (g i))) (phR f l o a r g i).1) (cpyS f l o a r (g i))) := by
            show (if inPh f l (g i) then _ else _) = _
            rw [if_pos hp]
          have go := m_ins (M := M) (Q := Q) (s := cpyS f l o a r (g i)) (m := (phR f l o a r g i).1) (i := i) (ph := (phR f l o a r g i).2) (r := decide (r = 1)) (w := wyI a (g i)) (a1 := some (.inl (nI f))) (a2 := some (.inl (nI l))) (a3 := some (.inl (nI o))) (a4 := some (.inl (bI (decide (a = 1))))) (l9 := some (.inl (nI (seN (g i))))) (l14x := l14) (by omega) (by omega) (fun j hj => ⟨(hph j hj).1.1, (hph j hj).2⟩) ⟨a1.1, by rw [a3]; exact hcb⟩ (by rw [a5]; exact hkk) (by rw [b2]; exact f4) (by rw [b3]; exact f6) (by rw [a5]; exact b1) (fun E2 l13 l14 hE2 => by
            have i1 := ih (i + 1) (by omega) E2 (by rw [eR]; exact hE2) (some (.inl (nI (sK (cpyS f l o a r (g i)))))) (some (.inl (nI (seN (g i))))) (some (.inl (nI (sC (cpyS f l o a r (g i)))))) (some (.inl (nI (sB (cpyS f l o a r (g i)))))) (some (.inl (iZ (wyI a (g i))))) l13 l14
            rw [eR] at i1
            simp (disch := first | assumption | exact isSc1 | exact isSc3 | exact isSc5 | decide | omega) only [iX8_collects_402, iX8_collects_405, iX8_collects_408, Nat.reduceAdd, Nat.reduceSub, Nat.reduceMul, Nat.reduceLeDiff, mm_rv_s, mm_rv_n, true_and, and_true, if_true, if_false, not_true_eq_false, not_false_eq_true, nI_add, nz_0, nz_lt0, nz_0le, nz_0lt, nz_le0, nz_lt, nz_le, nz_eq, nz_cl, nz_in, nz_sub, nz_m1, pk_mul, set_o, set_ne, up_ne, up_set, n1_1, true_or, or_true, n1_01, n0_01, bI_01, bI_01b, bI_0, isSc1, isSc3, isSc5, ln_2, ln_4, ln_6, ln_8, ln_10, ln_11, ln_12, ln_13, ln_14, ln_16, ln_17, ln_18, ln_19, ln_20, ln_21, ln_23, ln_24, ln_25, ln_27, ln_28, ln_29, ln_31, ln_32, ln_33, ln_35, ln_36, ln_37]
            exact i1) hE
          rw [a5, a2, a3] at go
          have e31 : ∀ x, mm_set M 36 E 31 x = M 31 x := fun x => by rw [set_ne _ _ (by decide)]
          have hse : seN (g i) = sB (g i) + sS (g i) := rfl
          obtain ⟨hp1, hp2⟩ := hp
          have mt := fun Q => m_turnedWay (M := mm_set M 36 E) (Q := Q) (k := sK (g i)) (by omega) ww
          have mc := fun Q => p_mirroredColumnM (M := mm_set M 36 E) (Q := Q) (c := sC (g i)) (by omega)
          unfold cpB wyI at go
          rcases (show a = 0 ∨ a = 1 by omega) with rfl | rfl <;> rcases (show r = 0 ∨ r = 1 by omega) with rfl | rfl
          · simp (disch := first | assumption | exact isSc1 | exact isSc3 | exact isSc5 | decide | omega) only [iX8_collects_95, iX8_collects_97, iX8_collects_100, iX8_collects_101, iX8_collects_104, iX8_collects_105, iX8_collects_107, iX8_collects_108, iX8_collects_109, iX8_collects_112, iX8_collects_115, iX8_collects_116, iX8_collects_119, iX8_collects_120, iX8_collects_122, iX8_collects_123, iX8_collects_124, iX8_collects_126, iX8_collects_128, iX8_collects_131, iX8_collects_132, iX8_collects_133, iX8_collects_134, iX8_collects_136, iX8_collects_137, iX8_collects_140, iX8_collects_141, iX8_collects_142, iX8_collects_145, iX8_collects_147, iX8_collects_149, iX8_collects_150, iX8_collects_151, iX8_collects_152, iX8_collects_153, iX8_collects_154, iX8_collects_156, iX8_collects_158, iX8_collects_161, iX8_collects_163, iX8_collects_164, iX8_collects_167, iX8_collects_170, iX8_collects_172, iX8_collects_173, iX8_collects_174, iX8_collects_177, iX8_collects_180, iX8_collects_181, iX8_collects_184, iX8_collects_187, iX8_collects_189, iX8_collects_190, iX8_collects_191, iX8_collects_193, iX8_collects_195, Nat.reduceAdd, Nat.reduceSub, Nat.reduceMul, Nat.reduceLeDiff, mm_rv_s, mm_rv_n, true_and, and_true, if_true, if_false, not_true_eq_false, not_false_eq_true, nI_add, nz_0, nz_lt0, nz_0le, nz_0lt, nz_le0, nz_lt, nz_le, nz_eq, nz_cl, nz_in, nz_sub, nz_m1, pk_mul, set_o, set_ne, up_ne, up_set, n1_1, true_or, or_true, n1_01, n0_01, bI_01, bI_01b, bI_0, isSc1, isSc3, isSc5, ln_2, ln_4, ln_6, ln_8, ln_10, ln_11, ln_12, ln_13, ln_14, ln_16, ln_17, ln_18, ln_19, ln_20, ln_21, ln_23, ln_24, ln_25, ln_27, ln_28, ln_29, ln_31, ln_32, ln_33, ln_35, ln_36, ln_37, bI, Nat.zero_ne_one, decide_false, Bool.false_eq_true, f1, f2, f5] at go ⊢
            exact go
          · simp (disch := first | assumption | exact isSc1 | exact isSc3 | exact isSc5 | decide | omega) only [iX8_collects_95, iX8_collects_97, iX8_collects_100, iX8_collects_101, iX8_collects_104, iX8_collects_105, iX8_collects_107, iX8_collects_108, iX8_collects_109, iX8_collects_112, iX8_collects_115, iX8_collects_116, iX8_collects_119, iX8_collects_120, iX8_collects_122, iX8_collects_123, iX8_collects_124, iX8_collects_126, iX8_collects_128, iX8_collects_131, iX8_collects_132, iX8_collects_133, iX8_collects_134, iX8_collects_136, iX8_collects_137, iX8_collects_140, iX8_collects_141, iX8_collects_142, iX8_collects_145, iX8_collects_147, iX8_collects_149, iX8_collects_150, iX8_collects_151, iX8_collects_152, iX8_collects_153, iX8_collects_154, iX8_collects_156, iX8_collects_158, iX8_collects_161, iX8_collects_163, iX8_collects_164, iX8_collects_167, iX8_collects_170, iX8_collects_172, iX8_collects_173, iX8_collects_174, iX8_collects_177, iX8_collects_180, iX8_collects_181, iX8_collects_184, iX8_collects_187, iX8_collects_189, iX8_collects_190, iX8_collects_191, iX8_collects_193, iX8_collects_195, Nat.reduceAdd, Nat.reduceSub, Nat.reduceMul, Nat.reduceLeDiff, mm_rv_s, mm_rv_n, true_and, and_true, if_true, if_false, not_true_eq_false, not_false_eq_true, nI_add, nz_0, nz_lt0, nz_0le, nz_0lt, nz_le0, nz_lt, nz_le, nz_eq, nz_cl, nz_in, nz_sub, nz_m1, pk_mul, set_o, set_ne, up_ne, up_set, n1_1, true_or, or_true, n1_01, n0_01, bI_01, bI_01b, bI_0, isSc1, isSc3, isSc5, ln_2, ln_4, ln_6, ln_8, ln_10, ln_11, ln_12, ln_13, ln_14, ln_16, ln_17, ln_18, ln_19, ln_20, ln_21, ln_23, ln_24, ln_25, ln_27, ln_28, ln_29, ln_31, ln_32, ln_33, ln_35, ln_36, ln_37, bI, Nat.zero_ne_one, decide_false, decide_true, Bool.false_eq_true, Nat.one_ne_zero, f1, f2, f5] at go ⊢
            exact go
          · simp (disch := first | assumption | exact isSc1 | exact isSc3 | exact isSc5 | decide | omega) only [iX8_collects_95, iX8_collects_97, iX8_collects_100, iX8_collects_101, iX8_collects_104, iX8_collects_105, iX8_collects_107, iX8_collects_108, iX8_collects_109, iX8_collects_112, iX8_collects_115, iX8_collects_116, iX8_collects_119, iX8_collects_120, iX8_collects_122, iX8_collects_123, iX8_collects_124, iX8_collects_126, iX8_collects_128, iX8_collects_131, iX8_collects_132, iX8_collects_133, iX8_collects_134, iX8_collects_136, iX8_collects_137, iX8_collects_140, iX8_collects_141, iX8_collects_142, iX8_collects_145, iX8_collects_147, iX8_collects_149, iX8_collects_150, iX8_collects_151, iX8_collects_152, iX8_collects_153, iX8_collects_154, iX8_collects_156, iX8_collects_158, iX8_collects_161, iX8_collects_163, iX8_collects_164, iX8_collects_167, iX8_collects_170, iX8_collects_172, iX8_collects_173, iX8_collects_174, iX8_collects_177, iX8_collects_180, iX8_collects_181, iX8_collects_184, iX8_collects_187, iX8_collects_189, iX8_collects_190, iX8_collects_191, iX8_collects_193, iX8_collects_195, Nat.reduceAdd, Nat.reduceSub, Nat.reduceMul, Nat.reduceLeDiff, mm_rv_s, mm_rv_n, true_and, and_true, if_true, if_false, not_true_eq_false, not_false_eq_true, nI_add, nz_0, nz_lt0, nz_0le, nz_0lt, nz_le0, nz_lt, nz_le, nz_eq, nz_cl, nz_in, nz_sub, nz_m1, pk_mul, set_o, set_ne, up_ne, up_set, n1_1, true_or, or_true, n1_01, n0_01, bI_01, bI_01b, bI_0, isSc1, isSc3, isSc5, ln_2, ln_4, ln_6, ln_8, ln_10, ln_11, ln_12, ln_13, ln_14, ln_16, ln_17, ln_18, ln_19, ln_20, ln_21, ln_23, ln_24, ln_25, ln_27, ln_28, ln_29, ln_31, ln_32, ln_33, ln_35, ln_36, ln_37, bI, Nat.zero_ne_one, decide_false, decide_true, Bool.false_eq_true, Nat.one_ne_zero, f1, f2, f5, mc, mt] at go ⊢
            exact go
          · simp (disch := first | assumption | exact isSc1 | exact isSc3 | exact isSc5 | decide | omega) only [iX8_collects_95, iX8_collects_97, iX8_collects_100, iX8_collects_101, iX8_collects_104, iX8_collects_105, iX8_collects_107, iX8_collects_108, iX8_collects_109, iX8_collects_112, iX8_collects_115, iX8_collects_116, iX8_collects_119, iX8_collects_120, iX8_collects_122, iX8_collects_123, iX8_collects_124, iX8_collects_126, iX8_collects_128, iX8_collects_131, iX8_collects_132, iX8_collects_133, iX8_collects_134, iX8_collects_136, iX8_collects_137, iX8_collects_140, iX8_collects_141, iX8_collects_142, iX8_collects_145, iX8_collects_147, iX8_collects_149, iX8_collects_150, iX8_collects_151, iX8_collects_152, iX8_collects_153, iX8_collects_154, iX8_collects_156, iX8_collects_158, iX8_collects_161, iX8_collects_163, iX8_collects_164, iX8_collects_167, iX8_collects_170, iX8_collects_172, iX8_collects_173, iX8_collects_174, iX8_collects_177, iX8_collects_180, iX8_collects_181, iX8_collects_184, iX8_collects_187, iX8_collects_189, iX8_collects_190, iX8_collects_191, iX8_collects_193, iX8_collects_195, Nat.reduceAdd, Nat.reduceSub, Nat.reduceMul, Nat.reduceLeDiff, mm_rv_s, mm_rv_n, true_and, and_true, if_true, if_false, not_true_eq_false, not_false_eq_true, nI_add, nz_0, nz_lt0, nz_0le, nz_0lt, nz_le0, nz_lt, nz_le, nz_eq, nz_cl, nz_in, nz_sub, nz_m1, pk_mul, set_o, set_ne, up_ne, up_set, n1_1, true_or, or_true, n1_01, n0_01, bI_01, bI_01b, bI_0, isSc1, isSc3, isSc5, ln_2, ln_4, ln_6, ln_8, ln_10, ln_11, ln_12, ln_13, ln_14, ln_16, ln_17, ln_18, ln_19, ln_20, ln_21, ln_23, ln_24, ln_25, ln_27, ln_28, ln_29, ln_31, ln_32, ln_33, ln_35, ln_36, ln_37, bI, decide_true, Nat.one_ne_zero, f1, f2, f5, mc, mt] at go ⊢
            exact go
      have e31 : ∀ x, mm_set M 36 E 31 x = M 31 x := fun x => by rw [set_ne _ _ (by decide)]
      have hse : seN (g i) = sB (g i) + sS (g i) := rfl
      have el : nI l - nI 1 = nI (l - 1) := nz_sub _ _ (by omega)
      have dE : isD (mm_set M 36 E 31) B L n g := by rw [set_ne _ _ (by decide)]; exact hD
      rw [iX8_collects_6]
      simp (disch := first | assumption | exact isSc1 | exact isSc3 | exact isSc5 | decide | omega) only [iX8_collects_8, iX8_collects_9, iX8_collects_12, iX8_collects_13, iX8_collects_14, iX8_collects_17, iX8_collects_18, iX8_collects_21, iX8_collects_24, iX8_collects_26, iX8_collects_27, iX8_collects_28, iX8_collects_30, iX8_collects_31, iX8_collects_34, iX8_collects_36, iX8_collects_38, iX8_collects_39, iX8_collects_40, iX8_collects_41, iX8_collects_42, iX8_collects_43, iX8_collects_44, Nat.reduceAdd, Nat.reduceSub, Nat.reduceMul, Nat.reduceLeDiff, mm_rv_s, mm_rv_n, true_and, and_true, if_true, if_false, not_true_eq_false, not_false_eq_true, nI_add, nz_0, nz_lt0, nz_0le, nz_0lt, nz_le0, nz_lt, nz_le, nz_eq, nz_cl, nz_in, nz_sub, nz_m1, pk_mul, set_o, set_ne, up_ne, up_set, n1_1, true_or, or_true, n1_01, n0_01, bI_01, bI_01b, bI_0, isSc1, isSc3, isSc5, ln_2, ln_4, ln_6, ln_8, ln_10, ln_11, ln_12, ln_13, ln_14, ln_16, ln_17, ln_18, ln_19, ln_20, ln_21, ln_23, ln_24, ln_25, ln_27, ln_28, ln_29, ln_31, ln_32, ln_33, ln_35, ln_36, ln_37, c2, show ¬ n ≤ i by omega, f2, f3, p_in]
      by_cases hP : f ≤ sB (g i) ∧ sB (g i) ≤ l - 1
      · simp only [hP, and_self, decide_true]
        by_cases k1 : sK (g i) = 1
        · have hs1 : sS (g i) = 1 := by unfold sS; rw [if_pos k1]
          have tl := tail ⟨hP.1, by omega⟩
          rw [hse, hs1] at tl
          simp (disch := first | assumption | exact isSc1 | exact isSc3 | exact isSc5 | decide | omega) only [iX8_collects_47, iX8_collects_50, iX8_collects_52, iX8_collects_53, iX8_collects_56, iX8_collects_57, iX8_collects_59, iX8_collects_62, iX8_collects_63, iX8_collects_66, iX8_collects_68, iX8_collects_69, iX8_collects_72, iX8_collects_73, iX8_collects_76, iX8_collects_78, iX8_collects_80, iX8_collects_81, iX8_collects_82, iX8_collects_83, iX8_collects_84, iX8_collects_87, iX8_collects_88, iX8_collects_90, iX8_collects_93, Nat.reduceAdd, Nat.reduceSub, Nat.reduceMul, Nat.reduceLeDiff, mm_rv_s, mm_rv_n, true_and, and_true, if_true, if_false, not_true_eq_false, not_false_eq_true, nI_add, nz_0, nz_lt0, nz_0le, nz_0lt, nz_le0, nz_lt, nz_le, nz_eq, nz_cl, nz_in, nz_sub, nz_m1, pk_mul, set_o, set_ne, up_ne, up_set, n1_1, true_or, or_true, n1_01, n0_01, bI_01, bI_01b, bI_0, isSc1, isSc3, isSc5, ln_2, ln_4, ln_6, ln_8, ln_10, ln_11, ln_12, ln_13, ln_14, ln_16, ln_17, ln_18, ln_19, ln_20, ln_21, ln_23, ln_24, ln_25, ln_27, ln_28, ln_29, ln_31, ln_32, ln_33, ln_35, ln_36, ln_37, bI_0, Bool.true_eq_false, k1, f2] at tl ⊢
          exact tl
        · have es : endN B n g i = seN (g i) := endN_short k1
          have hsB : seN (g i) ≤ B := o2
          simp (disch := first | assumption | exact isSc1 | exact isSc3 | exact isSc5 | decide | omega) only [iX8_collects_47, iX8_collects_50, iX8_collects_52, iX8_collects_53, iX8_collects_56, iX8_collects_57, iX8_collects_59, iX8_collects_62, iX8_collects_63, Nat.reduceAdd, Nat.reduceSub, Nat.reduceMul, Nat.reduceLeDiff, mm_rv_s, mm_rv_n, true_and, and_true, if_true, if_false, not_true_eq_false, not_false_eq_true, nI_add, nz_0, nz_lt0, nz_0le, nz_0lt, nz_le0, nz_lt, nz_le, nz_eq, nz_cl, nz_in, nz_sub, nz_m1, pk_mul, set_o, set_ne, up_ne, up_set, n1_1, true_or, or_true, n1_01, n0_01, bI_01, bI_01b, bI_0, isSc1, isSc3, isSc5, ln_2, ln_4, ln_6, ln_8, ln_10, ln_11, ln_12, ln_13, ln_14, ln_16, ln_17, ln_18, ln_19, ln_20, ln_21, ln_23, ln_24, ln_25, ln_27, ln_28, ln_29, ln_31, ln_32, ln_33, ln_35, ln_36, ln_37, bI_0, Bool.true_eq_false, k1, m_endOf dE w3 hg w2 hin, es]
          by_cases h2 : seN (g i) ≤ l
          · have tl := tail ⟨hP.1, h2⟩
            simp (disch := first | assumption | exact isSc1 | exact isSc3 | exact isSc5 | decide | omega) only [iX8_collects_66, iX8_collects_68, iX8_collects_69, iX8_collects_72, iX8_collects_73, iX8_collects_76, iX8_collects_78, iX8_collects_80, iX8_collects_81, iX8_collects_82, iX8_collects_83, iX8_collects_84, iX8_collects_87, iX8_collects_88, iX8_collects_90, iX8_collects_93, Nat.reduceAdd, Nat.reduceSub, Nat.reduceMul, Nat.reduceLeDiff, mm_rv_s, mm_rv_n, true_and, and_true, if_true, if_false, not_true_eq_false, not_false_eq_true, nI_add, nz_0, nz_lt0, nz_0le, nz_0lt, nz_le0, nz_lt, nz_le, nz_eq, nz_cl, nz_in, nz_sub, nz_m1, pk_mul, set_o, set_ne, up_ne, up_set, n1_1, true_or, or_true, n1_01, n0_01, bI_01, bI_01b, bI_0, isSc1, isSc3, isSc5, ln_2, ln_4, ln_6, ln_8, ln_10, ln_11, ln_12, ln_13, ln_14, ln_16, ln_17, ln_18, ln_19, ln_20, ln_21, ln_23, ln_24, ln_25, ln_27, ln_28, ln_29, ln_31, ln_32, ln_33, ln_35, ln_36, ln_37, k1, show ¬ l < seN (g i) by omega, m_endOf dE w3 hg w2 hin, es]
            exact tl
          · simp (disch := first | assumption | exact isSc1 | exact isSc3 | exact isSc5 | decide | omega) only [Nat.reduceAdd, Nat.reduceSub, Nat.reduceMul, Nat.reduceLeDiff, mm_rv_s, mm_rv_n, true_and, and_true, if_true, if_false, not_true_eq_false, not_false_eq_true, nI_add, nz_0, nz_lt0, nz_0le, nz_0lt, nz_le0, nz_lt, nz_le, nz_eq, nz_cl, nz_in, nz_sub, nz_m1, pk_mul, set_o, set_ne, up_ne, up_set, n1_1, true_or, or_true, n1_01, n0_01, bI_01, bI_01b, bI_0, isSc1, isSc3, isSc5, ln_2, ln_4, ln_6, ln_8, ln_10, ln_11, ln_12, ln_13, ln_14, ln_16, ln_17, ln_18, ln_19, ln_20, ln_21, ln_23, ln_24, ln_25, ln_27, ln_28, ln_29, ln_31, ln_32, ln_33, ln_35, ln_36, ln_37, show l < seN (g i) by omega]
            exact skip (fun z => h2 z.2) _ _ _ _ _ _ _
      · simp only [hP, decide_false]
        simp (disch := first | assumption | exact isSc1 | exact isSc3 | exact isSc5 | decide | omega) only [iX8_collects_47, Nat.reduceAdd, Nat.reduceSub, Nat.reduceMul, Nat.reduceLeDiff, mm_rv_s, mm_rv_n, true_and, and_true, if_true, if_false, not_true_eq_false, not_false_eq_true, nI_add, nz_0, nz_lt0, nz_0le, nz_0lt, nz_le0, nz_lt, nz_le, nz_eq, nz_cl, nz_in, nz_sub, nz_m1, pk_mul, set_o, set_ne, up_ne, up_set, n1_1, true_or, or_true, n1_01, n0_01, bI_01, bI_01b, bI_0, isSc1, isSc3, isSc5, ln_2, ln_4, ln_6, ln_8, ln_10, ln_11, ln_12, ln_13, ln_14, ln_16, ln_17, ln_18, ln_19, ln_20, ln_21, ln_23, ln_24, ln_25, ln_27, ln_28, ln_29, ln_31, ln_32, ln_33, ln_35, ln_36, ln_37, bI_0]
        refine skip (fun z => hP ⟨z.1, ?_⟩) _ _ _ _ _ _ _
        have := z.2
        omega
  simp (disch := first | assumption | exact isSc1 | exact isSc3 | exact isSc5 | decide | omega) only [eX8_collects, iX8_collects_0, iX8_collects_1, iX8_collects_3, iX8_collects_4, Nat.reduceAdd, Nat.reduceSub, Nat.reduceMul, Nat.reduceLeDiff, mm_rv_s, mm_rv_n, true_and, and_true, if_true, if_false, not_true_eq_false, not_false_eq_true, nI_add, nz_0, nz_lt0, nz_0le, nz_0lt, nz_le0, nz_lt, nz_le, nz_eq, nz_cl, nz_in, nz_sub, nz_m1, pk_mul, set_o, set_ne, up_ne, up_set, n1_1, true_or, or_true, n1_01, n0_01, bI_01, bI_01b, bI_0, isSc1, isSc3, isSc5, ln_2, ln_4, ln_6, ln_8, ln_10, ln_11, ln_12, ln_13, ln_14, ln_16, ln_17, ln_18, ln_19, ln_20, ln_21, ln_23, ln_24, ln_25, ln_27, ln_28, ln_29, ln_31, ln_32, ln_33, ln_35, ln_36, ln_37]
  have := loop n 0 (by omega) (M 36) (fun j hj => absurd hj (Nat.not_lt_zero j)) none none none none none none none
  rw [set_id] at this
  exact this
end COL2
