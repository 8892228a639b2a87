/-! THE WALK, by the reference -/
def uTerm (b : Bool) (g : Nat → Sg) (n i : Nat) : Int := unI b ((fcN g n (sB (g i)) + (sW (g i)).toNat - 1) % 8)
def plTerm (b : Bool) (g : Nat → Sg) (n t i : Nat) : Int := if sK (g i) = 0 ∧ sC (g i) < 2 ∧ 0 < sW (g i) ∧ seN (g i) ≤ t then (if lst g n (1 - sC (g i)) (seN (g i)) = none then 2 * uTerm b g n i else uTerm b g n i) else 0
def vTerm (b : Bool) (g : Nat → Sg) (n c t i : Nat) : Int := if sW (g i) = 0 then 0 else (if lst g n c t = none then 2 else 1) * uTerm b g n i
theorem plI_eq {B n : Nat} {g : Nat → Sg} (hv : Val B n g) (b : Bool) : ∀ t, sumI (plTerm b g n t) n = plI b g n t := by
  intro t
  induction t with
  | zero =>
    refine sumI_zero n (fun i hi => ?_)
    unfold plTerm
    rw [if_neg]
    rintro ⟨-, -, -, h⟩
    have := (okS_b (hv.2.2.2.1 i hi).1).2.2.1
    unfold seN at h
    omega
  | succ t ih =>
    have one : ∀ c i j, i < n → j < n → mvP g c (t + 1) i = true → mvP g c (t + 1) j = true → i = j := by
      intro c i j hi hj h1 h2
      unfold mvP at h1 h2
      simp only [decide_eq_true_eq] at h1 h2
      exact end_one hv hi hj (by omega) (by omega)
    have s0 := sum_one (p := mvP g 0 (t + 1)) (v := vTerm b g n 1 (t + 1)) n (fun i j hi hj => one 0 i j hi hj)
    have s1 := sum_one (p := mvP g 1 (t + 1)) (v := vTerm b g n 0 (t + 1)) n (fun i j hi hj => one 1 i j hi hj)
    have e0 : stV b g n (lst g n 0 (t + 1)) (lst g n 1 (t + 1)) = opI (vTerm b g n 1 (t + 1)) (lastF (mvP g 0 (t + 1)) n) := by
      show _ = opI (vTerm b g n 1 (t + 1)) (lst g n 0 (t + 1))
      cases lst g n 0 (t + 1) <;> rfl
    have e1 : stV b g n (lst g n 1 (t + 1)) (lst g n 0 (t + 1)) = opI (vTerm b g n 0 (t + 1)) (lastF (mvP g 1 (t + 1)) n) := by
      show _ = opI (vTerm b g n 0 (t + 1)) (lst g n 1 (t + 1))
      cases lst g n 1 (t + 1) <;> rfl
    show _ = plI b g n t + stV b g n (lst g n 0 (t + 1)) (lst g n 1 (t + 1)) + stV b g n (lst g n 1 (t + 1)) (lst g n 0 (t + 1))
    rw [e0, e1, ← s0, ← s1, ← ih, ← sumI_add, ← sumI_add]
    refine sumI_congr n (fun i hi => ?_)
    have o := (hv.2.2.2.1 i hi).1
    unfold plTerm mvP vTerm
    simp only [decide_eq_true_eq]
    by_cases k0 : sK (g i) = 0
    · have hw := o.2.2.2.1 k0
      by_cases w0 : sW (g i) = 0
      · rw [if_neg (by omega), if_neg (by omega), if_pos w0, if_pos w0]
        split <;> split <;> rfl
      · have w1 : 0 < sW (g i) := by omega
        by_cases h1 : seN (g i) ≤ t
        · have a : seN (g i) ≤ t + 1 := by omega
          have b : ¬ seN (g i) = t + 1 := by omega
          simp [k0, w0, w1, h1, a, b]
        · by_cases h2 : seN (g i) = t + 1
          · have a : ¬ t + 1 ≤ t := by omega
            by_cases c0 : sC (g i) = 0
            · by_cases hl : lst g n 1 (t + 1) = none <;> simp [k0, w0, w1, h2, c0, a, hl]
            · by_cases c1 : sC (g i) = 1
              · by_cases hl : lst g n 0 (t + 1) = none <;> simp [k0, w0, w1, h2, c1, a, hl]
              · have hc : ¬ sC (g i) < 2 := by omega
                simp [k0, hc, c0, c1]
          · have a : ¬ seN (g i) ≤ t + 1 := by omega
            simp [k0, h1, h2, a]
    · rw [if_neg (fun z => k0 z.1), if_neg (fun z => k0 z.1), if_neg (fun z => k0 z.1), if_neg (fun z => k0 z.1)]; rfl
section WM
variable {B L n : Nat} {g : Nat → Sg} {M : mm_M} {Q : mm_Q}
theorem endN_short {i : Nat} (h : sK (g i) ≠ 1) : endN B n g i = seN (g i) := by
  unfold endN seN
  rw [if_neg h, sS_N h]
theorem rr_key : ∀ k : Nat, k < 961 → (iZ ((k : Int) - 480) - iZ ((k : Int) - 480) / nI 8 * nI 8 + nI 8) - (iZ ((k : Int) - 480) - iZ ((k : Int) - 480) / nI 8 * nI 8 + nI 8) / nI 8 * nI 8 = nI (((k : Int) - 480) % 8).toNat := by decide +kernel
theorem m_facing (hD : isD (M 31) B L n g) (hv : Val B n g) (hn : n ≤ 60) {t : Nat} (ht : t ≤ 48) : wc 139 [.inr 30, .inl (nI t)] M Q ↔ Q (some (nI (fcN g n t))) M := by
  obtain ⟨c0, c1, c2, c3⟩ := id hD
  have w2 := hv.2.1
  have w3 := hv.2.2.1
  have loop : ∀ d i : Nat, i + d = n → (wp 139 4 [some (.inr 30), some (.inl (nI t)), some (.inl (iZ (sumI (fun i => if sK (g i) = 2 ∧ seN (g i) ≤ t then sW (g i) else 0) i))), some (.inl (nI i))] [] M Q ↔ Q (some (nI (fcN g n t))) M) := by
    intro d
    induction d with
    | zero =>
      intro i hi
      have hi : i = n := by omega
      subst hi
      have hb := sumI_le (f := fun j => if sK (g j) = 2 ∧ seN (g j) ≤ t then sW (g j) else 0) (m := 8) i (fun j hj => by
        have := okS_w (hv.2.2.2.1 j hj).1
        show -((8 : Nat) : Int) ≤ (if sK (g j) = 2 ∧ seN (g j) ≤ t then sW (g j) else 0) ∧ (if sK (g j) = 2 ∧ seN (g j) ≤ t then sW (g j) else 0) ≤ ((8 : Nat) : Int)
        split <;> omega)
      have hz : sumI (fun j => if sK (g j) = 2 ∧ seN (g j) ≤ t then sW (g j) else 0) i = facI g i t := rfl
      rw [hz] at hb ⊢
      have key := rr_key (facI g i t + 480).toNat (by omega)
      have e : ((facI g i t + 480).toNat : Int) - 480 = facI g i t := by omega
      rw [e] at key
      have n8 : ¬ nI 8 = 0 := by decide
      rw [iX8_facing_4]
      simp (disch := first | assumption | exact isSc1 | exact isSc3 | exact isSc5 | decide | omega) only [iX8_facing_5, iX8_facing_6, iX8_facing_9, iX8_facing_10, iX8_facing_11, iX8_facing_60, iX8_facing_61, iX8_facing_63, iX8_facing_64, iX8_facing_66, iX8_facing_67, iX8_facing_69, iX8_facing_70, Nat.reduceAdd, Nat.reduceSub, Nat.reduceMul, Nat.reduceLeDiff, mm_rv_s, mm_rv_n, true_and, and_true, if_true, if_false, not_true_eq_false, not_false_eq_true, nI_add, nz_0, nz_lt0, nz_0le, nz_0lt, nz_le0, nz_lt, nz_le, nz_eq, nz_cl, nz_in, nz_sub, nz_m1, pk_mul, set_o, set_ne, up_ne, up_set, n1_1, true_or, or_true, n1_01, n0_01, bI_01, bI_01b, bI_0, isSc1, isSc3, isSc5, ln_2, ln_4, ln_6, ln_8, ln_10, ln_11, ln_12, ln_13, ln_14, ln_16, ln_17, ln_18, ln_19, ln_20, ln_21, ln_23, ln_24, ln_25, ln_27, ln_28, ln_29, ln_31, ln_32, ln_33, ln_35, ln_36, ln_37, c2, Nat.le_refl, n8]
      rw [key]
      exact Iff.rfl
    | succ d ih =>
      intro i hi
      have hin : i < n := by omega
      obtain ⟨f1, f2, f3, f4, f5, f6⟩ := c3 i hin
      obtain ⟨o1, o2⟩ := hv.2.2.2.1 i hin
      have hk := o1.2.1
      have h := ih (i + 1) (by omega)
      rw [sumI_s, ← iZ_add] at h
      have eN : endN B n g i ≤ B := endN_le hv hin
      have z0 : iZ 0 = nI 0 := rfl
      rw [iX8_facing_4]
      simp (disch := first | assumption | exact isSc1 | exact isSc3 | exact isSc5 | decide | omega) only [iX8_facing_5, iX8_facing_6, iX8_facing_9, iX8_facing_10, iX8_facing_11, iX8_facing_14, iX8_facing_15, iX8_facing_16, iX8_facing_19, iX8_facing_22, iX8_facing_23, iX8_facing_24, iX8_facing_25, iX8_facing_26, Nat.reduceAdd, Nat.reduceSub, Nat.reduceMul, Nat.reduceLeDiff, mm_rv_s, mm_rv_n, true_and, and_true, if_true, if_false, not_true_eq_false, not_false_eq_true, nI_add, nz_0, nz_lt0, nz_0le, nz_0lt, nz_le0, nz_lt, nz_le, nz_eq, nz_cl, nz_in, nz_sub, nz_m1, pk_mul, set_o, set_ne, up_ne, up_set, n1_1, true_or, or_true, n1_01, n0_01, bI_01, bI_01b, bI_0, isSc1, isSc3, isSc5, ln_2, ln_4, ln_6, ln_8, ln_10, ln_11, ln_12, ln_13, ln_14, ln_16, ln_17, ln_18, ln_19, ln_20, ln_21, ln_23, ln_24, ln_25, ln_27, ln_28, ln_29, ln_31, ln_32, ln_33, ln_35, ln_36, ln_37, c2, show ¬ n ≤ i by omega, f3]
      by_cases k2 : sK (g i) = 2
      · have es : endN B n g i = seN (g i) := endN_short (by omega)
        have hse : seN (g i) ≤ B := o2
        simp (disch := first | assumption | exact isSc1 | exact isSc3 | exact isSc5 | decide | omega) only [iX8_facing_29, iX8_facing_30, iX8_facing_31, iX8_facing_34, iX8_facing_35, Nat.reduceAdd, Nat.reduceSub, Nat.reduceMul, Nat.reduceLeDiff, mm_rv_s, mm_rv_n, true_and, and_true, if_true, if_false, not_true_eq_false, not_false_eq_true, nI_add, nz_0, nz_lt0, nz_0le, nz_0lt, nz_le0, nz_lt, nz_le, nz_eq, nz_cl, nz_in, nz_sub, nz_m1, pk_mul, set_o, set_ne, up_ne, up_set, n1_1, true_or, or_true, n1_01, n0_01, bI_01, bI_01b, bI_0, isSc1, isSc3, isSc5, ln_2, ln_4, ln_6, ln_8, ln_10, ln_11, ln_12, ln_13, ln_14, ln_16, ln_17, ln_18, ln_19, ln_20, ln_21, ln_23, ln_24, ln_25, ln_27, ln_28, ln_29, ln_31, ln_32, ln_33, ln_35, ln_36, ln_37, k2, m_endOf hD w3 hv.okG w2 hin, es]
        by_cases h1 : seN (g i) ≤ t
        · rw [if_pos ⟨k2, h1⟩] at h
          simp (disch := first | assumption | exact isSc1 | exact isSc3 | exact isSc5 | decide | omega) only [iX8_facing_38, iX8_facing_39, iX8_facing_42, iX8_facing_45, iX8_facing_46, iX8_facing_47, iX8_facing_48, iX8_facing_51, iX8_facing_52, iX8_facing_53, iX8_facing_54, iX8_facing_57, Nat.reduceAdd, Nat.reduceSub, Nat.reduceMul, Nat.reduceLeDiff, mm_rv_s, mm_rv_n, true_and, and_true, if_true, if_false, not_true_eq_false, not_false_eq_true, nI_add, nz_0, nz_lt0, nz_0le, nz_0lt, nz_le0, nz_lt, nz_le, nz_eq, nz_cl, nz_in, nz_sub, nz_m1, pk_mul, set_o, set_ne, up_ne, up_set, n1_1, true_or, or_true, n1_01, n0_01, bI_01, bI_01b, bI_0, isSc1, isSc3, isSc5, ln_2, ln_4, ln_6, ln_8, ln_10, ln_11, ln_12, ln_13, ln_14, ln_16, ln_17, ln_18, ln_19, ln_20, ln_21, ln_23, ln_24, ln_25, ln_27, ln_28, ln_29, ln_31, ln_32, ln_33, ln_35, ln_36, ln_37, show ¬ t < seN (g i) by omega, f5]
          exact h
        · rw [if_neg (fun z => h1 z.2), z0] at h
          simp (disch := first | assumption | exact isSc1 | exact isSc3 | exact isSc5 | decide | omega) only [iX8_facing_51, iX8_facing_52, iX8_facing_53, iX8_facing_54, iX8_facing_57, Nat.reduceAdd, Nat.reduceSub, Nat.reduceMul, Nat.reduceLeDiff, mm_rv_s, mm_rv_n, true_and, and_true, if_true, if_false, not_true_eq_false, not_false_eq_true, nI_add, nz_0, nz_lt0, nz_0le, nz_0lt, nz_le0, nz_lt, nz_le, nz_eq, nz_cl, nz_in, nz_sub, nz_m1, pk_mul, set_o, set_ne, up_ne, up_set, n1_1, true_or, or_true, n1_01, n0_01, bI_01, bI_01b, bI_0, isSc1, isSc3, isSc5, ln_2, ln_4, ln_6, ln_8, ln_10, ln_11, ln_12, ln_13, ln_14, ln_16, ln_17, ln_18, ln_19, ln_20, ln_21, ln_23, ln_24, ln_25, ln_27, ln_28, ln_29, ln_31, ln_32, ln_33, ln_35, ln_36, ln_37, show t < seN (g i) by omega]
          exact h
      · rw [if_neg (fun z => k2 z.1), z0] at h
        simp (disch := first | assumption | exact isSc1 | exact isSc3 | exact isSc5 | decide | omega) only [iX8_facing_51, iX8_facing_52, iX8_facing_53, iX8_facing_54, iX8_facing_57, Nat.reduceAdd, Nat.reduceSub, Nat.reduceMul, Nat.reduceLeDiff, mm_rv_s, mm_rv_n, true_and, and_true, if_true, if_false, not_true_eq_false, not_false_eq_true, nI_add, nz_0, nz_lt0, nz_0le, nz_0lt, nz_le0, nz_lt, nz_le, nz_eq, nz_cl, nz_in, nz_sub, nz_m1, pk_mul, set_o, set_ne, up_ne, up_set, n1_1, true_or, or_true, n1_01, n0_01, bI_01, bI_01b, bI_0, isSc1, isSc3, isSc5, ln_2, ln_4, ln_6, ln_8, ln_10, ln_11, ln_12, ln_13, ln_14, ln_16, ln_17, ln_18, ln_19, ln_20, ln_21, ln_23, ln_24, ln_25, ln_27, ln_28, ln_29, ln_31, ln_32, ln_33, ln_35, ln_36, ln_37, k2]
        exact h
  simp (disch := first | assumption | exact isSc1 | exact isSc3 | exact isSc5 | decide | omega) only [eX8_facing, iX8_facing_0, iX8_facing_1, iX8_facing_2, iX8_facing_3]
  exact loop n 0 (by omega)
theorem m_unit_t {h : Nat} (hh : h < 8) {l0 l1 l2 : Option mm_V} : wp 140 15 [l0, l1, l2] [.inl (nI h)] M Q ↔ Q (some (iZ (if h = 2 ∨ h = 6 then 0 else if 2 < h ∧ h < 6 then -1 else 1))) M := by
  have z0 : iZ 0 = nI 0 := rfl
  have z1 : iZ 1 = nI 1 := rfl
  have zm : iZ (-1) = -1 := by decide
  by_cases h2 : h = 2
  · subst h2
    simp (disch := first | assumption | exact isSc1 | exact isSc3 | exact isSc5 | decide | omega) only [iX8_unit_15, iX8_unit_16, iX8_unit_17, iX8_unit_18, iX8_unit_21, iX8_unit_22, iX8_unit_24, iX8_unit_27, iX8_unit_28, iX8_unit_31, iX8_unit_32, iX8_unit_33, iX8_unit_36, iX8_unit_37, iX8_unit_39, iX8_unit_42, iX8_unit_43, iX8_unit_46, iX8_unit_47, Nat.reduceAdd, Nat.reduceSub, Nat.reduceMul, Nat.reduceLeDiff, mm_rv_s, mm_rv_n, true_and, and_true, if_true, if_false, not_true_eq_false, not_false_eq_true, nI_add, nz_0, nz_lt0, nz_0le, nz_0lt, nz_le0, nz_lt, nz_le, nz_eq, nz_cl, nz_in, nz_sub, nz_m1, pk_mul, set_o, set_ne, up_ne, up_set, n1_1, true_or, or_true, n1_01, n0_01, bI_01, bI_01b, bI_0, isSc1, isSc3, isSc5, ln_2, ln_4, ln_6, ln_8, ln_10, ln_11, ln_12, ln_13, ln_14, ln_16, ln_17, ln_18, ln_19, ln_20, ln_21, ln_23, ln_24, ln_25, ln_27, ln_28, ln_29, ln_31, ln_32, ln_33, ln_35, ln_36, ln_37, z0]
  · by_cases h6 : h = 6
    · subst h6
      simp (disch := first | assumption | exact isSc1 | exact isSc3 | exact isSc5 | decide | omega) only [iX8_unit_15, iX8_unit_16, iX8_unit_17, iX8_unit_18, iX8_unit_21, iX8_unit_22, iX8_unit_24, iX8_unit_27, iX8_unit_28, iX8_unit_31, iX8_unit_32, iX8_unit_33, iX8_unit_36, iX8_unit_37, iX8_unit_39, iX8_unit_42, iX8_unit_43, iX8_unit_46, iX8_unit_47, Nat.reduceAdd, Nat.reduceSub, Nat.reduceMul, Nat.reduceLeDiff, mm_rv_s, mm_rv_n, true_and, and_true, if_true, if_false, not_true_eq_false, not_false_eq_true, nI_add, nz_0, nz_lt0, nz_0le, nz_0lt, nz_le0, nz_lt, nz_le, nz_eq, nz_cl, nz_in, nz_sub, nz_m1, pk_mul, set_o, set_ne, up_ne, up_set, n1_1, true_or, or_true, n1_01, n0_01, bI_01, bI_01b, bI_0, isSc1, isSc3, isSc5, ln_2, ln_4, ln_6, ln_8, ln_10, ln_11, ln_12, ln_13, ln_14, ln_16, ln_17, ln_18, ln_19, ln_20, ln_21, ln_23, ln_24, ln_25, ln_27, ln_28, ln_29, ln_31, ln_32, ln_33, ln_35, ln_36, ln_37, z0, Nat.reduceEqDiff]
    · by_cases h3 : h ≤ 2
      · simp (disch := first | assumption | exact isSc1 | exact isSc3 | exact isSc5 | decide | omega) only [iX8_unit_15, iX8_unit_16, iX8_unit_17, iX8_unit_18, iX8_unit_21, iX8_unit_22, iX8_unit_24, iX8_unit_27, iX8_unit_28, iX8_unit_31, iX8_unit_32, iX8_unit_33, iX8_unit_36, iX8_unit_37, iX8_unit_39, iX8_unit_42, iX8_unit_43, iX8_unit_46, iX8_unit_47, Nat.reduceAdd, Nat.reduceSub, Nat.reduceMul, Nat.reduceLeDiff, mm_rv_s, mm_rv_n, true_and, and_true, if_true, if_false, not_true_eq_false, not_false_eq_true, nI_add, nz_0, nz_lt0, nz_0le, nz_0lt, nz_le0, nz_lt, nz_le, nz_eq, nz_cl, nz_in, nz_sub, nz_m1, pk_mul, set_o, set_ne, up_ne, up_set, n1_1, true_or, or_true, n1_01, n0_01, bI_01, bI_01b, bI_0, isSc1, isSc3, isSc5, ln_2, ln_4, ln_6, ln_8, ln_10, ln_11, ln_12, ln_13, ln_14, ln_16, ln_17, ln_18, ln_19, ln_20, ln_21, ln_23, ln_24, ln_25, ln_27, ln_28, ln_29, ln_31, ln_32, ln_33, ln_35, ln_36, ln_37, h2, h6, h3, show ¬ 2 < h by omega, false_and, or_self, z1]
      · by_cases h4 : 6 ≤ h
        · simp (disch := first | assumption | exact isSc1 | exact isSc3 | exact isSc5 | decide | omega) only [iX8_unit_15, iX8_unit_16, iX8_unit_17, iX8_unit_18, iX8_unit_21, iX8_unit_22, iX8_unit_24, iX8_unit_27, iX8_unit_28, iX8_unit_31, iX8_unit_32, iX8_unit_33, iX8_unit_36, iX8_unit_37, iX8_unit_39, iX8_unit_42, iX8_unit_43, iX8_unit_46, iX8_unit_47, Nat.reduceAdd, Nat.reduceSub, Nat.reduceMul, Nat.reduceLeDiff, mm_rv_s, mm_rv_n, true_and, and_true, if_true, if_false, not_true_eq_false, not_false_eq_true, nI_add, nz_0, nz_lt0, nz_0le, nz_0lt, nz_le0, nz_lt, nz_le, nz_eq, nz_cl, nz_in, nz_sub, nz_m1, pk_mul, set_o, set_ne, up_ne, up_set, n1_1, true_or, or_true, n1_01, n0_01, bI_01, bI_01b, bI_0, isSc1, isSc3, isSc5, ln_2, ln_4, ln_6, ln_8, ln_10, ln_11, ln_12, ln_13, ln_14, ln_16, ln_17, ln_18, ln_19, ln_20, ln_21, ln_23, ln_24, ln_25, ln_27, ln_28, ln_29, ln_31, ln_32, ln_33, ln_35, ln_36, ln_37, h2, h6, h3, h4, show ¬ h < 6 by omega, and_false, or_self, z1]
        · simp (disch := first | assumption | exact isSc1 | exact isSc3 | exact isSc5 | decide | omega) only [iX8_unit_15, iX8_unit_16, iX8_unit_17, iX8_unit_18, iX8_unit_21, iX8_unit_22, iX8_unit_24, iX8_unit_27, iX8_unit_28, iX8_unit_31, iX8_unit_32, iX8_unit_33, iX8_unit_36, iX8_unit_37, iX8_unit_39, iX8_unit_42, iX8_unit_43, iX8_unit_46, iX8_unit_47, Nat.reduceAdd, Nat.reduceSub, Nat.reduceMul, Nat.reduceLeDiff, mm_rv_s, mm_rv_n, true_and, and_true, if_true, if_false, not_true_eq_false, not_false_eq_true, nI_add, nz_0, nz_lt0, nz_0le, nz_0lt, nz_le0, nz_lt, nz_le, nz_eq, nz_cl, nz_in, nz_sub, nz_m1, pk_mul, set_o, set_ne, up_ne, up_set, n1_1, true_or, or_true, n1_01, n0_01, bI_01, bI_01b, bI_0, isSc1, isSc3, isSc5, ln_2, ln_4, ln_6, ln_8, ln_10, ln_11, ln_12, ln_13, ln_14, ln_16, ln_17, ln_18, ln_19, ln_20, ln_21, ln_23, ln_24, ln_25, ln_27, ln_28, ln_29, ln_31, ln_32, ln_33, ln_35, ln_36, ln_37, h2, h6, h3, h4, show 2 < h by omega, show h < 6 by omega, and_self, or_self, zm]
theorem m_unit {f : Nat} (hf : f < 8) (b : Bool) : wc 140 [.inl (nI f), .inl (bI b)] M Q ↔ Q (some (iZ (unI b f))) M := by
  have n8 : ¬ nI 8 = 0 := by decide
  cases b
  · simp (disch := first | assumption | exact isSc1 | exact isSc3 | exact isSc5 | decide | omega) only [eX8_unit, iX8_unit_0, iX8_unit_1, iX8_unit_4, iX8_unit_5, iX8_unit_7, iX8_unit_8, iX8_unit_10, iX8_unit_11, iX8_unit_14, bI_0, m_unit_t hf]
    simp [unI]
  · simp (disch := first | assumption | exact isSc1 | exact isSc3 | exact isSc5 | decide | omega) only [eX8_unit, iX8_unit_0, iX8_unit_1, iX8_unit_4, iX8_unit_5, iX8_unit_7, iX8_unit_8, iX8_unit_10, iX8_unit_11, bI_0, Bool.true_eq_false, n8, not_false_eq_true, if_false, true_and, nI_add, rem_nat, m_unit_t (h := (f + 6) % 8) (by omega)]
    simp [unI]
theorem m_isTogether (hD : isD (M 31) B L n g) (hv : Val B n g) {s : Nat} (hs : s < n) (hk : sK (g s) = 0) (hc : sC (g s) < 2) : wc 141 [.inr 30, .inl (nI s)] M Q ↔ Q (some (bI (decide (lst g n (1 - sC (g s)) (seN (g s)) ≠ none)))) M := by
  obtain ⟨c0, c1, c2, c3⟩ := id hD
  have w2 := hv.2.1
  have w3 := hv.2.2.1
  have e1 := (c3 s hs).1
  have ess : endN B n g s = seN (g s) := endN_short (by omega)
  have hss : seN (g s) ≤ B := (hv.2.2.2.1 s hs).2
  have loop : ∀ d i : Nat, i + d = n → (wp 141 4 [some (.inr 30), some (.inl (nI s)), some (.inl (bI (decide (lst g i (1 - sC (g s)) (seN (g s)) ≠ none)))), some (.inl (nI i))] [] M Q ↔ Q (some (bI (decide (lst g n (1 - sC (g s)) (seN (g s)) ≠ none)))) M) := by
    intro d
    induction d with
    | zero =>
      intro i hi
      have hi : i = n := by omega
      subst hi
      rw [iX8_isTogether_4]
      simp (disch := first | assumption | exact isSc1 | exact isSc3 | exact isSc5 | decide | omega) only [iX8_isTogether_5, iX8_isTogether_6, iX8_isTogether_9, iX8_isTogether_10, iX8_isTogether_11, iX8_isTogether_77, iX8_isTogether_78, Nat.reduceAdd, Nat.reduceSub, Nat.reduceMul, Nat.reduceLeDiff, mm_rv_s, mm_rv_n, true_and, and_true, if_true, if_false, not_true_eq_false, not_false_eq_true, nI_add, nz_0, nz_lt0, nz_0le, nz_0lt, nz_le0, nz_lt, nz_le, nz_eq, nz_cl, nz_in, nz_sub, nz_m1, pk_mul, set_o, set_ne, up_ne, up_set, n1_1, true_or, or_true, n1_01, n0_01, bI_01, bI_01b, bI_0, isSc1, isSc3, isSc5, ln_2, ln_4, ln_6, ln_8, ln_10, ln_11, ln_12, ln_13, ln_14, ln_16, ln_17, ln_18, ln_19, ln_20, ln_21, ln_23, ln_24, ln_25, ln_27, ln_28, ln_29, ln_31, ln_32, ln_33, ln_35, ln_36, ln_37, c2, Nat.le_refl]
    | succ d ih =>
      intro i hi
      have hin : i < n := by omega
      obtain ⟨f1, f2, f3, f4, f5, f6⟩ := c3 i hin
      obtain ⟨o1, o2⟩ := hv.2.2.2.1 i hin
      have hk2 := o1.2.1
      have hc6 := o1.1
      have h := ih (i + 1) (by omega)
      have el : lst g (i + 1) (1 - sC (g s)) (seN (g s)) = if sK (g i) = 0 ∧ sC (g i) = 1 - sC (g s) ∧ seN (g i) = seN (g s) then some i else lst g i (1 - sC (g s)) (seN (g s)) := by
        unfold lst
        simp only [lastF, mvP, decide_eq_true_eq]
      rw [el] at h
      rw [iX8_isTogether_4]
      simp (disch := first | assumption | exact isSc1 | exact isSc3 | exact isSc5 | decide | omega) only [iX8_isTogether_5, iX8_isTogether_6, iX8_isTogether_9, iX8_isTogether_10, iX8_isTogether_11, iX8_isTogether_14, iX8_isTogether_15, Nat.reduceAdd, Nat.reduceSub, Nat.reduceMul, Nat.reduceLeDiff, mm_rv_s, mm_rv_n, true_and, and_true, if_true, if_false, not_true_eq_false, not_false_eq_true, nI_add, nz_0, nz_lt0, nz_0le, nz_0lt, nz_le0, nz_lt, nz_le, nz_eq, nz_cl, nz_in, nz_sub, nz_m1, pk_mul, set_o, set_ne, up_ne, up_set, n1_1, true_or, or_true, n1_01, n0_01, bI_01, bI_01b, bI_0, isSc1, isSc3, isSc5, ln_2, ln_4, ln_6, ln_8, ln_10, ln_11, ln_12, ln_13, ln_14, ln_16, ln_17, ln_18, ln_19, ln_20, ln_21, ln_23, ln_24, ln_25, ln_27, ln_28, ln_29, ln_31, ln_32, ln_33, ln_35, ln_36, ln_37, c2, show ¬ n ≤ i by omega]
      by_cases hl : lst g i (1 - sC (g s)) (seN (g s)) = none
      · rw [hl] at h ⊢
        simp (disch := first | assumption | exact isSc1 | exact isSc3 | exact isSc5 | decide | omega) only [iX8_isTogether_18, iX8_isTogether_19, iX8_isTogether_22, iX8_isTogether_25, iX8_isTogether_26, iX8_isTogether_27, iX8_isTogether_28, Nat.reduceAdd, Nat.reduceSub, Nat.reduceMul, Nat.reduceLeDiff, mm_rv_s, mm_rv_n, true_and, and_true, if_true, if_false, not_true_eq_false, not_false_eq_true, nI_add, nz_0, nz_lt0, nz_0le, nz_0lt, nz_le0, nz_lt, nz_le, nz_eq, nz_cl, nz_in, nz_sub, nz_m1, pk_mul, set_o, set_ne, up_ne, up_set, n1_1, true_or, or_true, n1_01, n0_01, bI_01, bI_01b, bI_0, isSc1, isSc3, isSc5, ln_2, ln_4, ln_6, ln_8, ln_10, ln_11, ln_12, ln_13, ln_14, ln_16, ln_17, ln_18, ln_19, ln_20, ln_21, ln_23, ln_24, ln_25, ln_27, ln_28, ln_29, ln_31, ln_32, ln_33, ln_35, ln_36, ln_37, ne_eq, not_true_eq_false, decide_false, f3]
        by_cases k0 : sK (g i) = 0
        · simp (disch := first | assumption | exact isSc1 | exact isSc3 | exact isSc5 | decide | omega) only [iX8_isTogether_31, iX8_isTogether_32, iX8_isTogether_35, iX8_isTogether_36, iX8_isTogether_37, iX8_isTogether_38, iX8_isTogether_39, iX8_isTogether_40, iX8_isTogether_41, iX8_isTogether_44, iX8_isTogether_45, iX8_isTogether_46, iX8_isTogether_47, iX8_isTogether_48, iX8_isTogether_49, Nat.reduceAdd, Nat.reduceSub, Nat.reduceMul, Nat.reduceLeDiff, mm_rv_s, mm_rv_n, true_and, and_true, if_true, if_false, not_true_eq_false, not_false_eq_true, nI_add, nz_0, nz_lt0, nz_0le, nz_0lt, nz_le0, nz_lt, nz_le, nz_eq, nz_cl, nz_in, nz_sub, nz_m1, pk_mul, set_o, set_ne, up_ne, up_set, n1_1, true_or, or_true, n1_01, n0_01, bI_01, bI_01b, bI_0, isSc1, isSc3, isSc5, ln_2, ln_4, ln_6, ln_8, ln_10, ln_11, ln_12, ln_13, ln_14, ln_16, ln_17, ln_18, ln_19, ln_20, ln_21, ln_23, ln_24, ln_25, ln_27, ln_28, ln_29, ln_31, ln_32, ln_33, ln_35, ln_36, ln_37, k0, f1, e1]
          by_cases kc : sC (g i) = 1 - sC (g s)
          · have es : endN B n g i = seN (g i) := endN_short (by omega)
            have hse : seN (g i) ≤ B := o2
            simp (disch := first | assumption | exact isSc1 | exact isSc3 | exact isSc5 | decide | omega) only [iX8_isTogether_52, iX8_isTogether_53, iX8_isTogether_54, iX8_isTogether_57, iX8_isTogether_58, iX8_isTogether_59, iX8_isTogether_62, Nat.reduceAdd, Nat.reduceSub, Nat.reduceMul, Nat.reduceLeDiff, mm_rv_s, mm_rv_n, true_and, and_true, if_true, if_false, not_true_eq_false, not_false_eq_true, nI_add, nz_0, nz_lt0, nz_0le, nz_0lt, nz_le0, nz_lt, nz_le, nz_eq, nz_cl, nz_in, nz_sub, nz_m1, pk_mul, set_o, set_ne, up_ne, up_set, n1_1, true_or, or_true, n1_01, n0_01, bI_01, bI_01b, bI_0, isSc1, isSc3, isSc5, ln_2, ln_4, ln_6, ln_8, ln_10, ln_11, ln_12, ln_13, ln_14, ln_16, ln_17, ln_18, ln_19, ln_20, ln_21, ln_23, ln_24, ln_25, ln_27, ln_28, ln_29, ln_31, ln_32, ln_33, ln_35, ln_36, ln_37, kc, m_endOf hD w3 hv.okG w2 hin, m_endOf hD w3 hv.okG w2 hs, es, ess]
            by_cases ke : seN (g i) = seN (g s)
            · rw [if_pos ⟨k0, kc, ke⟩] at h
              simp (disch := first | assumption | exact isSc1 | exact isSc3 | exact isSc5 | decide | omega) only [iX8_isTogether_65, iX8_isTogether_66, iX8_isTogether_69, iX8_isTogether_70, iX8_isTogether_71, iX8_isTogether_74, Nat.reduceAdd, Nat.reduceSub, Nat.reduceMul, Nat.reduceLeDiff, mm_rv_s, mm_rv_n, true_and, and_true, if_true, if_false, not_true_eq_false, not_false_eq_true, nI_add, nz_0, nz_lt0, nz_0le, nz_0lt, nz_le0, nz_lt, nz_le, nz_eq, nz_cl, nz_in, nz_sub, nz_m1, pk_mul, set_o, set_ne, up_ne, up_set, n1_1, true_or, or_true, n1_01, n0_01, bI_01, bI_01b, bI_0, isSc1, isSc3, isSc5, ln_2, ln_4, ln_6, ln_8, ln_10, ln_11, ln_12, ln_13, ln_14, ln_16, ln_17, ln_18, ln_19, ln_20, ln_21, ln_23, ln_24, ln_25, ln_27, ln_28, ln_29, ln_31, ln_32, ln_33, ln_35, ln_36, ln_37, ke]
              simpa [bI] using h
            · rw [if_neg (fun z => ke z.2.2)] at h
              simp (disch := first | assumption | exact isSc1 | exact isSc3 | exact isSc5 | decide | omega) only [iX8_isTogether_69, iX8_isTogether_70, iX8_isTogether_71, iX8_isTogether_74, Nat.reduceAdd, Nat.reduceSub, Nat.reduceMul, Nat.reduceLeDiff, mm_rv_s, mm_rv_n, true_and, and_true, if_true, if_false, not_true_eq_false, not_false_eq_true, nI_add, nz_0, nz_lt0, nz_0le, nz_0lt, nz_le0, nz_lt, nz_le, nz_eq, nz_cl, nz_in, nz_sub, nz_m1, pk_mul, set_o, set_ne, up_ne, up_set, n1_1, true_or, or_true, n1_01, n0_01, bI_01, bI_01b, bI_0, isSc1, isSc3, isSc5, ln_2, ln_4, ln_6, ln_8, ln_10, ln_11, ln_12, ln_13, ln_14, ln_16, ln_17, ln_18, ln_19, ln_20, ln_21, ln_23, ln_24, ln_25, ln_27, ln_28, ln_29, ln_31, ln_32, ln_33, ln_35, ln_36, ln_37, ke]
              simpa [bI] using h
          · rw [if_neg (fun z => kc z.2.1)] at h
            simp (disch := first | assumption | exact isSc1 | exact isSc3 | exact isSc5 | decide | omega) only [iX8_isTogether_69, iX8_isTogether_70, iX8_isTogether_71, iX8_isTogether_74, Nat.reduceAdd, Nat.reduceSub, Nat.reduceMul, Nat.reduceLeDiff, mm_rv_s, mm_rv_n, true_and, and_true, if_true, if_false, not_true_eq_false, not_false_eq_true, nI_add, nz_0, nz_lt0, nz_0le, nz_0lt, nz_le0, nz_lt, nz_le, nz_eq, nz_cl, nz_in, nz_sub, nz_m1, pk_mul, set_o, set_ne, up_ne, up_set, n1_1, true_or, or_true, n1_01, n0_01, bI_01, bI_01b, bI_0, isSc1, isSc3, isSc5, ln_2, ln_4, ln_6, ln_8, ln_10, ln_11, ln_12, ln_13, ln_14, ln_16, ln_17, ln_18, ln_19, ln_20, ln_21, ln_23, ln_24, ln_25, ln_27, ln_28, ln_29, ln_31, ln_32, ln_33, ln_35, ln_36, ln_37, kc]
            simpa [bI] using h
        · rw [if_neg (fun z => k0 z.1)] at h
          simp (disch := first | assumption | exact isSc1 | exact isSc3 | exact isSc5 | decide | omega) only [iX8_isTogether_69, iX8_isTogether_70, iX8_isTogether_71, iX8_isTogether_74, Nat.reduceAdd, Nat.reduceSub, Nat.reduceMul, Nat.reduceLeDiff, mm_rv_s, mm_rv_n, true_and, and_true, if_true, if_false, not_true_eq_false, not_false_eq_true, nI_add, nz_0, nz_lt0, nz_0le, nz_0lt, nz_le0, nz_lt, nz_le, nz_eq, nz_cl, nz_in, nz_sub, nz_m1, pk_mul, set_o, set_ne, up_ne, up_set, n1_1, true_or, or_true, n1_01, n0_01, bI_01, bI_01b, bI_0, isSc1, isSc3, isSc5, ln_2, ln_4, ln_6, ln_8, ln_10, ln_11, ln_12, ln_13, ln_14, ln_16, ln_17, ln_18, ln_19, ln_20, ln_21, ln_23, ln_24, ln_25, ln_27, ln_28, ln_29, ln_31, ln_32, ln_33, ln_35, ln_36, ln_37, k0]
          simpa [bI] using h
      · have h2 : (if sK (g i) = 0 ∧ sC (g i) = 1 - sC (g s) ∧ seN (g i) = seN (g s) then some i else lst g i (1 - sC (g s)) (seN (g s))) ≠ none := by
          split
          · simp
          · exact hl
        simp only [h2, hl, ne_eq, not_false_eq_true, decide_true] at h ⊢
        simp (disch := first | assumption | exact isSc1 | exact isSc3 | exact isSc5 | decide | omega) only [iX8_isTogether_65, iX8_isTogether_66, iX8_isTogether_69, iX8_isTogether_70, iX8_isTogether_71, iX8_isTogether_74, Nat.reduceAdd, Nat.reduceSub, Nat.reduceMul, Nat.reduceLeDiff, mm_rv_s, mm_rv_n, true_and, and_true, if_true, if_false, not_true_eq_false, not_false_eq_true, nI_add, nz_0, nz_lt0, nz_0le, nz_0lt, nz_le0, nz_lt, nz_le, nz_eq, nz_cl, nz_in, nz_sub, nz_m1, pk_mul, set_o, set_ne, up_ne, up_set, n1_1, true_or, or_true, n1_01, n0_01, bI_01, bI_01b, bI_0, isSc1, isSc3, isSc5, ln_2, ln_4, ln_6, ln_8, ln_10, ln_11, ln_12, ln_13, ln_14, ln_16, ln_17, ln_18, ln_19, ln_20, ln_21, ln_23, ln_24, ln_25, ln_27, ln_28, ln_29, ln_31, ln_32, ln_33, ln_35, ln_36, ln_37, Bool.true_eq_false]
        simpa [bI] using h
  simp (disch := first | assumption | exact isSc1 | exact isSc3 | exact isSc5 | decide | omega) only [eX8_isTogether, iX8_isTogether_0, iX8_isTogether_1, iX8_isTogether_2, iX8_isTogether_3]
  have := loop n 0 (by omega)
  simpa [lst, lastF, bI] using this
theorem m_place (hD : isD (M 31) B L n g) (hv : Val B n g) (hn : n ≤ 60) {t : Nat} (ht : t ≤ 48) (b : Bool) : wc 142 [.inr 30, .inl (nI t), .inl (bI b)] M Q ↔ Q (some (iZ (plI b g n t))) M := by
  obtain ⟨c0, c1, c2, c3⟩ := id hD
  have w2 := hv.2.1
  have w3 := hv.2.2.1
  have n8 : ¬ nI 8 = 0 := by decide
  have z0 : iZ 0 = nI 0 := rfl
  have loop : ∀ d i : Nat, i + d = n → ∀ l5, (wp 142 5 [some (.inr 30), some (.inl (nI t)), some (.inl (bI b)), some (.inl (iZ (sumI (plTerm b g n t) i))), some (.inl (nI i)), l5] [] M Q ↔ Q (some (iZ (plI b g n t))) M) := by
    intro d
    induction d with
    | zero =>
      intro i hi l5
      have hi : i = n := by omega
      subst hi
      rw [iX8_place_5]
      simp (disch := first | assumption | exact isSc1 | exact isSc3 | exact isSc5 | decide | omega) only [iX8_place_7, iX8_place_8, iX8_place_11, iX8_place_12, iX8_place_13, iX8_place_131, iX8_place_132, Nat.reduceAdd, Nat.reduceSub, Nat.reduceMul, Nat.reduceLeDiff, mm_rv_s, mm_rv_n, true_and, and_true, if_true, if_false, not_true_eq_false, not_false_eq_true, nI_add, nz_0, nz_lt0, nz_0le, nz_0lt, nz_le0, nz_lt, nz_le, nz_eq, nz_cl, nz_in, nz_sub, nz_m1, pk_mul, set_o, set_ne, up_ne, up_set, n1_1, true_or, or_true, n1_01, n0_01, bI_01, bI_01b, bI_0, isSc1, isSc3, isSc5, ln_2, ln_4, ln_6, ln_8, ln_10, ln_11, ln_12, ln_13, ln_14, ln_16, ln_17, ln_18, ln_19, ln_20, ln_21, ln_23, ln_24, ln_25, ln_27, ln_28, ln_29, ln_31, ln_32, ln_33, ln_35, ln_36, ln_37, c2, Nat.le_refl, plI_eq hv b t]
    | succ d ih =>
      intro i hi l5
      have hin : i < n := by omega
      obtain ⟨f1, f2, f3, f4, f5, f6⟩ := c3 i hin
      obtain ⟨o1, o2⟩ := hv.2.2.2.1 i hin
      have hk2 := o1.2.1
      have hc6 := o1.1
      have hsS := (okS_b o1).2.2.1
      have zr : ∀ v : Int32, v + nI 0 = v := fun v => Int32.add_zero v
      have skip : plTerm b g n t i = 0 → ∀ l5, (wp 142 125 [some (.inr 30), some (.inl (nI t)), some (.inl (bI b)), some (.inl (iZ (sumI (plTerm b g n t) i))), some (.inl (nI i)), l5] [] M Q ↔ Q (some (iZ (plI b g n t))) M) := by
        intro hz l5
        have h := ih (i + 1) (by omega) l5
        rw [sumI_s, hz, Int.add_zero] at h
        simp (disch := first | assumption | exact isSc1 | exact isSc3 | exact isSc5 | decide | omega) only [iX8_place_125, iX8_place_128, Nat.reduceAdd, Nat.reduceSub, Nat.reduceMul, Nat.reduceLeDiff, mm_rv_s, mm_rv_n, true_and, and_true, if_true, if_false, not_true_eq_false, not_false_eq_true, nI_add, nz_0, nz_lt0, nz_0le, nz_0lt, nz_le0, nz_lt, nz_le, nz_eq, nz_cl, nz_in, nz_sub, nz_m1, pk_mul, set_o, set_ne, up_ne, up_set, n1_1, true_or, or_true, n1_01, n0_01, bI_01, bI_01b, bI_0, isSc1, isSc3, isSc5, ln_2, ln_4, ln_6, ln_8, ln_10, ln_11, ln_12, ln_13, ln_14, ln_16, ln_17, ln_18, ln_19, ln_20, ln_21, ln_23, ln_24, ln_25, ln_27, ln_28, ln_29, ln_31, ln_32, ln_33, ln_35, ln_36, ln_37]
        exact h
      rw [iX8_place_5]
      simp (disch := first | assumption | exact isSc1 | exact isSc3 | exact isSc5 | decide | omega) only [iX8_place_7, iX8_place_8, iX8_place_11, iX8_place_12, iX8_place_13, iX8_place_16, iX8_place_17, iX8_place_20, iX8_place_23, iX8_place_25, iX8_place_26, iX8_place_27, Nat.reduceAdd, Nat.reduceSub, Nat.reduceMul, Nat.reduceLeDiff, mm_rv_s, mm_rv_n, true_and, and_true, if_true, if_false, not_true_eq_false, not_false_eq_true, nI_add, nz_0, nz_lt0, nz_0le, nz_0lt, nz_le0, nz_lt, nz_le, nz_eq, nz_cl, nz_in, nz_sub, nz_m1, pk_mul, set_o, set_ne, up_ne, up_set, n1_1, true_or, or_true, n1_01, n0_01, bI_01, bI_01b, bI_0, isSc1, isSc3, isSc5, ln_2, ln_4, ln_6, ln_8, ln_10, ln_11, ln_12, ln_13, ln_14, ln_16, ln_17, ln_18, ln_19, ln_20, ln_21, ln_23, ln_24, ln_25, ln_27, ln_28, ln_29, ln_31, ln_32, ln_33, ln_35, ln_36, ln_37, c2, show ¬ n ≤ i by omega, f3]
      by_cases k0 : sK (g i) = 0
      · have hw := o1.2.2.2.1 k0
        have f5' : M 31 (483 + i) = nI (sW (g i)).toNat := by
          rw [f5, ← iZ_nat]
          congr 1
          omega
        simp (disch := first | assumption | exact isSc1 | exact isSc3 | exact isSc5 | decide | omega) only [iX8_place_30, iX8_place_31, iX8_place_34, iX8_place_35, iX8_place_37, iX8_place_38, iX8_place_39, iX8_place_40, Nat.reduceAdd, Nat.reduceSub, Nat.reduceMul, Nat.reduceLeDiff, mm_rv_s, mm_rv_n, true_and, and_true, if_true, if_false, not_true_eq_false, not_false_eq_true, nI_add, nz_0, nz_lt0, nz_0le, nz_0lt, nz_le0, nz_lt, nz_le, nz_eq, nz_cl, nz_in, nz_sub, nz_m1, pk_mul, set_o, set_ne, up_ne, up_set, n1_1, true_or, or_true, n1_01, n0_01, bI_01, bI_01b, bI_0, isSc1, isSc3, isSc5, ln_2, ln_4, ln_6, ln_8, ln_10, ln_11, ln_12, ln_13, ln_14, ln_16, ln_17, ln_18, ln_19, ln_20, ln_21, ln_23, ln_24, ln_25, ln_27, ln_28, ln_29, ln_31, ln_32, ln_33, ln_35, ln_36, ln_37, k0, f1]
        by_cases hc : sC (g i) < 2
        · simp (disch := first | assumption | exact isSc1 | exact isSc3 | exact isSc5 | decide | omega) only [iX8_place_43, iX8_place_44, iX8_place_47, iX8_place_50, iX8_place_52, iX8_place_53, iX8_place_54, Nat.reduceAdd, Nat.reduceSub, Nat.reduceMul, Nat.reduceLeDiff, mm_rv_s, mm_rv_n, true_and, and_true, if_true, if_false, not_true_eq_false, not_false_eq_true, nI_add, nz_0, nz_lt0, nz_0le, nz_0lt, nz_le0, nz_lt, nz_le, nz_eq, nz_cl, nz_in, nz_sub, nz_m1, pk_mul, set_o, set_ne, up_ne, up_set, n1_1, true_or, or_true, n1_01, n0_01, bI_01, bI_01b, bI_0, isSc1, isSc3, isSc5, ln_2, ln_4, ln_6, ln_8, ln_10, ln_11, ln_12, ln_13, ln_14, ln_16, ln_17, ln_18, ln_19, ln_20, ln_21, ln_23, ln_24, ln_25, ln_27, ln_28, ln_29, ln_31, ln_32, ln_33, ln_35, ln_36, ln_37, show ¬ 2 ≤ sC (g i) by omega, f5']
          by_cases w0 : (sW (g i)).toNat = 0
          · simp (disch := first | assumption | exact isSc1 | exact isSc3 | exact isSc5 | decide | omega) only [Nat.reduceAdd, Nat.reduceSub, Nat.reduceMul, Nat.reduceLeDiff, mm_rv_s, mm_rv_n, true_and, and_true, if_true, if_false, not_true_eq_false, not_false_eq_true, nI_add, nz_0, nz_lt0, nz_0le, nz_0lt, nz_le0, nz_lt, nz_le, nz_eq, nz_cl, nz_in, nz_sub, nz_m1, pk_mul, set_o, set_ne, up_ne, up_set, n1_1, true_or, or_true, n1_01, n0_01, bI_01, bI_01b, bI_0, isSc1, isSc3, isSc5, ln_2, ln_4, ln_6, ln_8, ln_10, ln_11, ln_12, ln_13, ln_14, ln_16, ln_17, ln_18, ln_19, ln_20, ln_21, ln_23, ln_24, ln_25, ln_27, ln_28, ln_29, ln_31, ln_32, ln_33, ln_35, ln_36, ln_37, w0]
            exact skip (by unfold plTerm; rw [if_neg (by omega)]) l5
          · have es : endN B n g i = seN (g i) := endN_short (by omega)
            have hse : seN (g i) ≤ B := o2
            simp (disch := first | assumption | exact isSc1 | exact isSc3 | exact isSc5 | decide | omega) only [iX8_place_57, iX8_place_58, iX8_place_60, iX8_place_63, iX8_place_64, Nat.reduceAdd, Nat.reduceSub, Nat.reduceMul, Nat.reduceLeDiff, mm_rv_s, mm_rv_n, true_and, and_true, if_true, if_false, not_true_eq_false, not_false_eq_true, nI_add, nz_0, nz_lt0, nz_0le, nz_0lt, nz_le0, nz_lt, nz_le, nz_eq, nz_cl, nz_in, nz_sub, nz_m1, pk_mul, set_o, set_ne, up_ne, up_set, n1_1, true_or, or_true, n1_01, n0_01, bI_01, bI_01b, bI_0, isSc1, isSc3, isSc5, ln_2, ln_4, ln_6, ln_8, ln_10, ln_11, ln_12, ln_13, ln_14, ln_16, ln_17, ln_18, ln_19, ln_20, ln_21, ln_23, ln_24, ln_25, ln_27, ln_28, ln_29, ln_31, ln_32, ln_33, ln_35, ln_36, ln_37, w0, m_endOf hD w3 hv.okG w2 hin, es]
            by_cases h1 : seN (g i) ≤ t
            · have hf8 := fcN_lt g n (sB (g i))
              have hsb : sB (g i) ≤ 48 := by unfold seN at hse; omega
              have h := ih (i + 1) (by omega) (some (.inl (iZ (uTerm b g n i))))
              rw [sumI_s] at h
              have eP : plTerm b g n t i = if lst g n (1 - sC (g i)) (seN (g i)) = none then 2 * uTerm b g n i else uTerm b g n i := by
                unfold plTerm
                rw [if_pos ⟨k0, hc, by omega, h1⟩]
              rw [eP] at h
              have eu : iZ (unI b ((fcN g n (sB (g i)) + (sW (g i)).toNat - 1) % 8)) = iZ (uTerm b g n i) := rfl
              simp (disch := first | assumption | decide | omega) only [show ¬ t < seN (g i) by omega, if_false, iX8_place_67, iX8_place_68, iX8_place_69, iX8_place_72, iX8_place_74, iX8_place_76, iX8_place_77, iX8_place_78, iX8_place_81, iX8_place_82, iX8_place_85, iX8_place_88, iX8_place_90, iX8_place_91, iX8_place_92, iX8_place_93, iX8_place_94, iX8_place_95, iX8_place_97, iX8_place_98, iX8_place_99, iX8_place_102, iX8_place_104, iX8_place_105, iX8_place_106, iX8_place_108, f2, f5', mm_rv_s, nI_add, ln_31, nz_in, nz_cl, true_and, m_facing hD hv hn hsb, nz_sub, n8, not_false_eq_true, rem_nat, m_unit (f := (fcN g n (sB (g i)) + (sW (g i)).toNat - 1) % 8) (Nat.mod_lt _ (by decide)) b, eu, m_isTogether hD hv hin k0 hc, Nat.reduceLT]
              by_cases hl : lst g n (1 - sC (g i)) (seN (g i)) = none
              · rw [if_pos hl, ← iZ_add, ← iZ_mul] at h
                simp (disch := first | assumption | exact isSc1 | exact isSc3 | exact isSc5 | decide | omega) only [iX8_place_111, iX8_place_114, iX8_place_116, iX8_place_119, iX8_place_120, iX8_place_122, iX8_place_123, iX8_place_124, iX8_place_125, iX8_place_128, hl, Nat.reduceAdd, Nat.reduceSub, Nat.reduceMul, Nat.reduceLeDiff, mm_rv_s, mm_rv_n, true_and, and_true, if_true, if_false, not_true_eq_false, not_false_eq_true, nI_add, nz_0, nz_lt0, nz_0le, nz_0lt, nz_le0, nz_lt, nz_le, nz_eq, nz_cl, nz_in, nz_sub, nz_m1, pk_mul, set_o, set_ne, up_ne, up_set, n1_1, true_or, or_true, n1_01, n0_01, bI_01, bI_01b, bI_0, isSc1, isSc3, isSc5, ln_2, ln_4, ln_6, ln_8, ln_10, ln_11, ln_12, ln_13, ln_14, ln_16, ln_17, ln_18, ln_19, ln_20, ln_21, ln_23, ln_24, ln_25, ln_27, ln_28, ln_29, ln_31, ln_32, ln_33, ln_35, ln_36, ln_37, ne_eq, not_true_eq_false, decide_false]
                exact h
              · rw [if_neg hl, ← iZ_add] at h
                simp (disch := first | assumption | exact isSc1 | exact isSc3 | exact isSc5 | decide | omega) only [iX8_place_111, iX8_place_114, iX8_place_116, iX8_place_119, iX8_place_120, iX8_place_122, iX8_place_123, iX8_place_124, iX8_place_125, iX8_place_128, hl, Nat.reduceAdd, Nat.reduceSub, Nat.reduceMul, Nat.reduceLeDiff, mm_rv_s, mm_rv_n, true_and, and_true, if_true, if_false, not_true_eq_false, not_false_eq_true, nI_add, nz_0, nz_lt0, nz_0le, nz_0lt, nz_le0, nz_lt, nz_le, nz_eq, nz_cl, nz_in, nz_sub, nz_m1, pk_mul, set_o, set_ne, up_ne, up_set, n1_1, true_or, or_true, n1_01, n0_01, bI_01, bI_01b, bI_0, isSc1, isSc3, isSc5, ln_2, ln_4, ln_6, ln_8, ln_10, ln_11, ln_12, ln_13, ln_14, ln_16, ln_17, ln_18, ln_19, ln_20, ln_21, ln_23, ln_24, ln_25, ln_27, ln_28, ln_29, ln_31, ln_32, ln_33, ln_35, ln_36, ln_37, ne_eq, not_false_eq_true, decide_true, Bool.true_eq_false]
                exact h
            · simp (disch := first | assumption | exact isSc1 | exact isSc3 | exact isSc5 | decide | omega) only [show t < seN (g i) by omega, Nat.reduceAdd, Nat.reduceSub, Nat.reduceMul, Nat.reduceLeDiff, mm_rv_s, mm_rv_n, true_and, and_true, if_true, if_false, not_true_eq_false, not_false_eq_true, nI_add, nz_0, nz_lt0, nz_0le, nz_0lt, nz_le0, nz_lt, nz_le, nz_eq, nz_cl, nz_in, nz_sub, nz_m1, pk_mul, set_o, set_ne, up_ne, up_set, n1_1, true_or, or_true, n1_01, n0_01, bI_01, bI_01b, bI_0, isSc1, isSc3, isSc5, ln_2, ln_4, ln_6, ln_8, ln_10, ln_11, ln_12, ln_13, ln_14, ln_16, ln_17, ln_18, ln_19, ln_20, ln_21, ln_23, ln_24, ln_25, ln_27, ln_28, ln_29, ln_31, ln_32, ln_33, ln_35, ln_36, ln_37]
              exact skip (by unfold plTerm; rw [if_neg (by omega)]) l5
        · simp (disch := first | assumption | exact isSc1 | exact isSc3 | exact isSc5 | decide | omega) only [Nat.reduceAdd, Nat.reduceSub, Nat.reduceMul, Nat.reduceLeDiff, mm_rv_s, mm_rv_n, true_and, and_true, if_true, if_false, not_true_eq_false, not_false_eq_true, nI_add, nz_0, nz_lt0, nz_0le, nz_0lt, nz_le0, nz_lt, nz_le, nz_eq, nz_cl, nz_in, nz_sub, nz_m1, pk_mul, set_o, set_ne, up_ne, up_set, n1_1, true_or, or_true, n1_01, n0_01, bI_01, bI_01b, bI_0, isSc1, isSc3, isSc5, ln_2, ln_4, ln_6, ln_8, ln_10, ln_11, ln_12, ln_13, ln_14, ln_16, ln_17, ln_18, ln_19, ln_20, ln_21, ln_23, ln_24, ln_25, ln_27, ln_28, ln_29, ln_31, ln_32, ln_33, ln_35, ln_36, ln_37, show 2 ≤ sC (g i) by omega]
          exact skip (by unfold plTerm; rw [if_neg (by omega)]) l5
      · simp (disch := first | assumption | exact isSc1 | exact isSc3 | exact isSc5 | decide | omega) only [Nat.reduceAdd, Nat.reduceSub, Nat.reduceMul, Nat.reduceLeDiff, mm_rv_s, mm_rv_n, true_and, and_true, if_true, if_false, not_true_eq_false, not_false_eq_true, nI_add, nz_0, nz_lt0, nz_0le, nz_0lt, nz_le0, nz_lt, nz_le, nz_eq, nz_cl, nz_in, nz_sub, nz_m1, pk_mul, set_o, set_ne, up_ne, up_set, n1_1, true_or, or_true, n1_01, n0_01, bI_01, bI_01b, bI_0, isSc1, isSc3, isSc5, ln_2, ln_4, ln_6, ln_8, ln_10, ln_11, ln_12, ln_13, ln_14, ln_16, ln_17, ln_18, ln_19, ln_20, ln_21, ln_23, ln_24, ln_25, ln_27, ln_28, ln_29, ln_31, ln_32, ln_33, ln_35, ln_36, ln_37, k0]
        exact skip (by unfold plTerm; rw [if_neg (by omega)]) l5
  simp (disch := first | assumption | exact isSc1 | exact isSc3 | exact isSc5 | decide | omega) only [eX8_place, iX8_place_0, iX8_place_1, iX8_place_2, iX8_place_3]
  exact loop n 0 (by omega) none
end WM
