/-! PAIRS: floor, home, farthest -/
theorem unI_le (b : Bool) (f : Nat) : -1 ≤ unI b f ∧ unI b f ≤ 1 := by
  unfold unI
  simp only
  generalize (if b = true then (f + 6) % 8 else f) = h
  split
  · decide
  · split <;> decide
theorem stV_le (b : Bool) (g : Nat → Sg) (n : Nat) (x y : Option Nat) : -2 ≤ stV b g n x y ∧ stV b g n x y ≤ 2 := by
  cases x with
  | none => simp [stV]
  | some i =>
    simp only [stV]
    have := unI_le b ((fcN g n (sB (g i)) + (sW (g i)).toNat - 1) % 8)
    split
    · decide
    · split <;> omega
theorem plI_le (b : Bool) (g : Nat → Sg) (n : Nat) : ∀ t : Nat, -(4 * t : Int) ≤ plI b g n t ∧ plI b g n t ≤ 4 * t := by
  intro t
  induction t with
  | zero => simp [plI]
  | succ t ih =>
    have h1 := stV_le b g n (lst g n 0 (t + 1)) (lst g n 1 (t + 1))
    have h2 := stV_le b g n (lst g n 1 (t + 1)) (lst g n 0 (t + 1))
    simp only [plI]
    omega
theorem absI {z : Int} (h1 : -1000 ≤ z) (h2 : z ≤ 1000) : (if 0 ≤ iZ z then iZ z else -iZ z) = nI z.natAbs := by
  have e : (0 : Int32) = iZ 0 := by decide
  have e2 : (0 ≤ iZ z) = (0 ≤ z) := by rw [e]; exact iZ_le (by decide) (by omega)
  simp only [e2]
  by_cases h : 0 ≤ z
  · rw [if_pos h, ← iZ_nat]; congr 1; omega
  · rw [if_neg h, iZ_neg, ← iZ_nat]; congr 1; omega
theorem absJ {z : Int} (h1 : -1000 ≤ z) (h2 : z ≤ 1000) : (if iZ z < 0 then -iZ z else iZ z) = nI z.natAbs := by
  rw [← absI h1 h2]
  by_cases h : 0 ≤ iZ z
  · rw [if_pos h, if_neg (Int32.not_lt.mpr h)]
  · rw [if_neg h, if_pos (Int32.not_le.mp h)]
theorem iZ_0 {z : Int} (h1 : -1000 ≤ z) (h2 : z ≤ 1000) : (iZ z = 0) = (z = 0) := by
  have e : (0 : Int32) = iZ 0 := by decide
  rw [e]
  exact iZ_inj (by omega) (by decide)
def dsN (g : Nat → Sg) (n t : Nat) : Nat := if (plI true g n t).natAbs < (plI false g n t).natAbs then (plI false g n t).natAbs else (plI true g n t).natAbs
theorem dsN_0 (g : Nat → Sg) (n t : Nat) : dsN g n t = 0 ↔ plI true g n t = 0 ∧ plI false g n t = 0 := by
  unfold dsN
  split <;> omega
theorem dsN_le (g : Nat → Sg) (n : Nat) {t : Nat} (ht : t ≤ 48) : dsN g n t ≤ 192 := by
  have h1 := plI_le true g n t
  have h2 := plI_le false g n t
  unfold dsN
  split <;> omega
theorem dsN_z (g : Nat → Sg) (n : Nat) : dsN g n 0 = 0 := (dsN_0 g n 0).mpr ⟨rfl, rfl⟩
def hmF (g : Nat → Sg) (n : Nat) : Nat → Nat → Bool → Int32
  | 0, _, _ => -1004
  | d + 1, t, a => if dsN g n t = 0 then (if a = true then nI t else hmF g n d (t + 1) a) else hmF g n d (t + 1) true
theorem Kp.walk {M M' : mm_M} (hS : Same [16, 17, 18, 19, 20, 21] M M') (h1 : Wlk M) (h2 : Wlk M') : Kp M M' := by
  obtain ⟨a1, a2, a3⟩ := h1
  obtain ⟨b1, b2, b3⟩ := h2
  refine ⟨hS _ (by decide), hS _ (by decide), hS _ (by decide), ?_, ?_, hS _ (by decide), hS _ (by decide), ?_, ?_, hS _ (by decide), hS _ (by decide), by rw [b1, a1], by rw [b2, a2], by rw [b3, a3]⟩ <;> rw [hS _ (by decide)]
section FLR
variable {B L n : Nat} {g : Nat → Sg} {M : mm_M} {Q : mm_Q}
theorem p_distanceAt (hW : Wkd M B n g) (hB : B ≤ 48) {t : Nat} (ht : t ≤ B) : wc 51 [.inr 15, .inl (nI t)] M Q ↔ Q (some (nI (dsN g n t))) M := by
  have e16 := hW.2.1 t ht
  have e17 := hW.2.2 t ht
  have h1 := plI_le true g n t
  have h2 := plI_le false g n t
  simp (disch := first | assumption | exact isSc1 | exact isSc3 | exact isSc5 | decide | omega) only [eX5_distanceAt, iX5_distanceAt_0, iX5_distanceAt_1, iX5_distanceAt_4, iX5_distanceAt_5, iX5_distanceAt_6, iX5_distanceAt_9, iX5_distanceAt_10, iX5_distanceAt_13, iX5_distanceAt_14, iX5_distanceAt_15, iX5_distanceAt_18, iX5_distanceAt_21, Nat.reduceAdd, Nat.reduceSub, Nat.reduceMul, Nat.reduceLeDiff, mm_rv_s, mm_rv_n, true_and, and_true, if_true, if_false, not_true_eq_false, not_false_eq_true, nI_add, nz_0, nz_lt0, nz_0le, nz_0lt, nz_le0, nz_lt, nz_le, nz_eq, nz_cl, nz_in, nz_sub, nz_m1, pk_mul, set_o, set_ne, up_ne, up_set, n1_1, true_or, or_true, n1_01, n0_01, bI_01, bI_01b, bI_0, isSc1, isSc3, isSc5, ln_2, ln_4, ln_6, ln_8, ln_10, ln_11, ln_12, ln_13, ln_14, ln_16, ln_17, ln_18, ln_19, ln_20, ln_21, ln_23, ln_24, ln_25, ln_27, ln_28, ln_29, ln_31, ln_32, ln_33, ln_35, ln_36, ln_37, e16, e17, p_abs, absI, p_max]
  have : (if (plI true g n t).natAbs < (plI false g n t).natAbs then nI (plI false g n t).natAbs else nI (plI true g n t).natAbs) = nI (dsN g n t) := by
    unfold dsN
    split <;> rfl
  rw [this]
theorem m_size {z : Int} (h1 : -1000 ≤ z) (h2 : z ≤ 1000) : wc 145 [.inl (iZ z)] M Q ↔ Q (some (nI z.natAbs)) M := by
  rw [← absJ h1 h2]
  simp (disch := first | assumption | exact isSc1 | exact isSc3 | exact isSc5 | decide | omega) only [eX8_size, iX8_size_0, iX8_size_1, iX8_size_4, iX8_size_5, iX8_size_6, iX8_size_9, iX8_size_10, Nat.reduceAdd, Nat.reduceSub, Nat.reduceMul, Nat.reduceLeDiff, mm_rv_s, mm_rv_n, true_and, and_true, if_true, if_false, not_true_eq_false, not_false_eq_true, nI_add, nz_0, nz_lt0, nz_0le, nz_0lt, nz_le0, nz_lt, nz_le, nz_eq, nz_cl, nz_in, nz_sub, nz_m1, pk_mul, set_o, set_ne, up_ne, up_set, n1_1, true_or, or_true, n1_01, n0_01, bI_01, bI_01b, bI_0, isSc1, isSc3, isSc5, ln_2, ln_4, ln_6, ln_8, ln_10, ln_11, ln_12, ln_13, ln_14, ln_16, ln_17, ln_18, ln_19, ln_20, ln_21, ln_23, ln_24, ln_25, ln_27, ln_28, ln_29, ln_31, ln_32, ln_33, ln_35, ln_36, ln_37]
  by_cases h : 0 ≤ iZ z
  · rw [if_pos h, if_neg (Int32.not_lt.mpr h)]
  · rw [if_neg h, if_pos (Int32.not_le.mp h)]
theorem pr_floor (hI : Inv M) (a1 a2 : Int32) : lw_pair Inv M 82 143 [.inl a1, .inl a2] := by
  obtain ⟨⟨B, L, n, g, hc⟩, ⟨h, H, hh⟩, ht, hw⟩ := id hI
  obtain ⟨hv, hn, hL, hx, hd⟩ := id hc
  have w1 := hv.1
  have w2 := hv.2.1
  have x0 := hx.1
  by_cases hr1 : nI 0 ≤ a1 ∧ a1 ≤ nI B
  · by_cases hr2 : nI 0 ≤ a2 ∧ a2 ≤ nI 2
    · obtain ⟨t, rfl, -, htB⟩ := in_nat hr1.1 hr1.2 (by decide) (by omega)
      obtain ⟨w, rfl, -, hw2⟩ := in_nat hr2.1 hr2.2 (by decide) (by decide)
      refine pair_q hI (if w = 2 then nI (fcN g n t) else if w = 0 then iZ (plI true g n t) else iZ (plI false g n t)) ?_ (fun M1 hk => ?_)
      · simp (disch := first | assumption | exact isSc1 | exact isSc3 | exact isSc5 | decide | omega) only [eX7_floor, iX7_floor_0, iX7_floor_1, iX7_floor_2, iX7_floor_3, iX7_floor_6, iX7_floor_9, iX7_floor_12, iX7_floor_15, iX7_floor_16, iX7_floor_17, iX7_floor_18, iX7_floor_21, iX7_floor_24, iX7_floor_27, iX7_floor_28, iX7_floor_29, iX7_floor_32, iX7_floor_33, iX7_floor_36, Nat.reduceAdd, Nat.reduceSub, Nat.reduceMul, Nat.reduceLeDiff, mm_rv_s, mm_rv_n, true_and, and_true, if_true, if_false, not_true_eq_false, not_false_eq_true, nI_add, nz_0, nz_lt0, nz_0le, nz_0lt, nz_le0, nz_lt, nz_le, nz_eq, nz_cl, nz_in, nz_sub, nz_m1, pk_mul, set_o, set_ne, up_ne, up_set, n1_1, true_or, or_true, n1_01, n0_01, bI_01, bI_01b, bI_0, isSc1, isSc3, isSc5, ln_2, ln_4, ln_6, ln_8, ln_10, ln_11, ln_12, ln_13, ln_14, ln_16, ln_17, ln_18, ln_19, ln_20, ln_21, ln_23, ln_24, ln_25, ln_27, ln_28, ln_29, ln_31, ln_32, ln_33, ln_35, ln_36, ln_37, p_isWithin, x0, htB, hw2, Nat.zero_le, and_self, decide_true, Bool.true_eq_false]
        refine p_follow hx hv hn hw (fun M' hS hW2 hW => ?_)
        have kp : Kp M M' := Kp.walk hS hw hW2
        have e16 := hW.2.1 t htB
        have e17 := hW.2.2 t htB
        have e18 := hW.1 t htB
        by_cases k2 : w = 2
        · simp (disch := first | assumption | exact isSc1 | exact isSc3 | exact isSc5 | decide | omega) only [iX7_floor_39, iX7_floor_40, iX7_floor_41, iX7_floor_44, iX7_floor_45, iX7_floor_48, iX7_floor_51, iX7_floor_52, iX7_floor_53, Nat.reduceAdd, Nat.reduceSub, Nat.reduceMul, Nat.reduceLeDiff, mm_rv_s, mm_rv_n, true_and, and_true, if_true, if_false, not_true_eq_false, not_false_eq_true, nI_add, nz_0, nz_lt0, nz_0le, nz_0lt, nz_le0, nz_lt, nz_le, nz_eq, nz_cl, nz_in, nz_sub, nz_m1, pk_mul, set_o, set_ne, up_ne, up_set, n1_1, true_or, or_true, n1_01, n0_01, bI_01, bI_01b, bI_0, isSc1, isSc3, isSc5, ln_2, ln_4, ln_6, ln_8, ln_10, ln_11, ln_12, ln_13, ln_14, ln_16, ln_17, ln_18, ln_19, ln_20, ln_21, ln_23, ln_24, ln_25, ln_27, ln_28, ln_29, ln_31, ln_32, ln_33, ln_35, ln_36, ln_37, k2, e18]
          first | exact kp | exact ⟨rfl, kp⟩
        · by_cases k0 : w = 0
          · simp (disch := first | assumption | exact isSc1 | exact isSc3 | exact isSc5 | decide | omega) only [iX7_floor_39, iX7_floor_40, iX7_floor_41, iX7_floor_44, iX7_floor_45, iX7_floor_48, iX7_floor_51, iX7_floor_52, iX7_floor_53, iX7_floor_54, iX7_floor_55, iX7_floor_58, iX7_floor_59, iX7_floor_62, iX7_floor_65, iX7_floor_66, iX7_floor_67, iX7_floor_70, iX7_floor_71, iX7_floor_74, iX7_floor_77, iX7_floor_78, iX7_floor_79, Nat.reduceAdd, Nat.reduceSub, Nat.reduceMul, Nat.reduceLeDiff, mm_rv_s, mm_rv_n, true_and, and_true, if_true, if_false, not_true_eq_false, not_false_eq_true, nI_add, nz_0, nz_lt0, nz_0le, nz_0lt, nz_le0, nz_lt, nz_le, nz_eq, nz_cl, nz_in, nz_sub, nz_m1, pk_mul, set_o, set_ne, up_ne, up_set, n1_1, true_or, or_true, n1_01, n0_01, bI_01, bI_01b, bI_0, isSc1, isSc3, isSc5, ln_2, ln_4, ln_6, ln_8, ln_10, ln_11, ln_12, ln_13, ln_14, ln_16, ln_17, ln_18, ln_19, ln_20, ln_21, ln_23, ln_24, ln_25, ln_27, ln_28, ln_29, ln_31, ln_32, ln_33, ln_35, ln_36, ln_37, k0, e16, Nat.reduceEqDiff]
            first | exact kp | exact ⟨rfl, kp⟩
          · simp (disch := first | assumption | exact isSc1 | exact isSc3 | exact isSc5 | decide | omega) only [iX7_floor_39, iX7_floor_40, iX7_floor_41, iX7_floor_44, iX7_floor_45, iX7_floor_48, iX7_floor_51, iX7_floor_52, iX7_floor_53, iX7_floor_54, iX7_floor_55, iX7_floor_58, iX7_floor_59, iX7_floor_62, iX7_floor_65, iX7_floor_66, iX7_floor_67, iX7_floor_70, iX7_floor_71, iX7_floor_74, iX7_floor_77, iX7_floor_78, iX7_floor_79, Nat.reduceAdd, Nat.reduceSub, Nat.reduceMul, Nat.reduceLeDiff, mm_rv_s, mm_rv_n, true_and, and_true, if_true, if_false, not_true_eq_false, not_false_eq_true, nI_add, nz_0, nz_lt0, nz_0le, nz_0lt, nz_le0, nz_lt, nz_le, nz_eq, nz_cl, nz_in, nz_sub, nz_m1, pk_mul, set_o, set_ne, up_ne, up_set, n1_1, true_or, or_true, n1_01, n0_01, bI_01, bI_01b, bI_0, isSc1, isSc3, isSc5, ln_2, ln_4, ln_6, ln_8, ln_10, ln_11, ln_12, ln_13, ln_14, ln_16, ln_17, ln_18, ln_19, ln_20, ln_21, ln_23, ln_24, ln_25, ln_27, ln_28, ln_29, ln_31, ln_32, ln_33, ln_35, ln_36, ln_37, k2, k0, e17]
            first | exact kp | exact ⟨rfl, kp⟩
      · have hd1 := (hc.kp hk).2.2.2.2
        have d0 := hd1.1
        have b1 : nI 1 = bI true := rfl
        have b0 : nI 0 = bI false := rfl
        have pt := fun Q => m_place (M := M1) (Q := Q) hd1 hv hn (show t ≤ 48 by omega) true
        have pf := fun Q => m_place (M := M1) (Q := Q) hd1 hv hn (show t ≤ 48 by omega) false
        rw [← b1] at pt
        rw [← b0] at pf
        simp (disch := first | assumption | exact isSc1 | exact isSc3 | exact isSc5 | decide | omega) only [eX8_floor, iX8_floor_0, iX8_floor_1, iX8_floor_2, iX8_floor_3, iX8_floor_6, iX8_floor_7, iX8_floor_8, iX8_floor_11, iX8_floor_14, iX8_floor_15, iX8_floor_16, iX8_floor_17, iX8_floor_20, Nat.reduceAdd, Nat.reduceSub, Nat.reduceMul, Nat.reduceLeDiff, mm_rv_s, mm_rv_n, true_and, and_true, if_true, if_false, not_true_eq_false, not_false_eq_true, nI_add, nz_0, nz_lt0, nz_0le, nz_0lt, nz_le0, nz_lt, nz_le, nz_eq, nz_cl, nz_in, nz_sub, nz_m1, pk_mul, set_o, set_ne, up_ne, up_set, n1_1, true_or, or_true, n1_01, n0_01, bI_01, bI_01b, bI_0, isSc1, isSc3, isSc5, ln_2, ln_4, ln_6, ln_8, ln_10, ln_11, ln_12, ln_13, ln_14, ln_16, ln_17, ln_18, ln_19, ln_20, ln_21, ln_23, ln_24, ln_25, ln_27, ln_28, ln_29, ln_31, ln_32, ln_33, ln_35, ln_36, ln_37, p_in, d0, htB, hw2, Nat.zero_le, and_self, decide_true, Bool.true_eq_false]
        by_cases k2 : w = 2
        · simp (disch := first | assumption | exact isSc1 | exact isSc3 | exact isSc5 | decide | omega) only [iX8_floor_27, iX8_floor_28, iX8_floor_29, iX8_floor_32, iX8_floor_33, iX8_floor_34, iX8_floor_37, iX8_floor_40, iX8_floor_41, iX8_floor_42, iX8_floor_43, iX8_floor_46, iX8_floor_47, iX8_floor_50, iX8_floor_51, iX8_floor_54, Nat.reduceAdd, Nat.reduceSub, Nat.reduceMul, Nat.reduceLeDiff, mm_rv_s, mm_rv_n, true_and, and_true, if_true, if_false, not_true_eq_false, not_false_eq_true, nI_add, nz_0, nz_lt0, nz_0le, nz_0lt, nz_le0, nz_lt, nz_le, nz_eq, nz_cl, nz_in, nz_sub, nz_m1, pk_mul, set_o, set_ne, up_ne, up_set, n1_1, true_or, or_true, n1_01, n0_01, bI_01, bI_01b, bI_0, isSc1, isSc3, isSc5, ln_2, ln_4, ln_6, ln_8, ln_10, ln_11, ln_12, ln_13, ln_14, ln_16, ln_17, ln_18, ln_19, ln_20, ln_21, ln_23, ln_24, ln_25, ln_27, ln_28, ln_29, ln_31, ln_32, ln_33, ln_35, ln_36, ln_37, k2, m_facing hd1 hv hn (show t ≤ 48 by omega)]
          first | exact Kp.rf M1 | exact ⟨rfl, Kp.rf M1⟩
        · by_cases k0 : w = 0
          · simp (disch := first | assumption | exact isSc1 | exact isSc3 | exact isSc5 | decide | omega) only [iX8_floor_27, iX8_floor_28, iX8_floor_29, iX8_floor_32, iX8_floor_33, iX8_floor_34, iX8_floor_37, iX8_floor_40, iX8_floor_41, iX8_floor_42, iX8_floor_43, iX8_floor_46, iX8_floor_47, iX8_floor_50, iX8_floor_51, iX8_floor_54, Nat.reduceAdd, Nat.reduceSub, Nat.reduceMul, Nat.reduceLeDiff, mm_rv_s, mm_rv_n, true_and, and_true, if_true, if_false, not_true_eq_false, not_false_eq_true, nI_add, nz_0, nz_lt0, nz_0le, nz_0lt, nz_le0, nz_lt, nz_le, nz_eq, nz_cl, nz_in, nz_sub, nz_m1, pk_mul, set_o, set_ne, up_ne, up_set, n1_1, true_or, or_true, n1_01, n0_01, bI_01, bI_01b, bI_0, isSc1, isSc3, isSc5, ln_2, ln_4, ln_6, ln_8, ln_10, ln_11, ln_12, ln_13, ln_14, ln_16, ln_17, ln_18, ln_19, ln_20, ln_21, ln_23, ln_24, ln_25, ln_27, ln_28, ln_29, ln_31, ln_32, ln_33, ln_35, ln_36, ln_37, k0, pt, Nat.reduceEqDiff]
            first | exact Kp.rf M1 | exact ⟨rfl, Kp.rf M1⟩
          · simp (disch := first | assumption | exact isSc1 | exact isSc3 | exact isSc5 | decide | omega) only [iX8_floor_27, iX8_floor_28, iX8_floor_29, iX8_floor_32, iX8_floor_33, iX8_floor_34, iX8_floor_37, iX8_floor_40, iX8_floor_41, iX8_floor_42, iX8_floor_43, iX8_floor_46, iX8_floor_47, iX8_floor_50, iX8_floor_51, iX8_floor_54, Nat.reduceAdd, Nat.reduceSub, Nat.reduceMul, Nat.reduceLeDiff, mm_rv_s, mm_rv_n, true_and, and_true, if_true, if_false, not_true_eq_false, not_false_eq_true, nI_add, nz_0, nz_lt0, nz_0le, nz_0lt, nz_le0, nz_lt, nz_le, nz_eq, nz_cl, nz_in, nz_sub, nz_m1, pk_mul, set_o, set_ne, up_ne, up_set, n1_1, true_or, or_true, n1_01, n0_01, bI_01, bI_01b, bI_0, isSc1, isSc3, isSc5, ln_2, ln_4, ln_6, ln_8, ln_10, ln_11, ln_12, ln_13, ln_14, ln_16, ln_17, ln_18, ln_19, ln_20, ln_21, ln_23, ln_24, ln_25, ln_27, ln_28, ln_29, ln_31, ln_32, ln_33, ln_35, ln_36, ln_37, k2, k0, pf]
            first | exact Kp.rf M1 | exact ⟨rfl, Kp.rf M1⟩
    · refine pair_q hI (-1001) ?_ (fun M1 hk => ?_)
      · simp (disch := first | assumption | exact isSc1 | exact isSc3 | exact isSc5 | decide | omega) only [eX7_floor, iX7_floor_0, iX7_floor_1, iX7_floor_2, iX7_floor_3, iX7_floor_6, iX7_floor_9, iX7_floor_12, iX7_floor_15, iX7_floor_16, iX7_floor_17, iX7_floor_18, iX7_floor_21, iX7_floor_24, iX7_floor_27, p_isWithin, x0, hr1, hr2, and_self, decide_true, decide_false, Bool.true_eq_false, bI_0, bI_01, mm_rv_s, true_and, isSc1, if_true, if_false, not_true_eq_false, not_false_eq_true]
        first | exact Kp.rf M | exact ⟨rfl, Kp.rf M⟩
      · have d0 := (hc.kp hk).2.2.2.2.1
        simp (disch := first | assumption | exact isSc1 | exact isSc3 | exact isSc5 | decide | omega) only [eX8_floor, iX8_floor_0, iX8_floor_1, iX8_floor_2, iX8_floor_3, iX8_floor_6, iX8_floor_7, iX8_floor_8, iX8_floor_11, iX8_floor_14, iX8_floor_15, iX8_floor_16, iX8_floor_17, iX8_floor_20, iX8_floor_23, iX8_floor_26, p_in, d0, hr1, hr2, and_self, decide_true, decide_false, Bool.true_eq_false, bI_0, bI_01, mm_rv_s, true_and, ln_31, nz_in, nz_cl, Nat.reduceLT, if_true, if_false, not_true_eq_false, not_false_eq_true]
        first | exact Kp.rf M1 | exact ⟨rfl, Kp.rf M1⟩
  · refine pair_q hI (-1001) ?_ (fun M1 hk => ?_)
    · simp (disch := first | assumption | exact isSc1 | exact isSc3 | exact isSc5 | decide | omega) only [eX7_floor, iX7_floor_0, iX7_floor_1, iX7_floor_2, iX7_floor_3, iX7_floor_6, iX7_floor_9, iX7_floor_12, iX7_floor_15, iX7_floor_16, iX7_floor_17, iX7_floor_18, iX7_floor_21, iX7_floor_24, iX7_floor_27, p_isWithin, x0, hr1, decide_false, bI_0, bI_01, mm_rv_s, true_and, isSc1, if_true, if_false]
      first | exact Kp.rf M | exact ⟨rfl, Kp.rf M⟩
    · have d0 := (hc.kp hk).2.2.2.2.1
      simp (disch := first | assumption | exact isSc1 | exact isSc3 | exact isSc5 | decide | omega) only [eX8_floor, iX8_floor_0, iX8_floor_1, iX8_floor_2, iX8_floor_3, iX8_floor_6, iX8_floor_7, iX8_floor_8, iX8_floor_11, iX8_floor_14, iX8_floor_15, iX8_floor_16, iX8_floor_17, iX8_floor_20, iX8_floor_23, iX8_floor_26, p_in, d0, hr1, decide_false, bI_0, bI_01, mm_rv_s, true_and, ln_31, nz_in, nz_cl, Nat.reduceLT, if_true, if_false]
      first | exact Kp.rf M1 | exact ⟨rfl, Kp.rf M1⟩
theorem pr_home (hI : Inv M) : lw_pair Inv M 83 144 [] := by
  obtain ⟨⟨B, L, n, g, hc⟩, ⟨h, H, hh⟩, ht, hw⟩ := id hI
  obtain ⟨hv, hn, hL, hx, hd⟩ := id hc
  have w1 := hv.1
  have w2 := hv.2.1
  have x0 := hx.1
  refine pair_q hI (hmF g n B 1 false) ?_ (fun M1 hk => ?_)
  · simp (disch := first | assumption | exact isSc1 | exact isSc3 | exact isSc5 | decide | omega) only [eX7_home, iX7_home_0, iX7_home_1, iX7_home_4, iX7_home_5, iX7_home_8]
    refine p_follow hx hv hn hw (fun M' hS hW2 hW => ?_)
    have kp : Kp M M' := Kp.walk hS hw hW2
    have e0 : M' 1 0 = nI B := by rw [hS 1 (by decide), x0]
    have loop : ∀ d t : Nat, t + d = B + 1 → ∀ a : Bool, wp 83 15 [some (.inr 0), some (.inl (bI a)), some (.inl (nI t))] [] M' (fun r M1 => r = some (hmF g n d t a) ∧ Kp M M1) := by
      intro d
      induction d with
      | zero =>
        intro t hd a
        rw [iX7_home_15]
        simp (disch := first | assumption | exact isSc1 | exact isSc3 | exact isSc5 | decide | omega) only [iX7_home_16, iX7_home_17, iX7_home_20, iX7_home_23, iX7_home_54, iX7_home_57, Nat.reduceAdd, Nat.reduceSub, Nat.reduceMul, Nat.reduceLeDiff, mm_rv_s, mm_rv_n, true_and, and_true, if_true, if_false, not_true_eq_false, not_false_eq_true, nI_add, nz_0, nz_lt0, nz_0le, nz_0lt, nz_le0, nz_lt, nz_le, nz_eq, nz_cl, nz_in, nz_sub, nz_m1, pk_mul, set_o, set_ne, up_ne, up_set, n1_1, true_or, or_true, n1_01, n0_01, bI_01, bI_01b, bI_0, isSc1, isSc3, isSc5, ln_2, ln_4, ln_6, ln_8, ln_10, ln_11, ln_12, ln_13, ln_14, ln_16, ln_17, ln_18, ln_19, ln_20, ln_21, ln_23, ln_24, ln_25, ln_27, ln_28, ln_29, ln_31, ln_32, ln_33, ln_35, ln_36, ln_37, e0, show B < t by omega]
        first | exact kp | exact ⟨rfl, kp⟩
      | succ d ih =>
        intro t hd a
        have hs := dsN_le g n (show t ≤ 48 by omega)
        rw [iX7_home_15]
        unfold hmF
        simp (disch := first | assumption | exact isSc1 | exact isSc3 | exact isSc5 | decide | omega) only [iX7_home_16, iX7_home_17, iX7_home_20, iX7_home_23, iX7_home_26, iX7_home_27, iX7_home_30, iX7_home_31, Nat.reduceAdd, Nat.reduceSub, Nat.reduceMul, Nat.reduceLeDiff, mm_rv_s, mm_rv_n, true_and, and_true, if_true, if_false, not_true_eq_false, not_false_eq_true, nI_add, nz_0, nz_lt0, nz_0le, nz_0lt, nz_le0, nz_lt, nz_le, nz_eq, nz_cl, nz_in, nz_sub, nz_m1, pk_mul, set_o, set_ne, up_ne, up_set, n1_1, true_or, or_true, n1_01, n0_01, bI_01, bI_01b, bI_0, isSc1, isSc3, isSc5, ln_2, ln_4, ln_6, ln_8, ln_10, ln_11, ln_12, ln_13, ln_14, ln_16, ln_17, ln_18, ln_19, ln_20, ln_21, ln_23, ln_24, ln_25, ln_27, ln_28, ln_29, ln_31, ln_32, ln_33, ln_35, ln_36, ln_37, e0, show ¬ B < t by omega, p_distanceAt hW w2 (show t ≤ B by omega)]
        by_cases k : dsN g n t = 0
        · have i1 := ih (t + 1) (by omega) a
          cases a
          · simp (disch := first | assumption | exact isSc1 | exact isSc3 | exact isSc5 | decide | omega) only [iX7_home_34, iX7_home_37, iX7_home_38, iX7_home_39, iX7_home_42, iX7_home_43, iX7_home_46, iX7_home_47, iX7_home_48, iX7_home_51, Nat.reduceAdd, Nat.reduceSub, Nat.reduceMul, Nat.reduceLeDiff, mm_rv_s, mm_rv_n, true_and, and_true, if_true, if_false, not_true_eq_false, not_false_eq_true, nI_add, nz_0, nz_lt0, nz_0le, nz_0lt, nz_le0, nz_lt, nz_le, nz_eq, nz_cl, nz_in, nz_sub, nz_m1, pk_mul, set_o, set_ne, up_ne, up_set, n1_1, true_or, or_true, n1_01, n0_01, bI_01, bI_01b, bI_0, isSc1, isSc3, isSc5, ln_2, ln_4, ln_6, ln_8, ln_10, ln_11, ln_12, ln_13, ln_14, ln_16, ln_17, ln_18, ln_19, ln_20, ln_21, ln_23, ln_24, ln_25, ln_27, ln_28, ln_29, ln_31, ln_32, ln_33, ln_35, ln_36, ln_37, k, bI, Bool.false_eq_true] at i1 ⊢
            exact i1
          · simp (disch := first | assumption | exact isSc1 | exact isSc3 | exact isSc5 | decide | omega) only [iX7_home_34, iX7_home_37, iX7_home_38, iX7_home_39, iX7_home_42, iX7_home_43, iX7_home_46, iX7_home_47, iX7_home_48, iX7_home_51, Nat.reduceAdd, Nat.reduceSub, Nat.reduceMul, Nat.reduceLeDiff, mm_rv_s, mm_rv_n, true_and, and_true, if_true, if_false, not_true_eq_false, not_false_eq_true, nI_add, nz_0, nz_lt0, nz_0le, nz_0lt, nz_le0, nz_lt, nz_le, nz_eq, nz_cl, nz_in, nz_sub, nz_m1, pk_mul, set_o, set_ne, up_ne, up_set, n1_1, true_or, or_true, n1_01, n0_01, bI_01, bI_01b, bI_0, isSc1, isSc3, isSc5, ln_2, ln_4, ln_6, ln_8, ln_10, ln_11, ln_12, ln_13, ln_14, ln_16, ln_17, ln_18, ln_19, ln_20, ln_21, ln_23, ln_24, ln_25, ln_27, ln_28, ln_29, ln_31, ln_32, ln_33, ln_35, ln_36, ln_37, k, bI, Nat.one_ne_zero]
            first | exact kp | exact ⟨rfl, kp⟩
        · have i1 := ih (t + 1) (by omega) true
          simp (disch := first | assumption | exact isSc1 | exact isSc3 | exact isSc5 | decide | omega) only [iX7_home_34, iX7_home_37, iX7_home_38, iX7_home_39, iX7_home_42, iX7_home_43, iX7_home_46, iX7_home_47, iX7_home_48, iX7_home_51, Nat.reduceAdd, Nat.reduceSub, Nat.reduceMul, Nat.reduceLeDiff, mm_rv_s, mm_rv_n, true_and, and_true, if_true, if_false, not_true_eq_false, not_false_eq_true, nI_add, nz_0, nz_lt0, nz_0le, nz_0lt, nz_le0, nz_lt, nz_le, nz_eq, nz_cl, nz_in, nz_sub, nz_m1, pk_mul, set_o, set_ne, up_ne, up_set, n1_1, true_or, or_true, n1_01, n0_01, bI_01, bI_01b, bI_0, isSc1, isSc3, isSc5, ln_2, ln_4, ln_6, ln_8, ln_10, ln_11, ln_12, ln_13, ln_14, ln_16, ln_17, ln_18, ln_19, ln_20, ln_21, ln_23, ln_24, ln_25, ln_27, ln_28, ln_29, ln_31, ln_32, ln_33, ln_35, ln_36, ln_37, k]
          exact i1
    simp (disch := first | assumption | exact isSc1 | exact isSc3 | exact isSc5 | decide | omega) only [iX7_home_11, iX7_home_12, iX7_home_13, iX7_home_14, mm_rv_n]
    exact loop B 1 (by omega) false
  · have hd1 := (hc.kp hk).2.2.2.2
    have d0 := hd1.1
    have b1 : nI 1 = bI true := rfl
    have b0 : nI 0 = bI false := rfl
    have pt := fun (t : Nat) (ht : t ≤ 48) (Q : mm_Q) => m_place (M := M1) (Q := Q) hd1 hv hn ht true
    have pf := fun (t : Nat) (ht : t ≤ 48) (Q : mm_Q) => m_place (M := M1) (Q := Q) hd1 hv hn ht false
    rw [← b1] at pt
    rw [← b0] at pf
    have loop : ∀ d t : Nat, t + d = B + 1 → ∀ (a : Bool) l3, wp 144 4 [some (.inr 30), some (.inl (bI a)), some (.inl (nI t)), l3] [] M1 (fun r M3 => r = some (hmF g n d t a) ∧ Kp M1 M3) := by
      intro d
      induction d with
      | zero =>
        intro t hd a l3
        rw [iX8_home_4]
        simp (disch := first | assumption | exact isSc1 | exact isSc3 | exact isSc5 | decide | omega) only [iX8_home_5, iX8_home_6, iX8_home_9, iX8_home_10, iX8_home_11, iX8_home_68, iX8_home_71, Nat.reduceAdd, Nat.reduceSub, Nat.reduceMul, Nat.reduceLeDiff, mm_rv_s, mm_rv_n, true_and, and_true, if_true, if_false, not_true_eq_false, not_false_eq_true, nI_add, nz_0, nz_lt0, nz_0le, nz_0lt, nz_le0, nz_lt, nz_le, nz_eq, nz_cl, nz_in, nz_sub, nz_m1, pk_mul, set_o, set_ne, up_ne, up_set, n1_1, true_or, or_true, n1_01, n0_01, bI_01, bI_01b, bI_0, isSc1, isSc3, isSc5, ln_2, ln_4, ln_6, ln_8, ln_10, ln_11, ln_12, ln_13, ln_14, ln_16, ln_17, ln_18, ln_19, ln_20, ln_21, ln_23, ln_24, ln_25, ln_27, ln_28, ln_29, ln_31, ln_32, ln_33, ln_35, ln_36, ln_37, d0, show B < t by omega]
        first | exact Kp.rf M1 | exact ⟨rfl, Kp.rf M1⟩
      | succ d ih =>
        intro t hd a l3
        have h1 := plI_le true g n t
        have h2 := plI_le false g n t
        have z1 : (iZ (plI true g n t) = 0) = (plI true g n t = 0) := iZ_0 (by omega) (by omega)
        have z2 : (iZ (plI false g n t) = 0) = (plI false g n t = 0) := iZ_0 (by omega) (by omega)
        have tail : wp 144 38 [some (.inr 30), some (.inl (bI a)), some (.inl (nI t)), some (.inl (bI (decide (dsN g n t = 0))))] [] M1 (fun r M3 => r = some (hmF g n (d + 1) t a) ∧ Kp M1 M3) := by
          unfold hmF
          by_cases k : dsN g n t = 0
          · have i1 := ih (t + 1) (by omega) a (some (.inl (nI 1)))
            cases a
            · simp (disch := first | assumption | exact isSc1 | exact isSc3 | exact isSc5 | decide | omega) only [iX8_home_38, iX8_home_39, iX8_home_42, iX8_home_43, iX8_home_46, iX8_home_47, iX8_home_48, iX8_home_49, iX8_home_52, iX8_home_53, iX8_home_56, iX8_home_57, iX8_home_60, iX8_home_61, iX8_home_62, iX8_home_65, Nat.reduceAdd, Nat.reduceSub, Nat.reduceMul, Nat.reduceLeDiff, mm_rv_s, mm_rv_n, true_and, and_true, if_true, if_false, not_true_eq_false, not_false_eq_true, nI_add, nz_0, nz_lt0, nz_0le, nz_0lt, nz_le0, nz_lt, nz_le, nz_eq, nz_cl, nz_in, nz_sub, nz_m1, pk_mul, set_o, set_ne, up_ne, up_set, n1_1, true_or, or_true, n1_01, n0_01, bI_01, bI_01b, bI_0, isSc1, isSc3, isSc5, ln_2, ln_4, ln_6, ln_8, ln_10, ln_11, ln_12, ln_13, ln_14, ln_16, ln_17, ln_18, ln_19, ln_20, ln_21, ln_23, ln_24, ln_25, ln_27, ln_28, ln_29, ln_31, ln_32, ln_33, ln_35, ln_36, ln_37, k, bI, Bool.false_eq_true, decide_true] at i1 ⊢
              exact i1
            · simp (disch := first | assumption | exact isSc1 | exact isSc3 | exact isSc5 | decide | omega) only [iX8_home_38, iX8_home_39, iX8_home_42, iX8_home_43, iX8_home_46, iX8_home_47, iX8_home_48, iX8_home_49, iX8_home_52, iX8_home_53, iX8_home_56, iX8_home_57, iX8_home_60, iX8_home_61, iX8_home_62, iX8_home_65, Nat.reduceAdd, Nat.reduceSub, Nat.reduceMul, Nat.reduceLeDiff, mm_rv_s, mm_rv_n, true_and, and_true, if_true, if_false, not_true_eq_false, not_false_eq_true, nI_add, nz_0, nz_lt0, nz_0le, nz_0lt, nz_le0, nz_lt, nz_le, nz_eq, nz_cl, nz_in, nz_sub, nz_m1, pk_mul, set_o, set_ne, up_ne, up_set, n1_1, true_or, or_true, n1_01, n0_01, bI_01, bI_01b, bI_0, isSc1, isSc3, isSc5, ln_2, ln_4, ln_6, ln_8, ln_10, ln_11, ln_12, ln_13, ln_14, ln_16, ln_17, ln_18, ln_19, ln_20, ln_21, ln_23, ln_24, ln_25, ln_27, ln_28, ln_29, ln_31, ln_32, ln_33, ln_35, ln_36, ln_37, k, bI, Nat.one_ne_zero, decide_true]
              first | exact Kp.rf M1 | exact ⟨rfl, Kp.rf M1⟩
          · have i1 := ih (t + 1) (by omega) true (some (.inl (nI 0)))
            cases a
            · simp (disch := first | assumption | exact isSc1 | exact isSc3 | exact isSc5 | decide | omega) only [iX8_home_38, iX8_home_39, iX8_home_42, iX8_home_43, iX8_home_46, iX8_home_47, iX8_home_48, iX8_home_49, iX8_home_52, iX8_home_53, iX8_home_56, iX8_home_57, iX8_home_60, iX8_home_61, iX8_home_62, iX8_home_65, Nat.reduceAdd, Nat.reduceSub, Nat.reduceMul, Nat.reduceLeDiff, mm_rv_s, mm_rv_n, true_and, and_true, if_true, if_false, not_true_eq_false, not_false_eq_true, nI_add, nz_0, nz_lt0, nz_0le, nz_0lt, nz_le0, nz_lt, nz_le, nz_eq, nz_cl, nz_in, nz_sub, nz_m1, pk_mul, set_o, set_ne, up_ne, up_set, n1_1, true_or, or_true, n1_01, n0_01, bI_01, bI_01b, bI_0, isSc1, isSc3, isSc5, ln_2, ln_4, ln_6, ln_8, ln_10, ln_11, ln_12, ln_13, ln_14, ln_16, ln_17, ln_18, ln_19, ln_20, ln_21, ln_23, ln_24, ln_25, ln_27, ln_28, ln_29, ln_31, ln_32, ln_33, ln_35, ln_36, ln_37, k, bI, Bool.false_eq_true, decide_false] at i1 ⊢
              exact i1
            · simp (disch := first | assumption | exact isSc1 | exact isSc3 | exact isSc5 | decide | omega) only [iX8_home_38, iX8_home_39, iX8_home_42, iX8_home_43, iX8_home_46, iX8_home_47, iX8_home_48, iX8_home_49, iX8_home_52, iX8_home_53, iX8_home_56, iX8_home_57, iX8_home_60, iX8_home_61, iX8_home_62, iX8_home_65, Nat.reduceAdd, Nat.reduceSub, Nat.reduceMul, Nat.reduceLeDiff, mm_rv_s, mm_rv_n, true_and, and_true, if_true, if_false, not_true_eq_false, not_false_eq_true, nI_add, nz_0, nz_lt0, nz_0le, nz_0lt, nz_le0, nz_lt, nz_le, nz_eq, nz_cl, nz_in, nz_sub, nz_m1, pk_mul, set_o, set_ne, up_ne, up_set, n1_1, true_or, or_true, n1_01, n0_01, bI_01, bI_01b, bI_0, isSc1, isSc3, isSc5, ln_2, ln_4, ln_6, ln_8, ln_10, ln_11, ln_12, ln_13, ln_14, ln_16, ln_17, ln_18, ln_19, ln_20, ln_21, ln_23, ln_24, ln_25, ln_27, ln_28, ln_29, ln_31, ln_32, ln_33, ln_35, ln_36, ln_37, k, bI, Nat.one_ne_zero, Bool.false_eq_true, decide_false] at i1 ⊢
              exact i1
        rw [iX8_home_4]
        simp (disch := first | assumption | exact isSc1 | exact isSc3 | exact isSc5 | decide | omega) only [iX8_home_5, iX8_home_6, iX8_home_9, iX8_home_10, iX8_home_11, iX8_home_14, iX8_home_15, iX8_home_16, iX8_home_17, Nat.reduceAdd, Nat.reduceSub, Nat.reduceMul, Nat.reduceLeDiff, mm_rv_s, mm_rv_n, true_and, and_true, if_true, if_false, not_true_eq_false, not_false_eq_true, nI_add, nz_0, nz_lt0, nz_0le, nz_0lt, nz_le0, nz_lt, nz_le, nz_eq, nz_cl, nz_in, nz_sub, nz_m1, pk_mul, set_o, set_ne, up_ne, up_set, n1_1, true_or, or_true, n1_01, n0_01, bI_01, bI_01b, bI_0, isSc1, isSc3, isSc5, ln_2, ln_4, ln_6, ln_8, ln_10, ln_11, ln_12, ln_13, ln_14, ln_16, ln_17, ln_18, ln_19, ln_20, ln_21, ln_23, ln_24, ln_25, ln_27, ln_28, ln_29, ln_31, ln_32, ln_33, ln_35, ln_36, ln_37, d0, show ¬ B < t by omega, pt t (show t ≤ 48 by omega)]
        by_cases k1 : plI true g n t = 0
        · simp (disch := first | assumption | exact isSc1 | exact isSc3 | exact isSc5 | decide | omega) only [iX8_home_20, iX8_home_23, iX8_home_24, iX8_home_25, iX8_home_26, Nat.reduceAdd, Nat.reduceSub, Nat.reduceMul, Nat.reduceLeDiff, mm_rv_s, mm_rv_n, true_and, and_true, if_true, if_false, not_true_eq_false, not_false_eq_true, nI_add, nz_0, nz_lt0, nz_0le, nz_0lt, nz_le0, nz_lt, nz_le, nz_eq, nz_cl, nz_in, nz_sub, nz_m1, pk_mul, set_o, set_ne, up_ne, up_set, n1_1, true_or, or_true, n1_01, n0_01, bI_01, bI_01b, bI_0, isSc1, isSc3, isSc5, ln_2, ln_4, ln_6, ln_8, ln_10, ln_11, ln_12, ln_13, ln_14, ln_16, ln_17, ln_18, ln_19, ln_20, ln_21, ln_23, ln_24, ln_25, ln_27, ln_28, ln_29, ln_31, ln_32, ln_33, ln_35, ln_36, ln_37, z1, k1, pf t (show t ≤ 48 by omega)]
          by_cases k2 : plI false g n t = 0
          · have e : dsN g n t = 0 := (dsN_0 g n t).mpr ⟨k1, k2⟩
            simp only [e, decide_true, bI, if_true] at tail
            simp (disch := first | assumption | exact isSc1 | exact isSc3 | exact isSc5 | decide | omega) only [iX8_home_29, iX8_home_32, iX8_home_33, iX8_home_36, iX8_home_37, Nat.reduceAdd, Nat.reduceSub, Nat.reduceMul, Nat.reduceLeDiff, mm_rv_s, mm_rv_n, true_and, and_true, if_true, if_false, not_true_eq_false, not_false_eq_true, nI_add, nz_0, nz_lt0, nz_0le, nz_0lt, nz_le0, nz_lt, nz_le, nz_eq, nz_cl, nz_in, nz_sub, nz_m1, pk_mul, set_o, set_ne, up_ne, up_set, n1_1, true_or, or_true, n1_01, n0_01, bI_01, bI_01b, bI_0, isSc1, isSc3, isSc5, ln_2, ln_4, ln_6, ln_8, ln_10, ln_11, ln_12, ln_13, ln_14, ln_16, ln_17, ln_18, ln_19, ln_20, ln_21, ln_23, ln_24, ln_25, ln_27, ln_28, ln_29, ln_31, ln_32, ln_33, ln_35, ln_36, ln_37, z2, k2]
            exact tail
          · have e : ¬ dsN g n t = 0 := fun z => k2 ((dsN_0 g n t).mp z).2
            simp only [e, decide_false, bI, Bool.false_eq_true, if_false] at tail
            simp (disch := first | assumption | exact isSc1 | exact isSc3 | exact isSc5 | decide | omega) only [iX8_home_29, iX8_home_32, iX8_home_33, iX8_home_36, iX8_home_37, Nat.reduceAdd, Nat.reduceSub, Nat.reduceMul, Nat.reduceLeDiff, mm_rv_s, mm_rv_n, true_and, and_true, if_true, if_false, not_true_eq_false, not_false_eq_true, nI_add, nz_0, nz_lt0, nz_0le, nz_0lt, nz_le0, nz_lt, nz_le, nz_eq, nz_cl, nz_in, nz_sub, nz_m1, pk_mul, set_o, set_ne, up_ne, up_set, n1_1, true_or, or_true, n1_01, n0_01, bI_01, bI_01b, bI_0, isSc1, isSc3, isSc5, ln_2, ln_4, ln_6, ln_8, ln_10, ln_11, ln_12, ln_13, ln_14, ln_16, ln_17, ln_18, ln_19, ln_20, ln_21, ln_23, ln_24, ln_25, ln_27, ln_28, ln_29, ln_31, ln_32, ln_33, ln_35, ln_36, ln_37, z2, k2]
            exact tail
        · have e : ¬ dsN g n t = 0 := fun z => k1 ((dsN_0 g n t).mp z).1
          simp only [e, decide_false, bI, Bool.false_eq_true, if_false] at tail
          simp (disch := first | assumption | exact isSc1 | exact isSc3 | exact isSc5 | decide | omega) only [iX8_home_20, iX8_home_36, iX8_home_37, Nat.reduceAdd, Nat.reduceSub, Nat.reduceMul, Nat.reduceLeDiff, mm_rv_s, mm_rv_n, true_and, and_true, if_true, if_false, not_true_eq_false, not_false_eq_true, nI_add, nz_0, nz_lt0, nz_0le, nz_0lt, nz_le0, nz_lt, nz_le, nz_eq, nz_cl, nz_in, nz_sub, nz_m1, pk_mul, set_o, set_ne, up_ne, up_set, n1_1, true_or, or_true, n1_01, n0_01, bI_01, bI_01b, bI_0, isSc1, isSc3, isSc5, ln_2, ln_4, ln_6, ln_8, ln_10, ln_11, ln_12, ln_13, ln_14, ln_16, ln_17, ln_18, ln_19, ln_20, ln_21, ln_23, ln_24, ln_25, ln_27, ln_28, ln_29, ln_31, ln_32, ln_33, ln_35, ln_36, ln_37, z1, k1]
          exact tail
    simp (disch := first | assumption | exact isSc1 | exact isSc3 | exact isSc5 | decide | omega) only [eX8_home, iX8_home_0, iX8_home_1, iX8_home_2, iX8_home_3]
    have := loop (B + 1) 0 (by omega) false none
    have e : hmF g n (B + 1) 0 false = hmF g n B 1 false := by
      show (if dsN g n 0 = 0 then (if false = true then nI 0 else hmF g n B 1 false) else hmF g n B 1 true) = _
      rw [if_pos (dsN_z g n), if_neg (by decide)]
    rw [e] at this
    exact this
theorem pr_farthest (hI : Inv M) : lw_pair Inv M 84 146 [] := by
  obtain ⟨⟨B, L, n, g, hc⟩, ⟨h, H, hh⟩, ht, hw⟩ := id hI
  obtain ⟨hv, hn, hL, hx, hd⟩ := id hc
  have w1 := hv.1
  have w2 := hv.2.1
  have x0 := hx.1
  refine pair_q hI (nI (mxF (dsN g n) (B + 1))) ?_ (fun M1 hk => ?_)
  · simp (disch := first | assumption | exact isSc1 | exact isSc3 | exact isSc5 | decide | omega) only [eX7_farthest, iX7_farthest_0, iX7_farthest_1, iX7_farthest_4, iX7_farthest_5, iX7_farthest_8]
    refine p_follow hx hv hn hw (fun M' hS hW2 hW => ?_)
    have kp : Kp M M' := Kp.walk hS hw hW2
    have e0 : M' 1 0 = nI B := by rw [hS 1 (by decide), x0]
    have loop : ∀ d t : Nat, t + d = B + 1 → wp 84 15 [some (.inr 0), some (.inl (nI (mxF (dsN g n) t))), some (.inl (nI t))] [] M' (fun r M1 => r = some (nI (mxF (dsN g n) (B + 1))) ∧ Kp M M1) := by
      intro d
      induction d with
      | zero =>
        intro t hd
        have hd : t = B + 1 := by omega
        subst hd
        rw [iX7_farthest_15]
        simp (disch := first | assumption | exact isSc1 | exact isSc3 | exact isSc5 | decide | omega) only [iX7_farthest_16, iX7_farthest_17, iX7_farthest_20, iX7_farthest_23, iX7_farthest_45, iX7_farthest_46, Nat.reduceAdd, Nat.reduceSub, Nat.reduceMul, Nat.reduceLeDiff, mm_rv_s, mm_rv_n, true_and, and_true, if_true, if_false, not_true_eq_false, not_false_eq_true, nI_add, nz_0, nz_lt0, nz_0le, nz_0lt, nz_le0, nz_lt, nz_le, nz_eq, nz_cl, nz_in, nz_sub, nz_m1, pk_mul, set_o, set_ne, up_ne, up_set, n1_1, true_or, or_true, n1_01, n0_01, bI_01, bI_01b, bI_0, isSc1, isSc3, isSc5, ln_2, ln_4, ln_6, ln_8, ln_10, ln_11, ln_12, ln_13, ln_14, ln_16, ln_17, ln_18, ln_19, ln_20, ln_21, ln_23, ln_24, ln_25, ln_27, ln_28, ln_29, ln_31, ln_32, ln_33, ln_35, ln_36, ln_37, e0, show B < B + 1 by omega]
        first | exact kp | exact ⟨rfl, kp⟩
      | succ d ih =>
        intro t hd
        have i1 := ih (t + 1) (by omega)
        have hs := dsN_le g n (show t ≤ 48 by omega)
        have hm := mxF_le (dsN g n) (m := 192) t (fun s hs => dsN_le g n (by omega))
        have em : (if nI (mxF (dsN g n) t) < nI (dsN g n t) then nI (dsN g n t) else nI (mxF (dsN g n) t)) = nI (mxF (dsN g n) (t + 1)) := by
          simp (disch := omega) only [nz_lt, mxF]
          split <;> rfl
        rw [iX7_farthest_15]
        simp (disch := first | assumption | exact isSc1 | exact isSc3 | exact isSc5 | decide | omega) only [iX7_farthest_16, iX7_farthest_17, iX7_farthest_20, iX7_farthest_23, iX7_farthest_26, iX7_farthest_27, iX7_farthest_28, iX7_farthest_31, iX7_farthest_32, Nat.reduceAdd, Nat.reduceSub, Nat.reduceMul, Nat.reduceLeDiff, mm_rv_s, mm_rv_n, true_and, and_true, if_true, if_false, not_true_eq_false, not_false_eq_true, nI_add, nz_0, nz_lt0, nz_0le, nz_0lt, nz_le0, nz_lt, nz_le, nz_eq, nz_cl, nz_in, nz_sub, nz_m1, pk_mul, set_o, set_ne, up_ne, up_set, n1_1, true_or, or_true, n1_01, n0_01, bI_01, bI_01b, bI_0, isSc1, isSc3, isSc5, ln_2, ln_4, ln_6, ln_8, ln_10, ln_11, ln_12, ln_13, ln_14, ln_16, ln_17, ln_18, ln_19, ln_20, ln_21, ln_23, ln_24, ln_25, ln_27, ln_28, ln_29, ln_31, ln_32, ln_33, ln_35, ln_36, ln_37, e0, show ¬ B < t by omega, p_distanceAt hW w2 (show t ≤ B by omega)]
        rw [iX7_farthest_35, p_max, em]
        simp (disch := first | assumption | exact isSc1 | exact isSc3 | exact isSc5 | decide | omega) only [iX7_farthest_38, iX7_farthest_39, iX7_farthest_42, Nat.reduceAdd, Nat.reduceSub, Nat.reduceMul, Nat.reduceLeDiff, mm_rv_s, mm_rv_n, true_and, and_true, if_true, if_false, not_true_eq_false, not_false_eq_true, nI_add, nz_0, nz_lt0, nz_0le, nz_0lt, nz_le0, nz_lt, nz_le, nz_eq, nz_cl, nz_in, nz_sub, nz_m1, pk_mul, set_o, set_ne, up_ne, up_set, n1_1, true_or, or_true, n1_01, n0_01, bI_01, bI_01b, bI_0, isSc1, isSc3, isSc5, ln_2, ln_4, ln_6, ln_8, ln_10, ln_11, ln_12, ln_13, ln_14, ln_16, ln_17, ln_18, ln_19, ln_20, ln_21, ln_23, ln_24, ln_25, ln_27, ln_28, ln_29, ln_31, ln_32, ln_33, ln_35, ln_36, ln_37]
        exact i1
    simp (disch := first | assumption | exact isSc1 | exact isSc3 | exact isSc5 | decide | omega) only [iX7_farthest_11, iX7_farthest_12, iX7_farthest_13, iX7_farthest_14, mm_rv_n]
    exact loop (B + 1) 0 (by omega)
  · have hd1 := (hc.kp hk).2.2.2.2
    have d0 := hd1.1
    have b1 : nI 1 = bI true := rfl
    have b0 : nI 0 = bI false := rfl
    have pt := fun (t : Nat) (ht : t ≤ 48) (Q : mm_Q) => m_place (M := M1) (Q := Q) hd1 hv hn ht true
    have pf := fun (t : Nat) (ht : t ≤ 48) (Q : mm_Q) => m_place (M := M1) (Q := Q) hd1 hv hn ht false
    rw [← b1] at pt
    rw [← b0] at pf
    have loop : ∀ d t : Nat, t + d = B + 1 → ∀ l3 l4, wp 146 4 [some (.inr 30), some (.inl (nI (mxF (dsN g n) t))), some (.inl (nI t)), l3, l4] [] M1 (fun r M3 => r = some (nI (mxF (dsN g n) (B + 1))) ∧ Kp M1 M3) := by
      intro d
      induction d with
      | zero =>
        intro t hd l3 l4
        have hd : t = B + 1 := by omega
        subst hd
        rw [iX8_farthest_4]
        simp (disch := first | assumption | exact isSc1 | exact isSc3 | exact isSc5 | decide | omega) only [iX8_farthest_5, iX8_farthest_6, iX8_farthest_9, iX8_farthest_10, iX8_farthest_11, iX8_farthest_65, iX8_farthest_66, Nat.reduceAdd, Nat.reduceSub, Nat.reduceMul, Nat.reduceLeDiff, mm_rv_s, mm_rv_n, true_and, and_true, if_true, if_false, not_true_eq_false, not_false_eq_true, nI_add, nz_0, nz_lt0, nz_0le, nz_0lt, nz_le0, nz_lt, nz_le, nz_eq, nz_cl, nz_in, nz_sub, nz_m1, pk_mul, set_o, set_ne, up_ne, up_set, n1_1, true_or, or_true, n1_01, n0_01, bI_01, bI_01b, bI_0, isSc1, isSc3, isSc5, ln_2, ln_4, ln_6, ln_8, ln_10, ln_11, ln_12, ln_13, ln_14, ln_16, ln_17, ln_18, ln_19, ln_20, ln_21, ln_23, ln_24, ln_25, ln_27, ln_28, ln_29, ln_31, ln_32, ln_33, ln_35, ln_36, ln_37, d0, show B < B + 1 by omega]
        first | exact Kp.rf M1 | exact ⟨rfl, Kp.rf M1⟩
      | succ d ih =>
        intro t hd l3 l4
        have h1 := plI_le true g n t
        have h2 := plI_le false g n t
        have i1 := ih (t + 1) (by omega) (some (.inl (nI (plI true g n t).natAbs))) (some (.inl (nI (plI false g n t).natAbs)))
        have hm := mxF_le (dsN g n) (m := 192) t (fun s hs => dsN_le g n (by omega))
        have em : mxF (dsN g n) (t + 1) = (if mxF (dsN g n) t < dsN g n t then dsN g n t else mxF (dsN g n) t) := rfl
        have ed : dsN g n t = (if (plI true g n t).natAbs < (plI false g n t).natAbs then (plI false g n t).natAbs else (plI true g n t).natAbs) := rfl
        rw [iX8_farthest_4]
        simp (disch := first | assumption | exact isSc1 | exact isSc3 | exact isSc5 | decide | omega) only [iX8_farthest_5, iX8_farthest_6, iX8_farthest_9, iX8_farthest_10, iX8_farthest_11, iX8_farthest_14, iX8_farthest_15, iX8_farthest_16, iX8_farthest_17, iX8_farthest_20, iX8_farthest_23, iX8_farthest_24, iX8_farthest_25, iX8_farthest_26, iX8_farthest_27, iX8_farthest_30, iX8_farthest_33, Nat.reduceAdd, Nat.reduceSub, Nat.reduceMul, Nat.reduceLeDiff, mm_rv_s, mm_rv_n, true_and, and_true, if_true, if_false, not_true_eq_false, not_false_eq_true, nI_add, nz_0, nz_lt0, nz_0le, nz_0lt, nz_le0, nz_lt, nz_le, nz_eq, nz_cl, nz_in, nz_sub, nz_m1, pk_mul, set_o, set_ne, up_ne, up_set, n1_1, true_or, or_true, n1_01, n0_01, bI_01, bI_01b, bI_0, isSc1, isSc3, isSc5, ln_2, ln_4, ln_6, ln_8, ln_10, ln_11, ln_12, ln_13, ln_14, ln_16, ln_17, ln_18, ln_19, ln_20, ln_21, ln_23, ln_24, ln_25, ln_27, ln_28, ln_29, ln_31, ln_32, ln_33, ln_35, ln_36, ln_37, d0, show ¬ B < t by omega, pt t (show t ≤ 48 by omega), pf t (show t ≤ 48 by omega), m_size (z := plI true g n t) (by omega) (by omega), m_size (z := plI false g n t) (by omega) (by omega)]
        have hx9 : (plI true g n t).natAbs ≤ 192 := by omega
        have hy9 : (plI false g n t).natAbs ≤ 192 := by omega
        generalize (plI true g n t).natAbs = x at i1 ed hx9 ⊢
        generalize (plI false g n t).natAbs = y at i1 ed hy9 ⊢
        generalize hmm : mxF (dsN g n) t = m at i1 em hm ⊢
        by_cases k1 : m < x
        · by_cases k2 : x < y
          · have e : mxF (dsN g n) (t + 1) = y := by rw [em, ed]; (repeat' split) <;> omega
            rw [e] at i1
            simp (disch := first | assumption | exact isSc1 | exact isSc3 | exact isSc5 | decide | omega) only [iX8_farthest_35, iX8_farthest_36, iX8_farthest_37, iX8_farthest_40, iX8_farthest_41, iX8_farthest_44, iX8_farthest_45, iX8_farthest_46, iX8_farthest_48, iX8_farthest_49, iX8_farthest_52, iX8_farthest_54, iX8_farthest_57, iX8_farthest_58, iX8_farthest_59, iX8_farthest_62, Nat.reduceAdd, Nat.reduceSub, Nat.reduceMul, Nat.reduceLeDiff, mm_rv_s, mm_rv_n, true_and, and_true, if_true, if_false, not_true_eq_false, not_false_eq_true, nI_add, nz_0, nz_lt0, nz_0le, nz_0lt, nz_le0, nz_lt, nz_le, nz_eq, nz_cl, nz_in, nz_sub, nz_m1, pk_mul, set_o, set_ne, up_ne, up_set, n1_1, true_or, or_true, n1_01, n0_01, bI_01, bI_01b, bI_0, isSc1, isSc3, isSc5, ln_2, ln_4, ln_6, ln_8, ln_10, ln_11, ln_12, ln_13, ln_14, ln_16, ln_17, ln_18, ln_19, ln_20, ln_21, ln_23, ln_24, ln_25, ln_27, ln_28, ln_29, ln_31, ln_32, ln_33, ln_35, ln_36, ln_37, show ¬ x ≤ m by omega, show ¬ y ≤ x by omega]
            exact i1
          · have e : mxF (dsN g n) (t + 1) = x := by rw [em, ed]; (repeat' split) <;> omega
            rw [e] at i1
            simp (disch := first | assumption | exact isSc1 | exact isSc3 | exact isSc5 | decide | omega) only [iX8_farthest_35, iX8_farthest_36, iX8_farthest_37, iX8_farthest_40, iX8_farthest_41, iX8_farthest_44, iX8_farthest_45, iX8_farthest_46, iX8_farthest_48, iX8_farthest_49, iX8_farthest_52, iX8_farthest_54, iX8_farthest_57, iX8_farthest_58, iX8_farthest_59, iX8_farthest_62, Nat.reduceAdd, Nat.reduceSub, Nat.reduceMul, Nat.reduceLeDiff, mm_rv_s, mm_rv_n, true_and, and_true, if_true, if_false, not_true_eq_false, not_false_eq_true, nI_add, nz_0, nz_lt0, nz_0le, nz_0lt, nz_le0, nz_lt, nz_le, nz_eq, nz_cl, nz_in, nz_sub, nz_m1, pk_mul, set_o, set_ne, up_ne, up_set, n1_1, true_or, or_true, n1_01, n0_01, bI_01, bI_01b, bI_0, isSc1, isSc3, isSc5, ln_2, ln_4, ln_6, ln_8, ln_10, ln_11, ln_12, ln_13, ln_14, ln_16, ln_17, ln_18, ln_19, ln_20, ln_21, ln_23, ln_24, ln_25, ln_27, ln_28, ln_29, ln_31, ln_32, ln_33, ln_35, ln_36, ln_37, show ¬ x ≤ m by omega, show y ≤ x by omega]
            exact i1
        · by_cases k2 : m < y
          · have e : mxF (dsN g n) (t + 1) = y := by rw [em, ed]; (repeat' split) <;> omega
            rw [e] at i1
            simp (disch := first | assumption | exact isSc1 | exact isSc3 | exact isSc5 | decide | omega) only [iX8_farthest_35, iX8_farthest_36, iX8_farthest_37, iX8_farthest_40, iX8_farthest_41, iX8_farthest_44, iX8_farthest_45, iX8_farthest_46, iX8_farthest_48, iX8_farthest_49, iX8_farthest_52, iX8_farthest_54, iX8_farthest_57, iX8_farthest_58, iX8_farthest_59, iX8_farthest_62, Nat.reduceAdd, Nat.reduceSub, Nat.reduceMul, Nat.reduceLeDiff, mm_rv_s, mm_rv_n, true_and, and_true, if_true, if_false, not_true_eq_false, not_false_eq_true, nI_add, nz_0, nz_lt0, nz_0le, nz_0lt, nz_le0, nz_lt, nz_le, nz_eq, nz_cl, nz_in, nz_sub, nz_m1, pk_mul, set_o, set_ne, up_ne, up_set, n1_1, true_or, or_true, n1_01, n0_01, bI_01, bI_01b, bI_0, isSc1, isSc3, isSc5, ln_2, ln_4, ln_6, ln_8, ln_10, ln_11, ln_12, ln_13, ln_14, ln_16, ln_17, ln_18, ln_19, ln_20, ln_21, ln_23, ln_24, ln_25, ln_27, ln_28, ln_29, ln_31, ln_32, ln_33, ln_35, ln_36, ln_37, show x ≤ m by omega, show ¬ y ≤ m by omega]
            exact i1
          · have e : mxF (dsN g n) (t + 1) = m := by rw [em, ed]; (repeat' split) <;> omega
            rw [e] at i1
            simp (disch := first | assumption | exact isSc1 | exact isSc3 | exact isSc5 | decide | omega) only [iX8_farthest_35, iX8_farthest_36, iX8_farthest_37, iX8_farthest_40, iX8_farthest_41, iX8_farthest_44, iX8_farthest_45, iX8_farthest_46, iX8_farthest_48, iX8_farthest_49, iX8_farthest_52, iX8_farthest_54, iX8_farthest_57, iX8_farthest_58, iX8_farthest_59, iX8_farthest_62, Nat.reduceAdd, Nat.reduceSub, Nat.reduceMul, Nat.reduceLeDiff, mm_rv_s, mm_rv_n, true_and, and_true, if_true, if_false, not_true_eq_false, not_false_eq_true, nI_add, nz_0, nz_lt0, nz_0le, nz_0lt, nz_le0, nz_lt, nz_le, nz_eq, nz_cl, nz_in, nz_sub, nz_m1, pk_mul, set_o, set_ne, up_ne, up_set, n1_1, true_or, or_true, n1_01, n0_01, bI_01, bI_01b, bI_0, isSc1, isSc3, isSc5, ln_2, ln_4, ln_6, ln_8, ln_10, ln_11, ln_12, ln_13, ln_14, ln_16, ln_17, ln_18, ln_19, ln_20, ln_21, ln_23, ln_24, ln_25, ln_27, ln_28, ln_29, ln_31, ln_32, ln_33, ln_35, ln_36, ln_37, show x ≤ m by omega, show y ≤ m by omega]
            exact i1
    simp (disch := first | assumption | exact isSc1 | exact isSc3 | exact isSc5 | decide | omega) only [eX8_farthest, iX8_farthest_0, iX8_farthest_1, iX8_farthest_2, iX8_farthest_3]
    exact loop (B + 1) 0 (by omega) none none
end FLR
