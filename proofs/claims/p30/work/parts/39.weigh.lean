/-! THE WEIGHT, by the class -/
def brO (g : Nat → Sg) (x : Option Nat) : Bool := match x with
  | some i => decide (sK (g i) ≤ 1)
  | none => false
def lgO (g : Nat → Sg) (x : Option Nat) : Bool := match x with
  | some i => decide (sK (g i) = 0)
  | none => false
def brB (B n : Nat) (g : Nat → Sg) (c t : Nat) : Bool := brO g (cv B n g c t)
def lgB (B n : Nat) (g : Nat → Sg) (c t : Nat) : Bool := lgO g (cv B n g c t)
def ftN (B n : Nat) (g : Nat → Sg) (t : Nat) : Nat := (if brB B n g 0 t = true then 1 else 0) + (if brB B n g 1 t = true then 2 else 0)
def twN (B n : Nat) (g : Nat → Sg) (t : Nat) : Nat := (if (lgB B n g 2 t && brB B n g 0 t) = true then 1 else 0) + (if (lgB B n g 3 t && brB B n g 1 t) = true then 2 else 0)
def upN (F : Nat → Nat) : Nat → Nat
  | 0 => 0
  | t + 1 => if F t = 0 then upN F t + 1 else 0
def dnN (F : Nat → Nat) : Nat → Nat → Nat
  | 0, _ => 0
  | d + 1, t => if F t = 0 then dnN F d (t + 1) + 1 else 0
def flN (F : Nat → Nat) (B t : Nat) : Nat := if F t = 0 then upN F t + dnN F (B - t) t else 0
theorem upN_le (F : Nat → Nat) : ∀ t, upN F t ≤ t := by
  intro t
  induction t with
  | zero => exact Nat.le_refl 0
  | succ t ih =>
    unfold upN
    split <;> omega
theorem dnN_le (F : Nat → Nat) : ∀ d t, dnN F d t ≤ d := by
  intro d
  induction d with
  | zero => intro t; exact Nat.le_refl 0
  | succ d ih =>
    intro t
    unfold dnN
    have := ih (t + 1)
    split <;> omega
theorem flN_le (F : Nat → Nat) {B t : Nat} (h : t < B) : flN F B t ≤ B := by
  unfold flN
  have := upN_le F t
  have := dnN_le F (B - t) t
  split <;> omega
theorem flN_last (F : Nat → Nat) {B : Nat} (h : 1 ≤ B) : flN F B (B - 1) = upN F B := by
  obtain ⟨b, rfl⟩ : ∃ b, B = b + 1 := ⟨B - 1, by omega⟩
  unfold flN
  rw [Nat.add_sub_cancel, show b + 1 - b = 1 by omega]
  simp only [dnN, upN]
  split <;> simp
theorem flN_back (F : Nat → Nat) {B t : Nat} (h : t + 1 < B) : flN F B t = if 0 < upN F (t + 1) ∧ 0 < flN F B (t + 1) then flN F B (t + 1) else upN F (t + 1) := by
  unfold flN
  obtain ⟨d, e⟩ : ∃ d, B - t = d + 1 := ⟨B - t - 1, by omega⟩
  have e2 : B - (t + 1) = d := by omega
  obtain ⟨d2, e3⟩ : ∃ d2, d = d2 + 1 := ⟨d - 1, by omega⟩
  rw [e, e2]
  by_cases h0 : F t = 0
  · have eu : upN F (t + 1) = upN F t + 1 := by simp only [upN, h0, if_true]
    by_cases h1 : F (t + 1) = 0
    · rw [if_pos h0, if_pos h1, if_pos (by omega), eu]
      simp only [dnN, h0, if_true]
      omega
    · rw [if_pos h0, if_neg h1, if_neg (by omega), eu, e3]
      simp only [dnN, h0, h1, if_true, if_false]
  · have eu : upN F (t + 1) = 0 := by simp only [upN, h0, if_false]
    rw [if_neg h0, eu, if_neg (by omega)]
section WG
variable {B L n : Nat} {g : Nat → Sg} {M : mm_M} {Q : mm_Q}
theorem p_canBear {x : Option Nat} (hx : ∀ i, x = some i → okS (g i) ∧ sB (g i) < 128) : wc 54 [.inl (oP g x)] M Q ↔ Q (some (bI (brO g x))) M := by
  cases x with
  | none =>
    simp (disch := first | assumption | exact isSc1 | exact isSc3 | exact isSc5 | decide | omega) only [oP, brO, eX6_canBear, iX6_canBear_0, iX6_canBear_1, iX6_canBear_2, iX6_canBear_5, iX6_canBear_6, iX6_canBear_9, iX6_canBear_12, iX6_canBear_13, iX6_canBear_16, iX6_canBear_17, iX6_canBear_20, iX6_canBear_21, iX6_canBear_24, iX6_canBear_25, Nat.reduceAdd, Nat.reduceSub, Nat.reduceMul, Nat.reduceLeDiff, mm_rv_s, mm_rv_n, true_and, and_true, if_true, if_false, not_true_eq_false, not_false_eq_true, nI_add, nz_0, nz_lt0, nz_0le, nz_0lt, nz_le0, nz_lt, nz_le, nz_eq, nz_cl, nz_in, nz_sub, nz_m1, pk_mul, set_o, set_ne, up_ne, up_set, n1_1, true_or, or_true, n1_01, n0_01, bI_01, bI_01b, bI_0, isSc1, isSc3, isSc5, ln_2, ln_4, ln_6, ln_8, ln_10, ln_11, ln_12, ln_13, ln_14, ln_16, ln_17, ln_18, ln_19, ln_20, ln_21, ln_23, ln_24, ln_25, ln_27, ln_28, ln_29, bI]
    simp
  | some i =>
    obtain ⟨h1, h2⟩ := hx i rfl
    have hl := (sgp_f h1 h2).2.2.2.2.2.2.2
    have hk := h1.2.1
    simp (disch := first | assumption | exact isSc1 | exact isSc3 | exact isSc5 | decide | omega) only [oP, brO, eX6_canBear, iX6_canBear_0, iX6_canBear_1, iX6_canBear_2, iX6_canBear_5, iX6_canBear_6, iX6_canBear_9, iX6_canBear_12, iX6_canBear_13, iX6_canBear_16, iX6_canBear_17, iX6_canBear_20, iX6_canBear_21, iX6_canBear_24, iX6_canBear_25, Nat.reduceAdd, Nat.reduceSub, Nat.reduceMul, Nat.reduceLeDiff, mm_rv_s, mm_rv_n, true_and, and_true, if_true, if_false, not_true_eq_false, not_false_eq_true, nI_add, nz_0, nz_lt0, nz_0le, nz_0lt, nz_le0, nz_lt, nz_le, nz_eq, nz_cl, nz_in, nz_sub, nz_m1, pk_mul, set_o, set_ne, up_ne, up_set, n1_1, true_or, or_true, n1_01, n0_01, bI_01, bI_01b, bI_0, isSc1, isSc3, isSc5, ln_2, ln_4, ln_6, ln_8, ln_10, ln_11, ln_12, ln_13, ln_14, ln_16, ln_17, ln_18, ln_19, ln_20, ln_21, ln_23, ln_24, ln_25, ln_27, ln_28, ln_29, nz_ne1, g_kindOf h1 h2]
    by_cases k0 : sK (g i) = 0
    · simp [k0, bI]
    · by_cases k1 : sK (g i) = 1
      · simp [k1, bI]
      · have : ¬ sK (g i) ≤ 1 := by omega
        simp [k0, k1, this, bI]
theorem cv_ok (hv : Val B n g) {c t i : Nat} (h : cv B n g c t = some i) : okS (g i) ∧ sB (g i) < 128 := by
  have := okG_b hv.okG (cv_lt h)
  exact ⟨this.1, this.2.1⟩
theorem p_weighSide (hC : isC M 1 B L n g) (hv : Val B n g) (h9 : M 9 0 = nI B) {side : Nat} (hs : side ≤ 1) {a b : Nat → Nat} (ha : ∀ t, t < B → M 12 t = nI (a t)) (hb : ∀ t, t < B → M 13 t = nI (b t))
    (hoa : ∀ t, t < B → nI (a t) ||| nI (2 ^ side) = nI (a t + 2 ^ side)) (hob : ∀ t, t < B → nI (b t) ||| nI (2 ^ side) = nI (b t + 2 ^ side))
    (hQ : ∀ M', Same [10, 11, 12, 13] M M' → (∀ t, t < B → M' 12 t = nI (a t + if brB B n g side t = true then 2 ^ side else 0)) → (∀ t, t < B → M' 13 t = nI (b t + if (lgB B n g (2 + side) t && brB B n g side t) = true then 2 ^ side else 0)) → Q none M') : wc 53 [.inr 9, .inr 1, .inl (nI side)] M Q := by
  have w1 := hv.1
  have w2 := hv.2.1
  have ebit : nI 1 <<< (nI side &&& 31) = nI (2 ^ side) := by
    have : side = 0 ∨ side = 1 := by omega
    rcases this with rfl | rfl <;> decide
  simp (disch := first | assumption | exact isSc1 | exact isSc3 | exact isSc5 | decide | omega) only [eX6_weighSide, iX6_weighSide_0, iX6_weighSide_1, iX6_weighSide_2, iX6_weighSide_3, iX6_weighSide_6, Nat.reduceAdd, Nat.reduceSub, Nat.reduceMul, Nat.reduceLeDiff, mm_rv_s, mm_rv_n, true_and, and_true, if_true, if_false, not_true_eq_false, not_false_eq_true, nI_add, nz_0, nz_lt0, nz_0le, nz_0lt, nz_le0, nz_lt, nz_le, nz_eq, nz_cl, nz_in, nz_sub, nz_m1, pk_mul, set_o, set_ne, up_ne, up_set, n1_1, true_or, or_true, n1_01, n0_01, bI_01, bI_01b, bI_0, isSc1, isSc3, isSc5, ln_2, ln_4, ln_6, ln_8, ln_10, ln_11, ln_12, ln_13, ln_14, ln_16, ln_17, ln_18, ln_19, ln_20, ln_21, ln_23, ln_24, ln_25, ln_27, ln_28, ln_29]
  refine p_fillRow (r := 10) isSc1 hC hv (by omega) ln_10 (by decide) (by decide) (by decide) (fun r1 hr1 => ?_)
  simp (disch := first | assumption | exact isSc1 | exact isSc3 | exact isSc5 | decide | omega) only [iX6_weighSide_9, iX6_weighSide_10, iX6_weighSide_11, iX6_weighSide_12, iX6_weighSide_13, iX6_weighSide_14, iX6_weighSide_17, Nat.reduceAdd, Nat.reduceSub, Nat.reduceMul, Nat.reduceLeDiff, mm_rv_s, mm_rv_n, true_and, and_true, if_true, if_false, not_true_eq_false, not_false_eq_true, nI_add, nz_0, nz_lt0, nz_0le, nz_0lt, nz_le0, nz_lt, nz_le, nz_eq, nz_cl, nz_in, nz_sub, nz_m1, pk_mul, set_o, set_ne, up_ne, up_set, n1_1, true_or, or_true, n1_01, n0_01, bI_01, bI_01b, bI_0, isSc1, isSc3, isSc5, ln_2, ln_4, ln_6, ln_8, ln_10, ln_11, ln_12, ln_13, ln_14, ln_16, ln_17, ln_18, ln_19, ln_20, ln_21, ln_23, ln_24, ln_25, ln_27, ln_28, ln_29]
  refine p_fillRow (r := 11) (c := 2 + side) isSc1 (isC_cong (M := M) (set_ne _ _ (by decide)) (set_ne _ _ (by decide)) hC) hv (by omega) ln_11 (by decide) (by decide) (by decide) (fun r2 hr2 => ?_)
  simp (disch := first | assumption | exact isSc1 | exact isSc3 | exact isSc5 | decide | omega) only [iX6_weighSide_20, iX6_weighSide_21, iX6_weighSide_22, iX6_weighSide_23, iX6_weighSide_24, iX6_weighSide_25, Nat.reduceAdd, Nat.reduceSub, Nat.reduceMul, Nat.reduceLeDiff, mm_rv_s, mm_rv_n, true_and, and_true, if_true, if_false, not_true_eq_false, not_false_eq_true, nI_add, nz_0, nz_lt0, nz_0le, nz_0lt, nz_le0, nz_lt, nz_le, nz_eq, nz_cl, nz_in, nz_sub, nz_m1, pk_mul, set_o, set_ne, up_ne, up_set, n1_1, true_or, or_true, n1_01, n0_01, bI_01, bI_01b, bI_0, isSc1, isSc3, isSc5, ln_2, ln_4, ln_6, ln_8, ln_10, ln_11, ln_12, ln_13, ln_14, ln_16, ln_17, ln_18, ln_19, ln_20, ln_21, ln_23, ln_24, ln_25, ln_27, ln_28, ln_29, ebit]
  have hS0 : Same [10, 11] M (mm_set (mm_set M 10 r1) 11 r2) := ((Same.rf [10, 11] M).set (by decide) _).set (by decide) _
  have h10 : mm_set (mm_set M 10 r1) 11 r2 10 = r1 := by rw [set_ne _ _ (by decide), set_o]
  have h11 : mm_set (mm_set M 10 r1) 11 r2 11 = r2 := set_o _ _ _
  generalize mm_set (mm_set M 10 r1) 11 r2 = M2 at hS0 h10 h11 ⊢
  have loop : ∀ d i : Nat, i + d = B → ∀ M' : mm_M, Same [12, 13] M2 M' → (∀ t, t < i → M' 12 t = nI (a t + if brB B n g side t = true then 2 ^ side else 0)) → (∀ t, i ≤ t → t < B → M' 12 t = nI (a t)) → (∀ t, t < i → M' 13 t = nI (b t + if (lgB B n g (2 + side) t && brB B n g side t) = true then 2 ^ side else 0)) → (∀ t, i ≤ t → t < B → M' 13 t = nI (b t)) →
      wp 53 27 [some (.inr 9), some (.inr 1), some (.inl (nI side)), some (.inl (nI (2 ^ side))), some (.inl (nI i))] [] M' Q := by
    intro d
    induction d with
    | zero =>
      intro i hi M' hS h1 h2 h3 h4
      have hi : i = B := by omega
      subst hi
      have e9 : M' 9 0 = nI i := by rw [hS 9 (by decide), hS0 9 (by decide), h9]
      rw [iX6_weighSide_27]
      simp (disch := first | assumption | exact isSc1 | exact isSc3 | exact isSc5 | decide | omega) only [iX6_weighSide_29, iX6_weighSide_30, iX6_weighSide_33, iX6_weighSide_101, Nat.reduceAdd, Nat.reduceSub, Nat.reduceMul, Nat.reduceLeDiff, mm_rv_s, mm_rv_n, true_and, and_true, if_true, if_false, not_true_eq_false, not_false_eq_true, nI_add, nz_0, nz_lt0, nz_0le, nz_0lt, nz_le0, nz_lt, nz_le, nz_eq, nz_cl, nz_in, nz_sub, nz_m1, pk_mul, set_o, set_ne, up_ne, up_set, n1_1, true_or, or_true, n1_01, n0_01, bI_01, bI_01b, bI_0, isSc1, isSc3, isSc5, ln_2, ln_4, ln_6, ln_8, ln_10, ln_11, ln_12, ln_13, ln_14, ln_16, ln_17, ln_18, ln_19, ln_20, ln_21, ln_23, ln_24, ln_25, ln_27, ln_28, ln_29, e9, Nat.le_refl]
      exact hQ M' ((hS0.wk (by decide)).tr (hS.wk (by decide))) h1 h3
    | succ d ih =>
      intro i hi M' hS h1 h2 h3 h4
      have e9 : M' 9 0 = nI B := by rw [hS 9 (by decide), hS0 9 (by decide), h9]
      have e10 : M' 10 i = oP g (cv B n g side i) := by rw [hS 10 (by decide), h10, hr1 i (by omega)]
      have e11 : M' 11 i = oP g (cv B n g (2 + side) i) := by rw [hS 11 (by decide), h11, hr2 i (by omega)]
      have e12 : M' 12 i = nI (a i) := h2 i (Nat.le_refl i) (by omega)
      have e13 : M' 13 i = nI (b i) := h4 i (Nat.le_refl i) (by omega)
      have fin : ∀ M'', Same [12, 13] M' M'' → (∀ t, t ≠ i → M'' 12 t = M' 12 t) → M'' 12 i = nI (a i + if brB B n g side i = true then 2 ^ side else 0) → (∀ t, t ≠ i → M'' 13 t = M' 13 t) → M'' 13 i = nI (b i + if (lgB B n g (2 + side) i && brB B n g side i) = true then 2 ^ side else 0) → wp 53 95 [some (.inr 9), some (.inr 1), some (.inl (nI side)), some (.inl (nI (2 ^ side))), some (.inl (nI i))] [] M'' Q := by
        intro M'' hS2 k1 k2 k3 k4
        simp (disch := first | assumption | exact isSc1 | exact isSc3 | exact isSc5 | decide | omega) only [iX6_weighSide_95, iX6_weighSide_98, Nat.reduceAdd, Nat.reduceSub, Nat.reduceMul, Nat.reduceLeDiff, mm_rv_s, mm_rv_n, true_and, and_true, if_true, if_false, not_true_eq_false, not_false_eq_true, nI_add, nz_0, nz_lt0, nz_0le, nz_0lt, nz_le0, nz_lt, nz_le, nz_eq, nz_cl, nz_in, nz_sub, nz_m1, pk_mul, set_o, set_ne, up_ne, up_set, n1_1, true_or, or_true, n1_01, n0_01, bI_01, bI_01b, bI_0, isSc1, isSc3, isSc5, ln_2, ln_4, ln_6, ln_8, ln_10, ln_11, ln_12, ln_13, ln_14, ln_16, ln_17, ln_18, ln_19, ln_20, ln_21, ln_23, ln_24, ln_25, ln_27, ln_28, ln_29]
        refine ih (i + 1) (by omega) M'' (hS.tr hS2) (fun t ht => ?_) (fun t ht htB => ?_) (fun t ht => ?_) (fun t ht htB => ?_)
        · by_cases e : t = i
          · rw [e]; exact k2
          · rw [k1 t e]; exact h1 t (by omega)
        · rw [k1 t (by omega)]; exact h2 t (by omega) htB
        · by_cases e : t = i
          · rw [e]; exact k4
          · rw [k3 t e]; exact h3 t (by omega)
        · rw [k3 t (by omega)]; exact h4 t (by omega) htB
      rw [iX6_weighSide_27]
      simp (disch := first | assumption | exact isSc1 | exact isSc3 | exact isSc5 | decide | omega) only [iX6_weighSide_29, iX6_weighSide_30, iX6_weighSide_33, iX6_weighSide_36, iX6_weighSide_37, iX6_weighSide_40, iX6_weighSide_42, iX6_weighSide_43, Nat.reduceAdd, Nat.reduceSub, Nat.reduceMul, Nat.reduceLeDiff, mm_rv_s, mm_rv_n, true_and, and_true, if_true, if_false, not_true_eq_false, not_false_eq_true, nI_add, nz_0, nz_lt0, nz_0le, nz_0lt, nz_le0, nz_lt, nz_le, nz_eq, nz_cl, nz_in, nz_sub, nz_m1, pk_mul, set_o, set_ne, up_ne, up_set, n1_1, true_or, or_true, n1_01, n0_01, bI_01, bI_01b, bI_0, isSc1, isSc3, isSc5, ln_2, ln_4, ln_6, ln_8, ln_10, ln_11, ln_12, ln_13, ln_14, ln_16, ln_17, ln_18, ln_19, ln_20, ln_21, ln_23, ln_24, ln_25, ln_27, ln_28, ln_29, e9, show ¬ B ≤ i by omega, e10, p_canBear (g := g) (x := cv B n g side i) (fun j hj => cv_ok hv hj)]
      by_cases hbr : brB B n g side i = true
      · have hbr2 : brO g (cv B n g side i) = true := hbr
        rw [hbr2]
        simp (disch := first | assumption | exact isSc1 | exact isSc3 | exact isSc5 | decide | omega) only [iX6_weighSide_46, iX6_weighSide_49, iX6_weighSide_50, iX6_weighSide_53, iX6_weighSide_55, iX6_weighSide_56, iX6_weighSide_57, iX6_weighSide_58, iX6_weighSide_59, Nat.reduceAdd, Nat.reduceSub, Nat.reduceMul, Nat.reduceLeDiff, mm_rv_s, mm_rv_n, true_and, and_true, if_true, if_false, not_true_eq_false, not_false_eq_true, nI_add, nz_0, nz_lt0, nz_0le, nz_0lt, nz_le0, nz_lt, nz_le, nz_eq, nz_cl, nz_in, nz_sub, nz_m1, pk_mul, set_o, set_ne, up_ne, up_set, n1_1, true_or, or_true, n1_01, n0_01, bI_01, bI_01b, bI_0, isSc1, isSc3, isSc5, ln_2, ln_4, ln_6, ln_8, ln_10, ln_11, ln_12, ln_13, ln_14, ln_16, ln_17, ln_18, ln_19, ln_20, ln_21, ln_23, ln_24, ln_25, ln_27, ln_28, ln_29, bI_0, Bool.true_eq_false, e12, hoa i (show i < B by omega)]
        have u11 : mm_up M' 12 i (nI (a i + 2 ^ side)) 11 i = M' 11 i := by rw [up_ne _ _ _ (by decide)]
        have hS3 : Same [12, 13] M' (mm_up M' 12 i (nI (a i + 2 ^ side))) := (Same.rf [12, 13] M').up (by decide) _ _
        have e12' : mm_up M' 12 i (nI (a i + 2 ^ side)) 12 i = nI (a i + if brB B n g side i = true then 2 ^ side else 0) := by rw [up_o, us, if_pos hbr]
        have n12' : ∀ t, t ≠ i → mm_up M' 12 i (nI (a i + 2 ^ side)) 12 t = M' 12 t := fun t ht => by rw [up_o, un _ _ _ _ ht]
        have e13' : mm_up M' 12 i (nI (a i + 2 ^ side)) 13 = M' 13 := up_ne _ _ _ (by decide)
        generalize mm_up M' 12 i (nI (a i + 2 ^ side)) = M3 at u11 hS3 e12' n12' e13' ⊢
        cases hx : cv B n g (2 + side) i with
        | none =>
          rw [hx] at e11
          simp (disch := first | assumption | exact isSc1 | exact isSc3 | exact isSc5 | decide | omega) only [iX6_weighSide_60, iX6_weighSide_61, iX6_weighSide_64, iX6_weighSide_66, iX6_weighSide_67, iX6_weighSide_68, Nat.reduceAdd, Nat.reduceSub, Nat.reduceMul, Nat.reduceLeDiff, mm_rv_s, mm_rv_n, true_and, and_true, if_true, if_false, not_true_eq_false, not_false_eq_true, nI_add, nz_0, nz_lt0, nz_0le, nz_0lt, nz_le0, nz_lt, nz_le, nz_eq, nz_cl, nz_in, nz_sub, nz_m1, pk_mul, set_o, set_ne, up_ne, up_set, n1_1, true_or, or_true, n1_01, n0_01, bI_01, bI_01b, bI_0, isSc1, isSc3, isSc5, ln_2, ln_4, ln_6, ln_8, ln_10, ln_11, ln_12, ln_13, ln_14, ln_16, ln_17, ln_18, ln_19, ln_20, ln_21, ln_23, ln_24, ln_25, ln_27, ln_28, ln_29, u11, e11, oP]
          refine fin M3 hS3 n12' e12' (fun t _ => by rw [e13']) ?_
          have hlg : lgB B n g (2 + side) i = false := by unfold lgB; rw [hx]; rfl
          rw [e13', e13, hlg]
          simp
        | some j =>
          obtain ⟨o1, o2⟩ := cv_ok hv hx
          have hl := (sgp_f o1 o2).2.2.2.2.2.2.2
          have hk := o1.2.1
          rw [hx] at e11
          simp (disch := first | assumption | exact isSc1 | exact isSc3 | exact isSc5 | decide | omega) only [iX6_weighSide_60, iX6_weighSide_61, iX6_weighSide_64, iX6_weighSide_66, iX6_weighSide_67, iX6_weighSide_68, iX6_weighSide_71, iX6_weighSide_72, iX6_weighSide_75, iX6_weighSide_77, iX6_weighSide_78, iX6_weighSide_81, Nat.reduceAdd, Nat.reduceSub, Nat.reduceMul, Nat.reduceLeDiff, mm_rv_s, mm_rv_n, true_and, and_true, if_true, if_false, not_true_eq_false, not_false_eq_true, nI_add, nz_0, nz_lt0, nz_0le, nz_0lt, nz_le0, nz_lt, nz_le, nz_eq, nz_cl, nz_in, nz_sub, nz_m1, pk_mul, set_o, set_ne, up_ne, up_set, n1_1, true_or, or_true, n1_01, n0_01, bI_01, bI_01b, bI_0, isSc1, isSc3, isSc5, ln_2, ln_4, ln_6, ln_8, ln_10, ln_11, ln_12, ln_13, ln_14, ln_16, ln_17, ln_18, ln_19, ln_20, ln_21, ln_23, ln_24, ln_25, ln_27, ln_28, ln_29, u11, e11, oP, nz_ne1, g_kindOf o1 o2]
          by_cases k0 : sK (g j) = 0
          · have hlg : lgB B n g (2 + side) i = true := by unfold lgB lgO; rw [hx]; simp [k0]
            simp (disch := first | assumption | exact isSc1 | exact isSc3 | exact isSc5 | decide | omega) only [iX6_weighSide_84, iX6_weighSide_85, iX6_weighSide_88, iX6_weighSide_90, iX6_weighSide_91, iX6_weighSide_92, iX6_weighSide_93, iX6_weighSide_94, Nat.reduceAdd, Nat.reduceSub, Nat.reduceMul, Nat.reduceLeDiff, mm_rv_s, mm_rv_n, true_and, and_true, if_true, if_false, not_true_eq_false, not_false_eq_true, nI_add, nz_0, nz_lt0, nz_0le, nz_0lt, nz_le0, nz_lt, nz_le, nz_eq, nz_cl, nz_in, nz_sub, nz_m1, pk_mul, set_o, set_ne, up_ne, up_set, n1_1, true_or, or_true, n1_01, n0_01, bI_01, bI_01b, bI_0, isSc1, isSc3, isSc5, ln_2, ln_4, ln_6, ln_8, ln_10, ln_11, ln_12, ln_13, ln_14, ln_16, ln_17, ln_18, ln_19, ln_20, ln_21, ln_23, ln_24, ln_25, ln_27, ln_28, ln_29, k0, e13', e13, hob i (show i < B by omega)]
            refine fin _ (hS3.up (by decide) _ _) (fun t ht => by rw [up_ne _ _ _ (by decide)]; exact n12' t ht) (by rw [up_ne _ _ _ (by decide)]; exact e12') (fun t ht => by rw [up_o, un _ _ _ _ ht, e13']) ?_
            rw [up_o, us, hlg, hbr]
            simp
          · have hlg : lgB B n g (2 + side) i = false := by unfold lgB lgO; rw [hx]; simp [k0]
            simp (disch := first | assumption | exact isSc1 | exact isSc3 | exact isSc5 | decide | omega) only [k0]
            refine fin M3 hS3 n12' e12' (fun t _ => by rw [e13']) ?_
            rw [e13', e13, hlg]
            simp
      · have hbr2 : brO g (cv B n g side i) = false := by
          have : brO g (cv B n g side i) ≠ true := hbr
          simpa using this
        rw [hbr2]
        simp (disch := first | assumption | exact isSc1 | exact isSc3 | exact isSc5 | decide | omega) only [iX6_weighSide_46, Nat.reduceAdd, Nat.reduceSub, Nat.reduceMul, Nat.reduceLeDiff, mm_rv_s, mm_rv_n, true_and, and_true, if_true, if_false, not_true_eq_false, not_false_eq_true, nI_add, nz_0, nz_lt0, nz_0le, nz_0lt, nz_le0, nz_lt, nz_le, nz_eq, nz_cl, nz_in, nz_sub, nz_m1, pk_mul, set_o, set_ne, up_ne, up_set, n1_1, true_or, or_true, n1_01, n0_01, bI_01, bI_01b, bI_0, isSc1, isSc3, isSc5, ln_2, ln_4, ln_6, ln_8, ln_10, ln_11, ln_12, ln_13, ln_14, ln_16, ln_17, ln_18, ln_19, ln_20, ln_21, ln_23, ln_24, ln_25, ln_27, ln_28, ln_29, bI_0]
        refine fin M' (Same.rf _ _) (fun t _ => rfl) ?_ (fun t _ => rfl) ?_
        · rw [e12, if_neg hbr, Nat.add_zero]
        · have : brB B n g side i = false := hbr2
          rw [e13, this]
          simp
  refine loop B 0 (by omega) M2 (Same.rf _ _) (fun t ht => absurd ht (by omega)) (fun t _ ht => ?_) (fun t ht => absurd ht (by omega)) (fun t _ ht => ?_)
  · rw [hS0 12 (by decide)]; exact ha t ht
  · rw [hS0 13 (by decide)]; exact hb t ht
end WG

