/-! WHAT CLASS AND REFERENCE HOLD TOGETHER -/
def Cur (M : mm_M) (B L n : Nat) (g : Nat → Sg) : Prop := Val B n g ∧ n ≤ 60 ∧ L ≤ 8 ∧ isC M 1 B L n g ∧ isD (M 31) B L n g
def okH (S : St) : Prop := Val S.1 S.2.2.1 S.2.2.2 ∧ S.2.2.1 ≤ 60 ∧ S.2.1 ≤ 8
def Hst (M : mm_M) (h : Nat) (H : Nat → St) : Prop := h ≤ 6 ∧ M 7 0 = nI h ∧ M 30 2 = nI h ∧ ∀ k, k < h → hC (M 8) k (H k) ∧ hD (M 32) k (H k) ∧ okH (H k)
def Txt (M : mm_M) (t : Nat) (c : Nat → Nat) : Prop := t ≤ 120 ∧ M 26 0 = nI t ∧ M 30 5 = nI t ∧ ∀ i, i < t → M 27 i = nI (c i) ∧ M 34 i = nI (c i) ∧ 32 ≤ c i ∧ c i ≤ 126
def Wlk (M : mm_M) : Prop := M 16 0 = nI 0 ∧ M 17 0 = nI 0 ∧ M 18 0 = nI 0
def Inv (M : mm_M) : Prop := (∃ B L n g, Cur M B L n g) ∧ (∃ h H, Hst M h H) ∧ (∃ t c, Txt M t c) ∧ Wlk M
/-- what a question leaves as it is -/
def Kp (M M' : mm_M) : Prop := M' 1 = M 1 ∧ M' 2 = M 2 ∧ M' 31 = M 31 ∧ M' 7 0 = M 7 0 ∧ M' 30 2 = M 30 2 ∧ M' 8 = M 8 ∧ M' 32 = M 32 ∧ M' 26 0 = M 26 0 ∧ M' 30 5 = M 30 5 ∧ M' 27 = M 27 ∧ M' 34 = M 34 ∧ M' 16 0 = M 16 0 ∧ M' 17 0 = M 17 0 ∧ M' 18 0 = M 18 0
theorem Kp.rf (M : mm_M) : Kp M M := ⟨rfl, rfl, rfl, rfl, rfl, rfl, rfl, rfl, rfl, rfl, rfl, rfl, rfl, rfl⟩
theorem Kp.tr {M M1 M2 : mm_M} (h : Kp M M1) (h2 : Kp M1 M2) : Kp M M2 := by
  obtain ⟨a1, a2, a3, a4, a5, a6, a7, a8, a9, a10, a11, a12, a13, a14⟩ := h
  obtain ⟨b1, b2, b3, b4, b5, b6, b7, b8, b9, b10, b11, b12, b13, b14⟩ := h2
  exact ⟨b1.trans a1, b2.trans a2, b3.trans a3, b4.trans a4, b5.trans a5, b6.trans a6, b7.trans a7, b8.trans a8, b9.trans a9, b10.trans a10, b11.trans a11, b12.trans a12, b13.trans a13, b14.trans a14⟩
theorem Kp.set {M : mm_M} {o : Nat} (f : Nat → Int32) (h : o ∉ [1, 2, 31, 7, 30, 8, 32, 26, 27, 34, 16, 17, 18]) : Kp M (mm_set M o f) := by
  have key : ∀ q, q ∈ [1, 2, 31, 7, 30, 8, 32, 26, 27, 34, 16, 17, 18] → mm_set M o f q = M q := fun q hq => set_ne _ _ (fun e => h (e ▸ hq))
  refine ⟨key _ (by decide), key _ (by decide), key _ (by decide), ?_, ?_, key _ (by decide), key _ (by decide), ?_, ?_, key _ (by decide), key _ (by decide), ?_, ?_, ?_⟩ <;> rw [key _ (by decide)]
theorem Kp.same {M M' : mm_M} {X : List Nat} (hs : Same X M M') (h : ∀ q, q ∈ X → q ∉ [1, 2, 31, 7, 30, 8, 32, 26, 27, 34, 16, 17, 18]) : Kp M M' := by
  have key : ∀ q, q ∈ [1, 2, 31, 7, 30, 8, 32, 26, 27, 34, 16, 17, 18] → M' q = M q := fun q hq => hs q (fun e => h q e hq)
  refine ⟨key _ (by decide), key _ (by decide), key _ (by decide), ?_, ?_, key _ (by decide), key _ (by decide), ?_, ?_, key _ (by decide), key _ (by decide), ?_, ?_, ?_⟩ <;> rw [key _ (by decide)]
theorem isC_cong {M M' : mm_M} {o B L n : Nat} {g : Nat → Sg} (h1 : M' o = M o) (h2 : M' (o + 1) = M (o + 1)) (h : isC M o B L n g) : isC M' o B L n g := by
  obtain ⟨a, b, c, d⟩ := h
  exact ⟨by rw [h1, a], by rw [h1, b], by rw [h1, c], fun i hi => by rw [h2, d i hi]⟩
theorem Cur.kp {M M' : mm_M} {B L n : Nat} {g : Nat → Sg} (h : Cur M B L n g) (k : Kp M M') : Cur M' B L n g := by
  obtain ⟨a, b, c, d, e⟩ := h
  exact ⟨a, b, c, isC_cong k.1 k.2.1 d, by rw [k.2.2.1]; exact e⟩
theorem Hst.kp {M M' : mm_M} {h : Nat} {H : Nat → St} (hh : Hst M h H) (k : Kp M M') : Hst M' h H := by
  obtain ⟨a, b, c, d⟩ := hh
  exact ⟨a, by rw [k.2.2.2.1, b], by rw [k.2.2.2.2.1, c], by rw [k.2.2.2.2.2.1, k.2.2.2.2.2.2.1]; exact d⟩
theorem Txt.kp {M M' : mm_M} {t : Nat} {c : Nat → Nat} (hh : Txt M t c) (k : Kp M M') : Txt M' t c := by
  obtain ⟨a, b, c, d⟩ := hh
  exact ⟨a, by rw [k.2.2.2.2.2.2.2.1, b], by rw [k.2.2.2.2.2.2.2.2.1, c], by rw [k.2.2.2.2.2.2.2.2.2.1, k.2.2.2.2.2.2.2.2.2.2.1]; exact d⟩
theorem Wlk.kp {M M' : mm_M} (hh : Wlk M) (k : Kp M M') : Wlk M' := by
  obtain ⟨a, b, c⟩ := hh
  obtain ⟨k1, k2, k3⟩ := k.2.2.2.2.2.2.2.2.2.2.2
  exact ⟨by rw [k1, a], by rw [k2, b], by rw [k3, c]⟩
theorem Inv.kp {M M' : mm_M} (h : Inv M) (k : Kp M M') : Inv M' := by
  obtain ⟨⟨B, L, n, g, h1⟩, ⟨hh, H, h2⟩, ⟨t, c, h3⟩, h4⟩ := h
  exact ⟨⟨B, L, n, g, h1.kp k⟩, ⟨hh, H, h2.kp k⟩, ⟨t, c, h3.kp k⟩, h4.kp k⟩
/-- a pair of questions -/
theorem pair_q {M : mm_M} {kx km : Nat} {as : List mm_V} (hI : Inv M) (v : Int32) (hx : wc kx (.inr 0 :: as) M (fun r M1 => r = some v ∧ Kp M M1)) (hm : ∀ M1, Kp M M1 → wc km (.inr 30 :: as) M1 (fun r M2 => r = some v ∧ Kp M1 M2)) : lw_pair Inv M kx km as := by
  refine wc_mono hx (fun r M1 h => ⟨v, h.1, ?_⟩)
  exact wc_mono (hm M1 h.2) (fun r2 M2 h2 => ⟨h2.1, (hI.kp h.2).kp h2.2⟩)
section HLP
variable {M : mm_M} {Q : mm_Q}
theorem p_isSpan {b l : Int32} : wc 93 [.inr 0, .inl b, .inl l] M Q ↔ Q (some (bI (decide ((nI 0 ≤ b ∧ b ≤ M 1 0 - nI 1) ∧ (nI 1 ≤ l ∧ l ≤ M 1 0 - b))))) M := by
  simp (disch := first | assumption | exact isSc1 | exact isSc3 | exact isSc5 | decide | omega) only [eX7_isSpan, iX7_isSpan_0, iX7_isSpan_1, iX7_isSpan_2, iX7_isSpan_5, iX7_isSpan_8, iX7_isSpan_9, iX7_isSpan_10, iX7_isSpan_11, iX7_isSpan_14, iX7_isSpan_17, iX7_isSpan_18, iX7_isSpan_19, iX7_isSpan_22, iX7_isSpan_25, iX7_isSpan_26, iX7_isSpan_29, iX7_isSpan_30, Nat.reduceAdd, Nat.reduceSub, Nat.reduceMul, Nat.reduceLeDiff, mm_rv_s, mm_rv_n, true_and, and_true, if_true, if_false, not_true_eq_false, not_false_eq_true, nI_add, nz_0, nz_lt0, nz_0le, nz_0lt, nz_le0, nz_lt, nz_le, nz_eq, nz_cl, nz_in, nz_sub, nz_m1, pk_mul, set_o, set_ne, up_ne, up_set, n1_1, true_or, or_true, n1_01, n0_01, bI_01, bI_01b, bI_0, isSc1, isSc3, isSc5, ln_2, ln_4, ln_6, ln_8, ln_10, ln_11, ln_12, ln_13, ln_14, ln_16, ln_17, ln_18, ln_19, ln_20, ln_21, ln_23, ln_24, ln_25, ln_27, ln_28, ln_29, ln_31, ln_32, ln_33, ln_35, ln_36, ln_37, p_isBeat]
  by_cases h1 : nI 0 ≤ b ∧ b ≤ M 1 0 - nI 1
  · simp only [h1, and_self, decide_true, Bool.true_eq_false, if_false, true_and]
    simp (disch := first | assumption | exact isSc1 | exact isSc3 | exact isSc5 | decide | omega) only [iX7_isSpan_0, iX7_isSpan_1, iX7_isSpan_2, iX7_isSpan_5, iX7_isSpan_8, iX7_isSpan_9, iX7_isSpan_10, iX7_isSpan_11, iX7_isSpan_14, iX7_isSpan_17, iX7_isSpan_18, iX7_isSpan_19, iX7_isSpan_22, iX7_isSpan_25, iX7_isSpan_26, iX7_isSpan_29, iX7_isSpan_30, Nat.reduceAdd, Nat.reduceSub, Nat.reduceMul, Nat.reduceLeDiff, mm_rv_s, mm_rv_n, true_and, and_true, if_true, if_false, not_true_eq_false, not_false_eq_true, nI_add, nz_0, nz_lt0, nz_0le, nz_0lt, nz_le0, nz_lt, nz_le, nz_eq, nz_cl, nz_in, nz_sub, nz_m1, pk_mul, set_o, set_ne, up_ne, up_set, n1_1, true_or, or_true, n1_01, n0_01, bI_01, bI_01b, bI_0, isSc1, isSc3, isSc5, ln_2, ln_4, ln_6, ln_8, ln_10, ln_11, ln_12, ln_13, ln_14, ln_16, ln_17, ln_18, ln_19, ln_20, ln_21, ln_23, ln_24, ln_25, ln_27, ln_28, ln_29, ln_31, ln_32, ln_33, ln_35, ln_36, ln_37, p_isWithin]
    by_cases h2 : nI 1 ≤ l ∧ l ≤ M 1 0 - b
    · simp [h2, bI]
    · simp [h2, bI]
  · simp [h1, bI]
theorem m_isSpan {b l : Int32} : wc 110 [.inr 30, .inl b, .inl l] M Q ↔ Q (some (bI (decide ((nI 0 ≤ b ∧ b ≤ M 31 0 - nI 1) ∧ (nI 1 ≤ l ∧ l ≤ M 31 0 - b))))) M := by
  simp (disch := first | assumption | exact isSc1 | exact isSc3 | exact isSc5 | decide | omega) only [eX8_isSpan, iX8_isSpan_0, iX8_isSpan_1, iX8_isSpan_2, iX8_isSpan_5, iX8_isSpan_8, iX8_isSpan_9, iX8_isSpan_10, iX8_isSpan_11, iX8_isSpan_14, iX8_isSpan_15, iX8_isSpan_16, iX8_isSpan_17, iX8_isSpan_18, iX8_isSpan_21, iX8_isSpan_24, iX8_isSpan_25, iX8_isSpan_28, iX8_isSpan_29, Nat.reduceAdd, Nat.reduceSub, Nat.reduceMul, Nat.reduceLeDiff, mm_rv_s, mm_rv_n, true_and, and_true, if_true, if_false, not_true_eq_false, not_false_eq_true, nI_add, nz_0, nz_lt0, nz_0le, nz_0lt, nz_le0, nz_lt, nz_le, nz_eq, nz_cl, nz_in, nz_sub, nz_m1, pk_mul, set_o, set_ne, up_ne, up_set, n1_1, true_or, or_true, n1_01, n0_01, bI_01, bI_01b, bI_0, isSc1, isSc3, isSc5, ln_2, ln_4, ln_6, ln_8, ln_10, ln_11, ln_12, ln_13, ln_14, ln_16, ln_17, ln_18, ln_19, ln_20, ln_21, ln_23, ln_24, ln_25, ln_27, ln_28, ln_29, ln_31, ln_32, ln_33, ln_35, ln_36, ln_37, p_isBeatM]
  by_cases h1 : nI 0 ≤ b ∧ b ≤ M 31 0 - nI 1
  · simp only [h1, and_self, decide_true, Bool.true_eq_false, if_false, true_and]
    simp (disch := first | assumption | exact isSc1 | exact isSc3 | exact isSc5 | decide | omega) only [iX8_isSpan_0, iX8_isSpan_1, iX8_isSpan_2, iX8_isSpan_5, iX8_isSpan_8, iX8_isSpan_9, iX8_isSpan_10, iX8_isSpan_11, iX8_isSpan_14, iX8_isSpan_15, iX8_isSpan_16, iX8_isSpan_17, iX8_isSpan_18, iX8_isSpan_21, iX8_isSpan_24, iX8_isSpan_25, iX8_isSpan_28, iX8_isSpan_29, Nat.reduceAdd, Nat.reduceSub, Nat.reduceMul, Nat.reduceLeDiff, mm_rv_s, mm_rv_n, true_and, and_true, if_true, if_false, not_true_eq_false, not_false_eq_true, nI_add, nz_0, nz_lt0, nz_0le, nz_0lt, nz_le0, nz_lt, nz_le, nz_eq, nz_cl, nz_in, nz_sub, nz_m1, pk_mul, set_o, set_ne, up_ne, up_set, n1_1, true_or, or_true, n1_01, n0_01, bI_01, bI_01b, bI_0, isSc1, isSc3, isSc5, ln_2, ln_4, ln_6, ln_8, ln_10, ln_11, ln_12, ln_13, ln_14, ln_16, ln_17, ln_18, ln_19, ln_20, ln_21, ln_23, ln_24, ln_25, ln_27, ln_28, ln_29, ln_31, ln_32, ln_33, ln_35, ln_36, ln_37, p_in]
    by_cases h2 : nI 1 ≤ l ∧ l ≤ M 31 0 - b
    · simp [h2, bI]
    · simp [h2, bI]
  · simp [h1, bI]
theorem p_isPhrase {b l : Int32} : wc 94 [.inr 0, .inl b, .inl l] M Q ↔ Q (some (bI (decide ((nI 0 ≤ b ∧ b ≤ M 1 0 - nI 1) ∧ (b + nI 1 ≤ l ∧ l ≤ M 1 0))))) M := by
  simp (disch := first | assumption | exact isSc1 | exact isSc3 | exact isSc5 | decide | omega) only [eX7_isPhrase, iX7_isPhrase_0, iX7_isPhrase_1, iX7_isPhrase_2, iX7_isPhrase_5, iX7_isPhrase_8, iX7_isPhrase_9, iX7_isPhrase_10, iX7_isPhrase_11, iX7_isPhrase_12, iX7_isPhrase_13, iX7_isPhrase_16, iX7_isPhrase_19, iX7_isPhrase_22, iX7_isPhrase_25, iX7_isPhrase_26, iX7_isPhrase_29, iX7_isPhrase_30, Nat.reduceAdd, Nat.reduceSub, Nat.reduceMul, Nat.reduceLeDiff, mm_rv_s, mm_rv_n, true_and, and_true, if_true, if_false, not_true_eq_false, not_false_eq_true, nI_add, nz_0, nz_lt0, nz_0le, nz_0lt, nz_le0, nz_lt, nz_le, nz_eq, nz_cl, nz_in, nz_sub, nz_m1, pk_mul, set_o, set_ne, up_ne, up_set, n1_1, true_or, or_true, n1_01, n0_01, bI_01, bI_01b, bI_0, isSc1, isSc3, isSc5, ln_2, ln_4, ln_6, ln_8, ln_10, ln_11, ln_12, ln_13, ln_14, ln_16, ln_17, ln_18, ln_19, ln_20, ln_21, ln_23, ln_24, ln_25, ln_27, ln_28, ln_29, ln_31, ln_32, ln_33, ln_35, ln_36, ln_37, p_isBeat]
  by_cases h1 : nI 0 ≤ b ∧ b ≤ M 1 0 - nI 1
  · simp only [h1, and_self, decide_true, Bool.true_eq_false, if_false, true_and]
    simp (disch := first | assumption | exact isSc1 | exact isSc3 | exact isSc5 | decide | omega) only [iX7_isPhrase_0, iX7_isPhrase_1, iX7_isPhrase_2, iX7_isPhrase_5, iX7_isPhrase_8, iX7_isPhrase_9, iX7_isPhrase_10, iX7_isPhrase_11, iX7_isPhrase_12, iX7_isPhrase_13, iX7_isPhrase_16, iX7_isPhrase_19, iX7_isPhrase_22, iX7_isPhrase_25, iX7_isPhrase_26, iX7_isPhrase_29, iX7_isPhrase_30, Nat.reduceAdd, Nat.reduceSub, Nat.reduceMul, Nat.reduceLeDiff, mm_rv_s, mm_rv_n, true_and, and_true, if_true, if_false, not_true_eq_false, not_false_eq_true, nI_add, nz_0, nz_lt0, nz_0le, nz_0lt, nz_le0, nz_lt, nz_le, nz_eq, nz_cl, nz_in, nz_sub, nz_m1, pk_mul, set_o, set_ne, up_ne, up_set, n1_1, true_or, or_true, n1_01, n0_01, bI_01, bI_01b, bI_0, isSc1, isSc3, isSc5, ln_2, ln_4, ln_6, ln_8, ln_10, ln_11, ln_12, ln_13, ln_14, ln_16, ln_17, ln_18, ln_19, ln_20, ln_21, ln_23, ln_24, ln_25, ln_27, ln_28, ln_29, ln_31, ln_32, ln_33, ln_35, ln_36, ln_37, p_isWithin]
    by_cases h2 : b + nI 1 ≤ l ∧ l ≤ M 1 0
    · simp [h2, bI]
    · simp [h2, bI]
  · simp [h1, bI]
theorem m_isSign {v : Int32} : wc 102 [.inr 30, .inl v] M Q ↔ Q (some (bI (decide (nI 0 ≤ v ∧ v ≤ M 31 2 - nI 1)))) M := by
  simp (disch := first | assumption | exact isSc1 | exact isSc3 | exact isSc5 | decide | omega) only [eX8_isSign, iX8_isSign_0, iX8_isSign_1, iX8_isSign_2, iX8_isSign_3, iX8_isSign_6, iX8_isSign_7, iX8_isSign_8, iX8_isSign_9, iX8_isSign_10, iX8_isSign_13, Nat.reduceAdd, Nat.reduceSub, Nat.reduceMul, Nat.reduceLeDiff, mm_rv_s, mm_rv_n, true_and, and_true, if_true, if_false, not_true_eq_false, not_false_eq_true, nI_add, nz_0, nz_lt0, nz_0le, nz_0lt, nz_le0, nz_lt, nz_le, nz_eq, nz_cl, nz_in, nz_sub, nz_m1, pk_mul, set_o, set_ne, up_ne, up_set, n1_1, true_or, or_true, n1_01, n0_01, bI_01, bI_01b, bI_0, isSc1, isSc3, isSc5, ln_2, ln_4, ln_6, ln_8, ln_10, ln_11, ln_12, ln_13, ln_14, ln_16, ln_17, ln_18, ln_19, ln_20, ln_21, ln_23, ln_24, ln_25, ln_27, ln_28, ln_29, ln_31, ln_32, ln_33, ln_35, ln_36, ln_37, p_in]
theorem sub_one {B : Nat} (h : 1 ≤ B) : nI B - nI 1 = nI (B - 1) := pk_sub h
/-- a number between 0 and n - 1, n perhaps 0 -/
theorem in_upto {n : Nat} {v : Int32} (hn : n < 2 ^ 31) (h : nI 0 ≤ v ∧ v ≤ nI n - nI 1) : ∃ i : Nat, v = nI i ∧ i < n := by
  obtain ⟨h1, h2⟩ := h
  cases n with
  | zero =>
    exfalso
    have e : nI 0 - nI 1 = -1 := by decide
    rw [e, Int32.le_iff_toInt_le] at h2
    rw [Int32.le_iff_toInt_le] at h1
    have e1 : (nI 0).toInt = 0 := by decide
    have e2 : (-1 : Int32).toInt = -1 := by decide
    omega
  | succ n =>
    rw [nz_sub _ _ (by omega), Nat.add_sub_cancel] at h2
    obtain ⟨i, rfl, a, b⟩ := in_nat h1 h2 (by decide) (by omega)
    exact ⟨i, rfl, by omega⟩
end HLP
