/-! WHAT THE CLASS HOLDS -/
def Cur (M : mm_M) (B L n : Nat) (g : Nat → Sg) : Prop := Val B n g ∧ n ≤ 60 ∧ L ≤ 8 ∧ isC M 1 B L n g
def okH (S : St) : Prop := Val S.1 S.2.2.1 S.2.2.2 ∧ S.2.2.1 ≤ 60 ∧ S.2.1 ≤ 8
def Hst (M : mm_M) (h : Nat) (H : Nat → St) : Prop := h ≤ 6 ∧ M 7 0 = nI h ∧ ∀ k, k < h → hC (M 8) k (H k) ∧ okH (H k)
def Txt (M : mm_M) (t : Nat) (c : Nat → Nat) : Prop := t ≤ 120 ∧ M 26 0 = nI t ∧ ∀ i, i < t → M 27 i = nI (c i) ∧ 32 ≤ c i ∧ c i ≤ 126
def Wlk (M : mm_M) : Prop := M 16 0 = nI 0 ∧ M 17 0 = nI 0 ∧ M 18 0 = nI 0
/-- what a question leaves as it is -/
def Kp (M M' : mm_M) : Prop := M' 1 = M 1 ∧ M' 2 = M 2 ∧ M' 7 0 = M 7 0 ∧ M' 8 = M 8 ∧ M' 26 0 = M 26 0 ∧ M' 27 = M 27 ∧ M' 16 0 = M 16 0 ∧ M' 17 0 = M 17 0 ∧ M' 18 0 = M 18 0 ∧ M' 42 = M 42 ∧ M' 43 = M 43
theorem Kp.rf (M : mm_M) : Kp M M := ⟨rfl, rfl, rfl, rfl, rfl, rfl, rfl, rfl, rfl, rfl, rfl⟩
theorem Kp.tr {M M1 M2 : mm_M} (h : Kp M M1) (h2 : Kp M1 M2) : Kp M M2 := by
  obtain ⟨a1, a2, a3, a4, a5, a6, a7, a8, a9, a10, a11⟩ := h
  obtain ⟨b1, b2, b3, b4, b5, b6, b7, b8, b9, b10, b11⟩ := h2
  exact ⟨b1.trans a1, b2.trans a2, b3.trans a3, b4.trans a4, b5.trans a5, b6.trans a6, b7.trans a7, b8.trans a8, b9.trans a9, b10.trans a10, b11.trans a11⟩
theorem Kp.set {M : mm_M} {o : Nat} (f : Nat → Int32) (h : o ∉ [1, 2, 7, 8, 26, 27, 16, 17, 18, 42, 43]) : Kp M (mm_set M o f) := by
  have key : ∀ q, q ∈ [1, 2, 7, 8, 26, 27, 16, 17, 18, 42, 43] → mm_set M o f q = M q := fun q hq => set_ne _ _ (fun e => h (e ▸ hq))
  refine ⟨key _ (by decide), key _ (by decide), ?_, key _ (by decide), ?_, key _ (by decide), ?_, ?_, ?_, key _ (by decide), key _ (by decide)⟩ <;> rw [key _ (by decide)]
theorem Kp.same {M M' : mm_M} {X : List Nat} (hs : Same X M M') (h : ∀ q, q ∈ X → q ∉ [1, 2, 7, 8, 26, 27, 16, 17, 18, 42, 43]) : Kp M M' := by
  have key : ∀ q, q ∈ [1, 2, 7, 8, 26, 27, 16, 17, 18, 42, 43] → M' q = M q := fun q hq => hs q (fun e => h q e hq)
  refine ⟨key _ (by decide), key _ (by decide), ?_, key _ (by decide), ?_, key _ (by decide), ?_, ?_, ?_, key _ (by decide), key _ (by decide)⟩ <;> rw [key _ (by decide)]
theorem Kp.walk {M M' : mm_M} (hS : Same [16, 17, 18, 19, 20, 21] M M') (h1 : Wlk M) (h2 : Wlk M') : Kp M M' := by
  obtain ⟨a1, a2, a3⟩ := h1
  obtain ⟨b1, b2, b3⟩ := h2
  refine ⟨hS _ (by decide), hS _ (by decide), ?_, hS _ (by decide), ?_, hS _ (by decide), by rw [b1, a1], by rw [b2, a2], by rw [b3, a3], hS _ (by decide), hS _ (by decide)⟩ <;> rw [hS _ (by decide)]
theorem isC_cong {M M' : mm_M} {o B L n : Nat} {g : Nat → Sg} (h1 : M' o = M o) (h2 : M' (o + 1) = M (o + 1)) (h : isC M o B L n g) : isC M' o B L n g := by
  obtain ⟨a, b, c, d⟩ := h
  exact ⟨by rw [h1, a], by rw [h1, b], by rw [h1, c], fun i hi => by rw [h2, d i hi]⟩
theorem Cur.kp {M M' : mm_M} {B L n : Nat} {g : Nat → Sg} (h : Cur M B L n g) (k : Kp M M') : Cur M' B L n g := by
  obtain ⟨a, b, c, d⟩ := h
  exact ⟨a, b, c, isC_cong k.1 k.2.1 d⟩
theorem Hst.kp {M M' : mm_M} {h : Nat} {H : Nat → St} (hh : Hst M h H) (k : Kp M M') : Hst M' h H := by
  obtain ⟨a, b, d⟩ := hh
  exact ⟨a, by rw [k.2.2.1, b], by rw [k.2.2.2.1]; exact d⟩
theorem Txt.kp {M M' : mm_M} {t : Nat} {c : Nat → Nat} (hh : Txt M t c) (k : Kp M M') : Txt M' t c := by
  obtain ⟨a, b, d⟩ := hh
  exact ⟨a, by rw [k.2.2.2.2.1, b], by rw [k.2.2.2.2.2.1]; exact d⟩
theorem Wlk.kp {M M' : mm_M} (hh : Wlk M) (k : Kp M M') : Wlk M' := by
  obtain ⟨a, b, c⟩ := hh
  obtain ⟨-, -, -, -, -, -, k1, k2, k3, -, -⟩ := k
  exact ⟨by rw [k1, a], by rw [k2, b], by rw [k3, c]⟩
/-- all that the class holds, and the script: X its numbers, V its length -/
def Ste (M : mm_M) (X V : Nat → Int32) (B L n : Nat) (g : Nat → Sg) (h : Nat) (H : Nat → St) (t : Nat) (c : Nat → Nat) : Prop := Cur M B L n g ∧ Hst M h H ∧ Txt M t c ∧ Wlk M ∧ M 42 = X ∧ M 43 = V
theorem Ste.kp {M M' : mm_M} {X V : Nat → Int32} {B L n h t : Nat} {g : Nat → Sg} {H : Nat → St} {c : Nat → Nat} (s : Ste M X V B L n g h H t c) (k : Kp M M') : Ste M' X V B L n g h H t c := by
  obtain ⟨a1, a2, a3, a4, a5, a6⟩ := s
  exact ⟨a1.kp k, a2.kp k, a3.kp k, a4.kp k, by rw [k.2.2.2.2.2.2.2.2.2.1, a5], by rw [k.2.2.2.2.2.2.2.2.2.2, a6]⟩
section HLP
variable {M : mm_M} {Q : mm_Q}
theorem p_isSpan {b l : Int32} : wc 93 [.inr 0, .inl b, .inl l] M Q ↔ Q (some (bI (decide ((nI 0 ≤ b ∧ b ≤ M 1 0 - nI 1) ∧ (nI 1 ≤ l ∧ l ≤ M 1 0 - b))))) M := by
  simp (disch := first | assumption | exact isSc1 | exact isSc3 | exact isSc5 | decide | omega) only [eX7_isSpan, iX7_isSpan_0, iX7_isSpan_1, iX7_isSpan_2, iX7_isSpan_5, iX7_isSpan_8, iX7_isSpan_9, iX7_isSpan_10, iX7_isSpan_11, iX7_isSpan_14, iX7_isSpan_17, iX7_isSpan_18, iX7_isSpan_19, iX7_isSpan_22, iX7_isSpan_25, iX7_isSpan_26, iX7_isSpan_29, iX7_isSpan_30, Nat.reduceAdd, Nat.reduceSub, Nat.reduceMul, Nat.reduceLeDiff, mm_rv_s, mm_rv_n, true_and, and_true, if_true, if_false, not_true_eq_false, not_false_eq_true, nI_add, nz_0, nz_lt0, nz_0le, nz_0lt, nz_le0, nz_lt, nz_le, nz_eq, nz_cl, nz_in, nz_sub, nz_m1, pk_mul, set_o, set_ne, up_ne, up_set, n1_1, true_or, or_true, n1_01, n0_01, bI_01, bI_01b, bI_0, isSc1, isSc3, isSc5, ln_2, ln_4, ln_6, ln_8, ln_10, ln_11, ln_12, ln_13, ln_14, ln_16, ln_17, ln_18, ln_19, ln_20, ln_21, ln_23, ln_24, ln_25, ln_27, ln_28, ln_29, p_isBeat]
  by_cases h1 : nI 0 ≤ b ∧ b ≤ M 1 0 - nI 1
  · simp only [h1, and_self, decide_true, Bool.true_eq_false, if_false, true_and]
    simp (disch := first | assumption | exact isSc1 | exact isSc3 | exact isSc5 | decide | omega) only [iX7_isSpan_0, iX7_isSpan_1, iX7_isSpan_2, iX7_isSpan_5, iX7_isSpan_8, iX7_isSpan_9, iX7_isSpan_10, iX7_isSpan_11, iX7_isSpan_14, iX7_isSpan_17, iX7_isSpan_18, iX7_isSpan_19, iX7_isSpan_22, iX7_isSpan_25, iX7_isSpan_26, iX7_isSpan_29, iX7_isSpan_30, Nat.reduceAdd, Nat.reduceSub, Nat.reduceMul, Nat.reduceLeDiff, mm_rv_s, mm_rv_n, true_and, and_true, if_true, if_false, not_true_eq_false, not_false_eq_true, nI_add, nz_0, nz_lt0, nz_0le, nz_0lt, nz_le0, nz_lt, nz_le, nz_eq, nz_cl, nz_in, nz_sub, nz_m1, pk_mul, set_o, set_ne, up_ne, up_set, n1_1, true_or, or_true, n1_01, n0_01, bI_01, bI_01b, bI_0, isSc1, isSc3, isSc5, ln_2, ln_4, ln_6, ln_8, ln_10, ln_11, ln_12, ln_13, ln_14, ln_16, ln_17, ln_18, ln_19, ln_20, ln_21, ln_23, ln_24, ln_25, ln_27, ln_28, ln_29, p_isWithin]
    by_cases h2 : nI 1 ≤ l ∧ l ≤ M 1 0 - b
    · simp [h2, bI]
    · simp [h2, bI]
  · simp [h1, bI]
theorem p_isPhrase {b l : Int32} : wc 94 [.inr 0, .inl b, .inl l] M Q ↔ Q (some (bI (decide ((nI 0 ≤ b ∧ b ≤ M 1 0 - nI 1) ∧ (b + nI 1 ≤ l ∧ l ≤ M 1 0))))) M := by
  simp (disch := first | assumption | exact isSc1 | exact isSc3 | exact isSc5 | decide | omega) only [eX7_isPhrase, iX7_isPhrase_0, iX7_isPhrase_1, iX7_isPhrase_2, iX7_isPhrase_5, iX7_isPhrase_8, iX7_isPhrase_9, iX7_isPhrase_10, iX7_isPhrase_11, iX7_isPhrase_12, iX7_isPhrase_13, iX7_isPhrase_16, iX7_isPhrase_19, iX7_isPhrase_22, iX7_isPhrase_25, iX7_isPhrase_26, iX7_isPhrase_29, iX7_isPhrase_30, Nat.reduceAdd, Nat.reduceSub, Nat.reduceMul, Nat.reduceLeDiff, mm_rv_s, mm_rv_n, true_and, and_true, if_true, if_false, not_true_eq_false, not_false_eq_true, nI_add, nz_0, nz_lt0, nz_0le, nz_0lt, nz_le0, nz_lt, nz_le, nz_eq, nz_cl, nz_in, nz_sub, nz_m1, pk_mul, set_o, set_ne, up_ne, up_set, n1_1, true_or, or_true, n1_01, n0_01, bI_01, bI_01b, bI_0, isSc1, isSc3, isSc5, ln_2, ln_4, ln_6, ln_8, ln_10, ln_11, ln_12, ln_13, ln_14, ln_16, ln_17, ln_18, ln_19, ln_20, ln_21, ln_23, ln_24, ln_25, ln_27, ln_28, ln_29, p_isBeat]
  by_cases h1 : nI 0 ≤ b ∧ b ≤ M 1 0 - nI 1
  · simp only [h1, and_self, decide_true, Bool.true_eq_false, if_false, true_and]
    simp (disch := first | assumption | exact isSc1 | exact isSc3 | exact isSc5 | decide | omega) only [iX7_isPhrase_0, iX7_isPhrase_1, iX7_isPhrase_2, iX7_isPhrase_5, iX7_isPhrase_8, iX7_isPhrase_9, iX7_isPhrase_10, iX7_isPhrase_11, iX7_isPhrase_12, iX7_isPhrase_13, iX7_isPhrase_16, iX7_isPhrase_19, iX7_isPhrase_22, iX7_isPhrase_25, iX7_isPhrase_26, iX7_isPhrase_29, iX7_isPhrase_30, Nat.reduceAdd, Nat.reduceSub, Nat.reduceMul, Nat.reduceLeDiff, mm_rv_s, mm_rv_n, true_and, and_true, if_true, if_false, not_true_eq_false, not_false_eq_true, nI_add, nz_0, nz_lt0, nz_0le, nz_0lt, nz_le0, nz_lt, nz_le, nz_eq, nz_cl, nz_in, nz_sub, nz_m1, pk_mul, set_o, set_ne, up_ne, up_set, n1_1, true_or, or_true, n1_01, n0_01, bI_01, bI_01b, bI_0, isSc1, isSc3, isSc5, ln_2, ln_4, ln_6, ln_8, ln_10, ln_11, ln_12, ln_13, ln_14, ln_16, ln_17, ln_18, ln_19, ln_20, ln_21, ln_23, ln_24, ln_25, ln_27, ln_28, ln_29, p_isWithin]
    by_cases h2 : b + nI 1 ≤ l ∧ l ≤ M 1 0
    · simp [h2, bI]
    · simp [h2, bI]
  · simp [h1, bI]
theorem sub_one {B : Nat} (h : 1 ≤ B) : nI B - nI 1 = nI (B - 1) := pk_sub h
/-- a number between 0 and n - 1, n perhaps 0 -/
theorem in_upto {n : Nat} {v : Int32} (hn : n < 2 ^ 31) (h : nI 0 ≤ v ∧ v ≤ nI n - nI 1) : ∃ i : Nat, v = nI i ∧ i < n := by
  obtain ⟨h1, h2⟩ := h
  cases n with
  | zero =>
    exfalso
    have e : nI 0 - nI 1 = -1 := by decide
    rw [e, Int32.le_iff_toInt_le] at h2
    rw [Int32.le_iff_toInt_le] at h1
    have e1 : (nI 0).toInt = 0 := by decide
    have e2 : (-1 : Int32).toInt = -1 := by decide
    omega
  | succ n =>
    rw [nz_sub _ _ (by omega), Nat.add_sub_cancel] at h2
    obtain ⟨i, rfl, a, b⟩ := in_nat h1 h2 (by decide) (by omega)
    exact ⟨i, rfl, by omega⟩
end HLP

