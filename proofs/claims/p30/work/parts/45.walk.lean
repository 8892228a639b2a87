/-! THE WALK: sums, and the class's short methods -/
def sumI (f : Nat → Int) : Nat → Int
  | 0 => 0
  | i + 1 => sumI f i + f i
theorem sumI_s (f : Nat → Int) (i : Nat) : sumI f (i + 1) = sumI f i + f i := rfl
theorem sumI_add (f h : Nat → Int) : ∀ n, sumI (fun i => f i + h i) n = sumI f n + sumI h n := by
  intro n
  induction n with
  | zero => rfl
  | succ n ih => rw [sumI_s, sumI_s, sumI_s, ih]; omega
theorem sumI_congr {f h : Nat → Int} : ∀ n, (∀ i, i < n → f i = h i) → sumI f n = sumI h n := by
  intro n
  induction n with
  | zero => intro _; rfl
  | succ n ih =>
    intro hh
    rw [sumI_s, sumI_s, ih (fun i hi => hh i (by omega)), hh n (by omega)]
theorem sumI_zero {f : Nat → Int} : ∀ n, (∀ i, i < n → f i = 0) → sumI f n = 0 := by
  intro n
  induction n with
  | zero => intro _; rfl
  | succ n ih =>
    intro hh
    rw [sumI_s, ih (fun i hi => hh i (by omega)), hh n (by omega)]
    rfl
theorem sumI_le {f : Nat → Int} {m : Nat} : ∀ n, (∀ i, i < n → -(m : Int) ≤ f i ∧ f i ≤ m) → -((m * n : Nat) : Int) ≤ sumI f n ∧ sumI f n ≤ ((m * n : Nat) : Int) := by
  intro n
  induction n with
  | zero => intro _; simp [sumI]
  | succ n ih =>
    intro hh
    obtain ⟨a, b⟩ := ih (fun i hi => hh i (by omega))
    obtain ⟨c, d⟩ := hh n (by omega)
    have e : ((m * (n + 1) : Nat) : Int) = ((m * n : Nat) : Int) + m := by rw [Nat.mul_succ]; omega
    rw [sumI_s, e]
    omega
def opI (v : Nat → Int) (x : Option Nat) : Int := match x with
  | some i => v i
  | none => 0
/-- where at most one is told, the sum is the one found last -/
theorem sum_one {p : Nat → Bool} {v : Nat → Int} : ∀ n, (∀ i j, i < n → j < n → p i = true → p j = true → i = j) → sumI (fun i => if p i = true then v i else 0) n = opI v (lastF p n) := by
  intro n
  induction n with
  | zero => intro _; rfl
  | succ n ih =>
    intro hu
    rw [sumI_s]
    by_cases hp : p n = true
    · have e : lastF p (n + 1) = some n := by simp only [lastF, hp, if_true]
      rw [e, if_pos hp, sumI_zero n (fun i hi => ?_)]
      · simp [opI]
      · rw [if_neg (fun hpi => ?_)]
        have := hu i n (by omega) (by omega) hpi hp
        omega
    · have e : lastF p (n + 1) = lastF p n := by simp only [lastF, hp, if_false]; rfl
      rw [e, if_neg hp, ih (fun i j hi hj => hu i j (by omega) (by omega))]
      omega
def seN (s : Sg) : Nat := sB s + sS s
def tnP (g : Nat → Sg) (t : Nat) : Nat → Bool := fun i => decide (sK (g i) = 2 ∧ seN (g i) = t)
def mvP (g : Nat → Sg) (c t : Nat) : Nat → Bool := fun i => decide (sK (g i) = 0 ∧ sC (g i) = c ∧ seN (g i) = t)
def tnV (g : Nat → Sg) (n t : Nat) : Int := opI (fun i => sW (g i)) (lastF (tnP g t) n)
def lst (g : Nat → Sg) (n c t : Nat) : Option Nat := lastF (mvP g c t) n
theorem end_one {B n : Nat} {g : Nat → Sg} (hv : Val B n g) {i j : Nat} (hi : i < n) (hj : j < n) (hc : sC (g i) = sC (g j)) (he : seN (g i) = seN (g j)) : i = j := by
  obtain ⟨w1, w2, w3, v1, v2, v3⟩ := hv
  unfold seN at he
  have p1 := (okS_b (v1 i hi).1).2.2.1
  have p2 := (okS_b (v1 j hj).1).2.2.1
  rcases Nat.lt_trichotomy i j with h | h | h
  · have := v3 i j h hj hc
    omega
  · exact h
  · have := v3 j i h hi hc.symm
    omega
def facI (g : Nat → Sg) (n t : Nat) : Int := sumI (fun i => if sK (g i) = 2 ∧ seN (g i) ≤ t then sW (g i) else 0) n
def fcN (g : Nat → Sg) (n t : Nat) : Nat := (facI g n t % 8).toNat
theorem fcN_lt (g : Nat → Sg) (n t : Nat) : fcN g n t < 8 := by unfold fcN; omega
theorem facI_0 {B n : Nat} {g : Nat → Sg} (hv : Val B n g) : facI g n 0 = 0 := by
  refine sumI_zero n (fun i hi => ?_)
  rw [if_neg]
  rintro ⟨-, h⟩
  have := (okS_b (hv.2.2.2.1 i hi).1).2.2.1
  unfold seN at h
  omega
theorem facI_s {B n : Nat} {g : Nat → Sg} (hv : Val B n g) (t : Nat) : facI g n (t + 1) = facI g n t + tnV g n (t + 1) := by
  unfold facI tnV
  rw [← sum_one n (fun i j hi hj h1 h2 => ?_), ← sumI_add]
  · refine sumI_congr n (fun i hi => ?_)
    unfold tnP
    simp only [decide_eq_true_eq]
    by_cases h1 : sK (g i) = 2
    · by_cases h2 : seN (g i) ≤ t
      · rw [if_pos ⟨h1, by omega⟩, if_pos ⟨h1, h2⟩, if_neg (by omega)]; omega
      · by_cases h3 : seN (g i) = t + 1
        · rw [if_pos ⟨h1, by omega⟩, if_neg (by omega), if_pos ⟨h1, h3⟩]; omega
        · rw [if_neg (by omega), if_neg (by omega), if_neg (by omega)]; omega
    · rw [if_neg (fun z => h1 z.1), if_neg (fun z => h1 z.1), if_neg (fun z => h1 z.1)]; omega
  · unfold tnP at h1 h2
    simp only [decide_eq_true_eq] at h1 h2
    have a := (hv.2.2.2.1 i hi).1.2.2.2.2.2.1 h1.1
    have b := (hv.2.2.2.1 j hj).1.2.2.2.2.2.1 h2.1
    exact end_one hv hi hj (by omega) (by omega)
theorem okS_w {s : Sg} (h : okS s) : -8 ≤ sW s ∧ sW s ≤ 8 := by
  obtain ⟨h1, h2, h3, h4, h5, h6, h7⟩ := h
  rcases (show sK s = 0 ∨ sK s = 1 ∨ sK s = 2 ∨ sK s = 3 by omega) with h | h | h | h
  · have := h4 h; omega
  · have := h5 h; omega
  · have := h6 h; omega
  · have := h7 h; omega
theorem tnV_le {B n : Nat} {g : Nat → Sg} (hv : Val B n g) (t : Nat) : -8 ≤ tnV g n t ∧ tnV g n t ≤ 8 := by
  unfold tnV
  cases h : lastF (tnP g t) n with
  | none => simp [opI]
  | some i => exact okS_w (hv.2.2.2.1 i (lastF_some h).1).1
/-- the unit of a facing along an axis -/
def unI (b : Bool) (f : Nat) : Int := let h := if b = true then (f + 6) % 8 else f
  if h = 2 ∨ h = 6 then 0 else if 2 < h ∧ h < 6 then -1 else 1
theorem ux_eq : ∀ f : Nat, f < 8 → mm_ux f = iZ (unI true f) := by decide +kernel
theorem uy_eq : ∀ f : Nat, f < 8 → mm_uy f = iZ (unI false f) := by decide +kernel
section WK
variable {B L n : Nat} {g : Nat → Sg} {M : mm_M} {Q : mm_Q}
theorem fm_key : ∀ k : Nat, k < 24 → (if 0 ≤ (iZ ((k : Int) - 8) ^^^ nI 8) then iZ ((k : Int) - 8) - iZ ((k : Int) - 8) / nI 8 * nI 8 else if iZ ((k : Int) - 8) - iZ ((k : Int) - 8) / nI 8 * nI 8 = 0 then iZ ((k : Int) - 8) - iZ ((k : Int) - 8) / nI 8 * nI 8 else iZ ((k : Int) - 8) - iZ ((k : Int) - 8) / nI 8 * nI 8 + nI 8) = nI (((k : Int) - 8) % 8).toNat := by decide +kernel
theorem p_floorMod {z : Int} (h1 : -8 ≤ z) (h2 : z ≤ 15) : wc 164 [.inl (iZ z), .inl (nI 8)] M Q ↔ Q (some (nI (z % 8).toNat)) M := by
  have n8 : ¬ nI 8 = 0 := by decide
  have key := fm_key (z + 8).toNat (by omega)
  have e : ((z + 8).toNat : Int) - 8 = z := by omega
  rw [e] at key
  rw [← key]
  simp (disch := first | assumption | exact isSc1 | exact isSc3 | exact isSc5 | decide | omega) only [eJ9_floorMod_7cf53, iJ9_floorMod_7cf53_0, iJ9_floorMod_7cf53_1, iJ9_floorMod_7cf53_2, iJ9_floorMod_7cf53_3, iJ9_floorMod_7cf53_4, iJ9_floorMod_7cf53_5, iJ9_floorMod_7cf53_6, iJ9_floorMod_7cf53_7, iJ9_floorMod_7cf53_10, iJ9_floorMod_7cf53_11, iJ9_floorMod_7cf53_14, iJ9_floorMod_7cf53_15, iJ9_floorMod_7cf53_16, iJ9_floorMod_7cf53_17, iJ9_floorMod_7cf53_18, iJ9_floorMod_7cf53_19, n8, not_false_eq_true, true_and]
  split
  · rfl
  · split <;> rfl
def nEnd (M : mm_M) (s : Sg) : mm_M := if sK s = 2 then mm_up M 19 (seN s) (iZ (sW s)) else if sK s = 0 ∧ sC s = 0 then mm_up M 20 (seN s) (nI (pk s)) else if sK s = 0 ∧ sC s = 1 then mm_up M 21 (seN s) (nI (pk s)) else M
theorem p_noteEnd {s : Sg} (hs : okS s) (hb : seN s ≤ 48) : wc 48 [.inr 15, .inl (nI (pk s))] M Q ↔ Q none (nEnd M s) := by
  have hb2 : sB s < 128 := by unfold seN at hb; omega
  have hb3 : sB s + sS s ≤ 48 := hb
  have o := okS_b hs
  have hk := hs.2.1
  have hc := hs.1
  unfold nEnd
  simp (disch := first | assumption | exact isSc1 | exact isSc3 | exact isSc5 | decide | omega) only [eX5_noteEnd, iX5_noteEnd_0, iX5_noteEnd_1, iX5_noteEnd_4, iX5_noteEnd_5, iX5_noteEnd_6, iX5_noteEnd_7, iX5_noteEnd_10, iX5_noteEnd_11, iX5_noteEnd_14, iX5_noteEnd_15, iX5_noteEnd_16, iX5_noteEnd_19, iX5_noteEnd_20, Nat.reduceAdd, Nat.reduceSub, Nat.reduceMul, Nat.reduceLeDiff, mm_rv_s, mm_rv_n, true_and, and_true, if_true, if_false, not_true_eq_false, not_false_eq_true, nI_add, nz_0, nz_lt0, nz_0le, nz_0lt, nz_le0, nz_lt, nz_le, nz_eq, nz_cl, nz_in, nz_sub, nz_m1, pk_mul, set_o, set_ne, up_ne, up_set, n1_1, true_or, or_true, n1_01, n0_01, bI_01, bI_01b, bI_0, isSc1, isSc3, isSc5, ln_2, ln_4, ln_6, ln_8, ln_10, ln_11, ln_12, ln_13, ln_14, ln_16, ln_17, ln_18, ln_19, ln_20, ln_21, ln_23, ln_24, ln_25, ln_27, ln_28, ln_29, g_shortEndOf hs hb2, show ¬ 49 ≤ sB s + sS s by omega, show sB s + sS s < 49 by omega, g_kindOf hs hb2]
  by_cases k2 : sK s = 2
  · have eA : sA s = sW s := by unfold sA; rw [if_pos k2]
    have e0 : ¬ 2 = 0 := by decide
    simp (disch := first | assumption | exact isSc1 | exact isSc3 | exact isSc5 | decide | omega) only [iX5_noteEnd_23, iX5_noteEnd_24, iX5_noteEnd_27, iX5_noteEnd_28, iX5_noteEnd_29, iX5_noteEnd_32, iX5_noteEnd_33, iX5_noteEnd_36, iX5_noteEnd_37, iX5_noteEnd_40, iX5_noteEnd_43, iX5_noteEnd_44, iX5_noteEnd_45, iX5_noteEnd_46, iX5_noteEnd_49, Nat.reduceAdd, Nat.reduceSub, Nat.reduceMul, Nat.reduceLeDiff, mm_rv_s, mm_rv_n, true_and, and_true, if_true, if_false, not_true_eq_false, not_false_eq_true, nI_add, nz_0, nz_lt0, nz_0le, nz_0lt, nz_le0, nz_lt, nz_le, nz_eq, nz_cl, nz_in, nz_sub, nz_m1, pk_mul, set_o, set_ne, up_ne, up_set, n1_1, true_or, or_true, n1_01, n0_01, bI_01, bI_01b, bI_0, isSc1, isSc3, isSc5, ln_2, ln_4, ln_6, ln_8, ln_10, ln_11, ln_12, ln_13, ln_14, ln_16, ln_17, ln_18, ln_19, ln_20, ln_21, ln_23, ln_24, ln_25, ln_27, ln_28, ln_29, k2, g_amountOf hs hb2, eA]
    exact Iff.rfl
  · simp (disch := first | assumption | exact isSc1 | exact isSc3 | exact isSc5 | decide | omega) only [iX5_noteEnd_36, iX5_noteEnd_37, Nat.reduceAdd, Nat.reduceSub, Nat.reduceMul, Nat.reduceLeDiff, mm_rv_s, mm_rv_n, true_and, and_true, if_true, if_false, not_true_eq_false, not_false_eq_true, nI_add, nz_0, nz_lt0, nz_0le, nz_0lt, nz_le0, nz_lt, nz_le, nz_eq, nz_cl, nz_in, nz_sub, nz_m1, pk_mul, set_o, set_ne, up_ne, up_set, n1_1, true_or, or_true, n1_01, n0_01, bI_01, bI_01b, bI_0, isSc1, isSc3, isSc5, ln_2, ln_4, ln_6, ln_8, ln_10, ln_11, ln_12, ln_13, ln_14, ln_16, ln_17, ln_18, ln_19, ln_20, ln_21, ln_23, ln_24, ln_25, ln_27, ln_28, ln_29, k2, g_kindOf hs hb2]
    by_cases k0 : sK s = 0
    · simp (disch := first | assumption | exact isSc1 | exact isSc3 | exact isSc5 | decide | omega) only [iX5_noteEnd_40, iX5_noteEnd_43, iX5_noteEnd_44, iX5_noteEnd_45, iX5_noteEnd_46, Nat.reduceAdd, Nat.reduceSub, Nat.reduceMul, Nat.reduceLeDiff, mm_rv_s, mm_rv_n, true_and, and_true, if_true, if_false, not_true_eq_false, not_false_eq_true, nI_add, nz_0, nz_lt0, nz_0le, nz_0lt, nz_le0, nz_lt, nz_le, nz_eq, nz_cl, nz_in, nz_sub, nz_m1, pk_mul, set_o, set_ne, up_ne, up_set, n1_1, true_or, or_true, n1_01, n0_01, bI_01, bI_01b, bI_0, isSc1, isSc3, isSc5, ln_2, ln_4, ln_6, ln_8, ln_10, ln_11, ln_12, ln_13, ln_14, ln_16, ln_17, ln_18, ln_19, ln_20, ln_21, ln_23, ln_24, ln_25, ln_27, ln_28, ln_29, k0, eX5_noteStep, iX5_noteStep_0, iX5_noteStep_1, iX5_noteStep_4, iX5_noteStep_7, iX5_noteStep_8, iX5_noteStep_11, iX5_noteStep_12, iX5_noteStep_13, iX5_noteStep_14, iX5_noteStep_17, iX5_noteStep_18, iX5_noteStep_21, iX5_noteStep_22, iX5_noteStep_25, iX5_noteStep_26, iX5_noteStep_29, iX5_noteStep_30, iX5_noteStep_31, iX5_noteStep_32, g_columnOf hs hb2]
      by_cases c0 : sC s = 0
      · simp (disch := first | assumption | exact isSc1 | exact isSc3 | exact isSc5 | decide | omega) only [iX5_noteEnd_49, Nat.reduceAdd, Nat.reduceSub, Nat.reduceMul, Nat.reduceLeDiff, mm_rv_s, mm_rv_n, true_and, and_true, if_true, if_false, not_true_eq_false, not_false_eq_true, nI_add, nz_0, nz_lt0, nz_0le, nz_0lt, nz_le0, nz_lt, nz_le, nz_eq, nz_cl, nz_in, nz_sub, nz_m1, pk_mul, set_o, set_ne, up_ne, up_set, n1_1, true_or, or_true, n1_01, n0_01, bI_01, bI_01b, bI_0, isSc1, isSc3, isSc5, ln_2, ln_4, ln_6, ln_8, ln_10, ln_11, ln_12, ln_13, ln_14, ln_16, ln_17, ln_18, ln_19, ln_20, ln_21, ln_23, ln_24, ln_25, ln_27, ln_28, ln_29, c0, and_self]
        exact Iff.rfl
      · by_cases c1 : sC s = 1
        · simp (disch := first | assumption | exact isSc1 | exact isSc3 | exact isSc5 | decide | omega) only [iX5_noteEnd_49, Nat.reduceAdd, Nat.reduceSub, Nat.reduceMul, Nat.reduceLeDiff, mm_rv_s, mm_rv_n, true_and, and_true, if_true, if_false, not_true_eq_false, not_false_eq_true, nI_add, nz_0, nz_lt0, nz_0le, nz_0lt, nz_le0, nz_lt, nz_le, nz_eq, nz_cl, nz_in, nz_sub, nz_m1, pk_mul, set_o, set_ne, up_ne, up_set, n1_1, true_or, or_true, n1_01, n0_01, bI_01, bI_01b, bI_0, isSc1, isSc3, isSc5, ln_2, ln_4, ln_6, ln_8, ln_10, ln_11, ln_12, ln_13, ln_14, ln_16, ln_17, ln_18, ln_19, ln_20, ln_21, ln_23, ln_24, ln_25, ln_27, ln_28, ln_29, c1, Nat.one_ne_zero, and_self, and_false]
          exact Iff.rfl
        · simp (disch := first | assumption | exact isSc1 | exact isSc3 | exact isSc5 | decide | omega) only [iX5_noteEnd_49, Nat.reduceAdd, Nat.reduceSub, Nat.reduceMul, Nat.reduceLeDiff, mm_rv_s, mm_rv_n, true_and, and_true, if_true, if_false, not_true_eq_false, not_false_eq_true, nI_add, nz_0, nz_lt0, nz_0le, nz_0lt, nz_le0, nz_lt, nz_le, nz_eq, nz_cl, nz_in, nz_sub, nz_m1, pk_mul, set_o, set_ne, up_ne, up_set, n1_1, true_or, or_true, n1_01, n0_01, bI_01, bI_01b, bI_0, isSc1, isSc3, isSc5, ln_2, ln_4, ln_6, ln_8, ln_10, ln_11, ln_12, ln_13, ln_14, ln_16, ln_17, ln_18, ln_19, ln_20, ln_21, ln_23, ln_24, ln_25, ln_27, ln_28, ln_29, c0, c1, and_false]
    · simp (disch := first | assumption | exact isSc1 | exact isSc3 | exact isSc5 | decide | omega) only [iX5_noteEnd_40, iX5_noteEnd_43, iX5_noteEnd_44, iX5_noteEnd_45, iX5_noteEnd_46, iX5_noteEnd_49, Nat.reduceAdd, Nat.reduceSub, Nat.reduceMul, Nat.reduceLeDiff, mm_rv_s, mm_rv_n, true_and, and_true, if_true, if_false, not_true_eq_false, not_false_eq_true, nI_add, nz_0, nz_lt0, nz_0le, nz_0lt, nz_le0, nz_lt, nz_le, nz_eq, nz_cl, nz_in, nz_sub, nz_m1, pk_mul, set_o, set_ne, up_ne, up_set, n1_1, true_or, or_true, n1_01, n0_01, bI_01, bI_01b, bI_0, isSc1, isSc3, isSc5, ln_2, ln_4, ln_6, ln_8, ln_10, ln_11, ln_12, ln_13, ln_14, ln_16, ln_17, ln_18, ln_19, ln_20, ln_21, ln_23, ln_24, ln_25, ln_27, ln_28, ln_29, k0, false_and]
end WK

