/-! SIGNS TURNED AND MADE; Math and Arrays -/
def mirC (c : Nat) : Nat := if c = 6 then 6 else if c % 2 = 0 then c + 1 else c - 1
def mirW (k : Nat) (w : Int) : Int := if k = 2 then -w else if 1 < w then 10 - w else w
def mirS (s : Sg) : Sg := (mirC (sC s), sB s, sK s, sN s, mirW (sK s) (sW s), sV s)
def revS (s : Sg) : Sg := (sC s, sB s, sK s, sN s, if sK s = 2 then -sW s else sW s, sV s)
def movS (s : Sg) (b : Nat) : Sg := (sC s, b, sK s, sN s, sW s, sV s)
theorem rem_nat (a k : Nat) (ha : a < 2 ^ 31) (h0 : 0 < k) (hk : k < 2 ^ 31) : nI a - nI a / nI k * nI k = nI (a % k) := pk_rem ha h0 hk
section SG2
variable {s : Sg} {M : mm_M} {Q : mm_Q}
theorem p_mirroredColumn {c : Nat} (hc : c < 7) : wc 45 [.inl (nI c)] M Q ↔ Q (some (nI (mirC c))) M := by
  simp only [eX4_mirroredColumn, iX4_mirroredColumn_0, iX4_mirroredColumn_1, iX4_mirroredColumn_3, iX4_mirroredColumn_6, iX4_mirroredColumn_8, iX4_mirroredColumn_9, iX4_mirroredColumn_10, iX4_mirroredColumn_11, iX4_mirroredColumn_12, iX4_mirroredColumn_15, iX4_mirroredColumn_16, iX4_mirroredColumn_17, iX4_mirroredColumn_18, iX4_mirroredColumn_21, iX4_mirroredColumn_22, iX4_mirroredColumn_23, iX4_mirroredColumn_24]
  have key : ∀ c : Nat, c < 7 → (if ¬ nI c = nI 6 then nI (if c % 2 = 0 then c + 1 else c - 1) else nI 6) = nI (mirC c) := by decide +kernel
  have h2 : ¬ nI 2 = 0 := by decide
  have e := rem_nat c 2 (by omega) (by decide) (by decide)
  rw [e]
  simp only [h2, not_false_eq_true, true_and, nz_0 (c % 2) (by omega), nI_add]
  rw [← key c hc]
  by_cases h6 : nI c = nI 6
  · simp [h6]
  · by_cases hm : c % 2 = 0
    · simp [h6, hm]
    · have hm1 : c % 2 = 1 := by omega
      simp [h6, hm, hm1, nz_sub c 1 (by omega)]
theorem mirC_lt {c : Nat} (hc : c ≤ 6) : mirC c ≤ 6 ∧ (c ≤ 5 → mirC c ≤ 5) ∧ (c = 6 → mirC c = 6) := by
  unfold mirC
  split
  · omega
  · split <;> omega
theorem p_mirroredDirection {d : Nat} (hd : d < 11) : wc 46 [.inl (nI d)] M Q ↔ Q (some (nI (if d < 2 then d else 10 - d))) M := by
  simp only [eX4_mirroredDirection, iX4_mirroredDirection_0, iX4_mirroredDirection_1, iX4_mirroredDirection_2, iX4_mirroredDirection_5, iX4_mirroredDirection_6, iX4_mirroredDirection_9, iX4_mirroredDirection_11, iX4_mirroredDirection_12, iX4_mirroredDirection_13]
  simp only [nz_le 2 d (by decide) (by omega), nz_sub 10 d (by omega)]
  by_cases h : 2 ≤ d
  · simp [h, Nat.not_lt.mpr h]
  · simp [h, Nat.not_le.mp h]
theorem okS_mir (h : okS s) : okS (mirS s) := by
  obtain ⟨h1, h2, h3, h4, h5, h6, h7⟩ := h
  have hm := mirC_lt h1
  refine ⟨hm.1, h2, h3, fun z => ?_, fun z => ?_, fun z => ?_, fun z => ?_⟩
  · have z : sK s = 0 := z
    have := h4 z
    have e : sW (mirS s) = if 1 < sW s then 10 - sW s else sW s := by show mirW (sK s) (sW s) = _; unfold mirW; rw [if_neg (by omega)]
    refine ⟨?_, ?_, this.2.2.1, this.2.2.2.1, hm.2.1 this.2.2.2.2⟩ <;> rw [e] <;> split <;> omega
  · have z : sK s = 1 := z
    have := h5 z
    refine ⟨this.1, ?_, this.2.2⟩
    show mirW (sK s) (sW s) = 0
    unfold mirW
    rw [if_neg (by omega), this.2.1]
    simp
  · have z : sK s = 2 := z
    have := h6 z
    have e : sW (mirS s) = -sW s := by show mirW (sK s) (sW s) = _; unfold mirW; rw [if_pos z]
    refine ⟨by rw [e]; omega, by rw [e]; omega, this.2.2.1, this.2.2.2.1, hm.2.2 this.2.2.2.2⟩
  · have z : sK s = 3 := z
    have := h7 z
    refine ⟨?_, this.2.1, this.2.2⟩
    show mirW (sK s) (sW s) = 0
    unfold mirW
    rw [if_neg (by omega), this.1]
    simp
theorem okS_rev (h : okS s) : okS (revS s) := by
  obtain ⟨h1, h2, h3, h4, h5, h6, h7⟩ := h
  refine ⟨h1, h2, h3, fun z => ?_, fun z => ?_, fun z => ?_, fun z => ?_⟩
  · have z : sK s = 0 := z
    have e : sW (revS s) = sW s := by show (if sK s = 2 then -sW s else sW s) = _; rw [if_neg (by omega)]
    rw [e]; exact h4 z
  · have z : sK s = 1 := z
    have e : sW (revS s) = sW s := by show (if sK s = 2 then -sW s else sW s) = _; rw [if_neg (by omega)]
    rw [e]; exact h5 z
  · have z : sK s = 2 := z
    have := h6 z
    have e : sW (revS s) = -sW s := by show (if sK s = 2 then -sW s else sW s) = _; rw [if_pos z]
    refine ⟨by rw [e]; omega, by rw [e]; omega, this.2.2⟩
  · have z : sK s = 3 := z
    have e : sW (revS s) = sW s := by show (if sK s = 2 then -sW s else sW s) = _; rw [if_neg (by omega)]
    rw [e]; exact h7 z
theorem okS_mov {b : Nat} (h : okS s) : okS (movS s b) := h
theorem sS_mir : sS (mirS s) = sS s := rfl
theorem sS_rev : sS (revS s) = sS s := rfl
theorem g_packed (h : okS s) (hb : sB s < 128) : wc 32 [.inl (nI (sC s)), .inl (nI (sB s)), .inl (nI (sS s)), .inl (nI (sK s)), .inl (nI (sD s)), .inl (nI (sV s)), .inl (iZ (sA s))] M Q ↔ Q (some (nI (pk s))) M := by
  have hh := okS_b h
  rw [p_packed hb (by omega) (by omega) (by omega) (by omega) (by omega) (by omega)]
  rfl
theorem g_mirrored (h : okS s) (hb : sB s < 128) : wc 44 [.inl (nI (pk s))] M Q ↔ Q (some (nI (pk (mirS s)))) M := by
  have hh := okS_b h
  have hl := (sgp_f h hb).2.2.2.2.2.2.2
  have hd : sD s < 11 := by
    obtain ⟨h1, h2, h3, h4, h5, h6, h7⟩ := h
    unfold sD
    split
    · rename_i z
      have := h4 z
      omega
    · omega
  simp only [eX4_mirrored, iX4_mirrored_0, iX4_mirrored_1, iX4_mirrored_2, iX4_mirrored_5, iX4_mirrored_6, iX4_mirrored_7, iX4_mirrored_8, iX4_mirrored_11, iX4_mirrored_14, iX4_mirrored_15, iX4_mirrored_18, iX4_mirrored_19, iX4_mirrored_22, iX4_mirrored_23, iX4_mirrored_26, iX4_mirrored_27, iX4_mirrored_30, iX4_mirrored_33, iX4_mirrored_34, iX4_mirrored_37, iX4_mirrored_38, iX4_mirrored_41, iX4_mirrored_42, iX4_mirrored_45, nz_ne1 (pk s) hl, not_false_eq_true, if_true, if_false, g_columnOf h hb, mm_rv_s, p_mirroredColumn (show sC s < 7 by have := h.1; omega), g_beginOf h hb, g_spanOf h hb, g_kindOf h hb, g_directionOf h hb, p_mirroredDirection hd, g_levelOf h hb, g_amountOf h hb, iZ_neg]
  have e1 : (if sD s < 2 then sD s else 10 - sD s) = sD (mirS s) := by
    show _ = (if sK s = 0 then (mirW (sK s) (sW s)).toNat else 0)
    obtain ⟨h1, h2, h3, h4, h5, h6, h7⟩ := h
    unfold sD mirW
    by_cases z : sK s = 0
    · have := h4 z
      simp only [z, if_true]
      rw [if_neg (show ¬ (0 = 2) by decide)]
      by_cases w : 1 < sW s
      · rw [if_neg (by omega), if_pos w]; omega
      · rw [if_pos (by omega), if_neg w]
    · simp [z]
  have e2 : -sA s = sA (mirS s) := by
    show _ = (if sK s = 2 then mirW (sK s) (sW s) else 0)
    unfold sA mirW
    by_cases z : sK s = 2
    · simp [z]
    · simp [z]
  rw [e1, e2]
  refine (g_packed (s := mirS s) (okS_mir h) hb).trans ?_
  simp only [mm_rv_s, iX4_mirrored_0, iX4_mirrored_1, iX4_mirrored_2, iX4_mirrored_5, iX4_mirrored_6, iX4_mirrored_7, iX4_mirrored_8, iX4_mirrored_11, iX4_mirrored_14, iX4_mirrored_15, iX4_mirrored_18, iX4_mirrored_19, iX4_mirrored_22, iX4_mirrored_23, iX4_mirrored_26, iX4_mirrored_27, iX4_mirrored_30, iX4_mirrored_33, iX4_mirrored_34, iX4_mirrored_37, iX4_mirrored_38, iX4_mirrored_41, iX4_mirrored_42, iX4_mirrored_45]
theorem m_mirrored : wc 44 [.inl (-1)] M Q ↔ Q (some (-1)) M := by
  simp only [eX4_mirrored, iX4_mirrored_0, iX4_mirrored_1, iX4_mirrored_2, iX4_mirrored_5, iX4_mirrored_6, iX4_mirrored_7, iX4_mirrored_8, iX4_mirrored_11, iX4_mirrored_14, iX4_mirrored_15, iX4_mirrored_18, iX4_mirrored_19, iX4_mirrored_22, iX4_mirrored_23, iX4_mirrored_26, iX4_mirrored_27, iX4_mirrored_30, iX4_mirrored_33, iX4_mirrored_34, iX4_mirrored_37, iX4_mirrored_38, iX4_mirrored_41, iX4_mirrored_42, iX4_mirrored_45, not_true_eq_false, if_false, if_true]
theorem g_turnedBack (h : okS s) (hb : sB s < 128) : wc 43 [.inl (nI (pk s))] M Q ↔ Q (some (nI (pk (revS s)))) M := by
  simp only [eX4_turnedBack, iX4_turnedBack_0, iX4_turnedBack_1, iX4_turnedBack_4, iX4_turnedBack_5, iX4_turnedBack_8, iX4_turnedBack_9, iX4_turnedBack_12, iX4_turnedBack_13, iX4_turnedBack_16, iX4_turnedBack_17, iX4_turnedBack_20, iX4_turnedBack_21, iX4_turnedBack_24, iX4_turnedBack_25, iX4_turnedBack_28, iX4_turnedBack_29, iX4_turnedBack_32, g_columnOf h hb, mm_rv_s, g_beginOf h hb, g_spanOf h hb, g_kindOf h hb, g_directionOf h hb, g_levelOf h hb, g_amountOf h hb, iZ_neg]
  have e1 : sD s = sD (revS s) := by
    show _ = (if sK s = 0 then (if sK s = 2 then -sW s else sW s).toNat else 0)
    unfold sD
    by_cases z : sK s = 0 <;> simp [z]
  have e2 : -sA s = sA (revS s) := by
    show _ = (if sK s = 2 then (if sK s = 2 then -sW s else sW s) else 0)
    unfold sA
    by_cases z : sK s = 2 <;> simp [z]
  rw [e1, e2]
  refine (g_packed (s := revS s) (okS_rev h) hb).trans ?_
  simp only [mm_rv_s, iX4_turnedBack_0, iX4_turnedBack_1, iX4_turnedBack_4, iX4_turnedBack_5, iX4_turnedBack_8, iX4_turnedBack_9, iX4_turnedBack_12, iX4_turnedBack_13, iX4_turnedBack_16, iX4_turnedBack_17, iX4_turnedBack_20, iX4_turnedBack_21, iX4_turnedBack_24, iX4_turnedBack_25, iX4_turnedBack_28, iX4_turnedBack_29, iX4_turnedBack_32]
theorem g_movedTo {b : Nat} (h : okS s) (hb : sB s < 128) (hb2 : b < 128) : wc 42 [.inl (nI (pk s)), .inl (nI b)] M Q ↔ Q (some (nI (pk (movS s b)))) M := by
  simp only [eX4_movedTo, iX4_movedTo_0, iX4_movedTo_1, iX4_movedTo_4, iX4_movedTo_5, iX4_movedTo_6, iX4_movedTo_9, iX4_movedTo_10, iX4_movedTo_13, iX4_movedTo_14, iX4_movedTo_17, iX4_movedTo_18, iX4_movedTo_21, iX4_movedTo_22, iX4_movedTo_25, iX4_movedTo_28, g_columnOf h hb, mm_rv_s, g_spanOf h hb, g_kindOf h hb, g_directionOf h hb, g_levelOf h hb, g_amountOf h hb]
  refine (g_packed (s := movS s b) h hb2).trans ?_
  simp only [mm_rv_s, iX4_movedTo_0, iX4_movedTo_1, iX4_movedTo_4, iX4_movedTo_5, iX4_movedTo_6, iX4_movedTo_9, iX4_movedTo_10, iX4_movedTo_13, iX4_movedTo_14, iX4_movedTo_17, iX4_movedTo_18, iX4_movedTo_21, iX4_movedTo_22, iX4_movedTo_25, iX4_movedTo_28]
def lookN (s : Sg) : Nat := 2048 * sK s + (128 * sD s + (32 * sV s + (sA s + 8).toNat))
theorem g_lookOf (h : okS s) (hb : sB s < 128) : wc 41 [.inl (nI (pk s))] M Q ↔ Q (some (nI (lookN s))) M := by
  have hh := okS_b h
  have hl := (sgp_f h hb).2.2.2.2.2.2.2
  simp only [eX4_lookOf, iX4_lookOf_0, iX4_lookOf_1, iX4_lookOf_2, iX4_lookOf_5, iX4_lookOf_6, iX4_lookOf_9, iX4_lookOf_10, iX4_lookOf_13, iX4_lookOf_14, nz_ne1 (pk s) hl, not_false_eq_true, if_true, if_false]
  rw [an_k (pk s) 13 8191 (by omega) rfl (by decide)]
  have hf := (pkN_f (b := sB s) (c := sC s) (n := sS s) (k := sK s) (d := sD s) (v := sV s) (a := (sA s + 8).toNat) hb (by omega) (by omega) (by omega) (by omega) (by omega) (by omega)).2.2.2.2.2.2.2
  have e : pk s % 2 ^ 13 = lookN s := hf
  rw [e]
theorem m_lookOf : wc 41 [.inl (-1)] M Q ↔ Q (some (-1)) M := by
  simp only [eX4_lookOf, iX4_lookOf_0, iX4_lookOf_1, iX4_lookOf_2, iX4_lookOf_5, iX4_lookOf_6, iX4_lookOf_9, iX4_lookOf_10, iX4_lookOf_13, iX4_lookOf_14, not_true_eq_false, if_false, if_true]
theorem g_isInPhrase {f t : Nat} (h : okS s) (hb : sB s < 128) (hf : f < 128) (ht : t < 128) : wc 96 [.inl (nI (pk s)), .inl (nI f), .inl (nI t)] M Q ↔ Q (some (bI (decide (f ≤ sB s ∧ sB s + sS s ≤ t)))) M := by
  have hh := okS_b h
  simp only [eX7_isInPhrase, iX7_isInPhrase_0, iX7_isInPhrase_1, iX7_isInPhrase_4, iX7_isInPhrase_5, iX7_isInPhrase_8, iX7_isInPhrase_9, iX7_isInPhrase_12, iX7_isInPhrase_13, iX7_isInPhrase_16, iX7_isInPhrase_17, iX7_isInPhrase_20, iX7_isInPhrase_21, g_beginOf h hb, g_shortEndOf h hb, mm_rv_s, n1_01, n0_01, true_and, nz_lt (sB s) f (by omega) (by omega), nz_lt t (sB s + sS s) (by omega) (by omega)]
  by_cases h1 : f ≤ sB s
  · by_cases h2 : sB s + sS s ≤ t
    · simp [h1, h2, Nat.not_lt.mpr h1, Nat.not_lt.mpr h2, bI]
    · simp [h1, h2, Nat.not_lt.mpr h1, Nat.not_le.mp h2, bI]
  · simp [h1, Nat.not_le.mp h1, bI]
theorem g_copyOf {a b : Nat} (ha : a ≤ 1) (hbb : b ≤ 1) (h : okS s) (hb : sB s < 128) : wc 97 [.inl (nI (pk s)), .inl (nI a), .inl (nI b)] M Q ↔ Q (some (nI (pk (if b = 1 then revS (if a = 1 then mirS s else s) else (if a = 1 then mirS s else s))))) M := by
  simp only [eX7_copyOf, iX7_copyOf_0, iX7_copyOf_1, iX7_copyOf_2, iX7_copyOf_5, iX7_copyOf_6, iX7_copyOf_9, iX7_copyOf_12, iX7_copyOf_13, iX7_copyOf_14, iX7_copyOf_15, iX7_copyOf_16, iX7_copyOf_19, iX7_copyOf_20, iX7_copyOf_23, iX7_copyOf_26, iX7_copyOf_27, nz_eq a 1 (by omega) (by decide), nz_eq b 1 (by omega) (by decide)]
  by_cases h1 : a = 1
  · by_cases h2 : b = 1
    · simp only [h1, h2, not_true_eq_false, if_false, if_true, iX7_copyOf_0, iX7_copyOf_1, iX7_copyOf_2, iX7_copyOf_5, iX7_copyOf_6, iX7_copyOf_9, iX7_copyOf_12, iX7_copyOf_13, iX7_copyOf_14, iX7_copyOf_15, iX7_copyOf_16, iX7_copyOf_19, iX7_copyOf_20, iX7_copyOf_23, iX7_copyOf_26, iX7_copyOf_27, nz_eq b 1 (by omega) (by decide), g_mirrored h hb, mm_rv_s, g_turnedBack (okS_mir h) (show sB (mirS s) < 128 from hb)]
    · simp only [h1, h2, not_false_eq_true, not_true_eq_false, if_false, if_true, iX7_copyOf_0, iX7_copyOf_1, iX7_copyOf_2, iX7_copyOf_5, iX7_copyOf_6, iX7_copyOf_9, iX7_copyOf_12, iX7_copyOf_13, iX7_copyOf_14, iX7_copyOf_15, iX7_copyOf_16, iX7_copyOf_19, iX7_copyOf_20, iX7_copyOf_23, iX7_copyOf_26, iX7_copyOf_27, nz_eq b 1 (by omega) (by decide), g_mirrored h hb, mm_rv_s]
  · by_cases h2 : b = 1
    · simp only [h1, h2, not_false_eq_true, not_true_eq_false, if_false, if_true, iX7_copyOf_0, iX7_copyOf_1, iX7_copyOf_2, iX7_copyOf_5, iX7_copyOf_6, iX7_copyOf_9, iX7_copyOf_12, iX7_copyOf_13, iX7_copyOf_14, iX7_copyOf_15, iX7_copyOf_16, iX7_copyOf_19, iX7_copyOf_20, iX7_copyOf_23, iX7_copyOf_26, iX7_copyOf_27, nz_eq b 1 (by omega) (by decide), mm_rv_s, g_turnedBack h hb]
    · simp only [h1, h2, not_false_eq_true, if_false, if_true, iX7_copyOf_0, iX7_copyOf_1, iX7_copyOf_2, iX7_copyOf_5, iX7_copyOf_6, iX7_copyOf_9, iX7_copyOf_12, iX7_copyOf_13, iX7_copyOf_14, iX7_copyOf_15, iX7_copyOf_16, iX7_copyOf_19, iX7_copyOf_20, iX7_copyOf_23, iX7_copyOf_26, iX7_copyOf_27, nz_eq b 1 (by omega) (by decide)]
-- Math, Arrays
theorem p_max (x y : Int32) : wc 166 [.inl x, .inl y] M Q ↔ Q (some (if x < y then y else x)) M := by
  simp only [eJ9_max_7cf53, iJ9_max_7cf53_0, iJ9_max_7cf53_1, iJ9_max_7cf53_2, iJ9_max_7cf53_5, iJ9_max_7cf53_6, iJ9_max_7cf53_9, iJ9_max_7cf53_10]
  by_cases h : x < y <;> simp [h]
theorem p_min (x y : Int32) : wc 167 [.inl x, .inl y] M Q ↔ Q (some (if y < x then y else x)) M := by
  simp only [eJ9_min_7cf53, iJ9_min_7cf53_0, iJ9_min_7cf53_1, iJ9_min_7cf53_2, iJ9_min_7cf53_5, iJ9_min_7cf53_6, iJ9_min_7cf53_9, iJ9_min_7cf53_10]
  by_cases h : y < x <;> simp [h]
theorem p_abs (x : Int32) : wc 165 [.inl x] M Q ↔ Q (some (if 0 ≤ x then x else -x)) M := by
  simp only [eJ9_abs_0f7a4, iJ9_abs_0f7a4_0, iJ9_abs_0f7a4_1, iJ9_abs_0f7a4_4, iJ9_abs_0f7a4_5, iJ9_abs_0f7a4_6, iJ9_abs_0f7a4_9, iJ9_abs_0f7a4_10]
  by_cases h : 0 ≤ x <;> simp [h]
end SG2

