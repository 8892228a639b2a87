/-! THE PURE METHODS OF THE CLASS: ranges, packed signs -/
theorem p_isWithin (v a b : Int32) (M : mm_M) (Q : mm_Q) : wc 89 [.inl v, .inl a, .inl b] M Q ↔ Q (some (bI (decide (a ≤ v ∧ v ≤ b)))) M := by
  simp only [eX7_isWithin, iX7_isWithin_0, iX7_isWithin_1, iX7_isWithin_2, iX7_isWithin_5, iX7_isWithin_6, iX7_isWithin_7, iX7_isWithin_10, iX7_isWithin_11, iX7_isWithin_14, iX7_isWithin_15, n1_01, n0_01, true_and, i_lt]
  by_cases h1 : a ≤ v
  · by_cases h2 : v ≤ b
    · simp [h1, h2, bI]
    · simp [h1, h2, bI]
  · simp [h1, bI]
theorem p_isFlag (v : Int32) (M : mm_M) (Q : mm_Q) : wc 90 [.inl v] M Q ↔ Q (some (bI (decide (nI 0 ≤ v ∧ v ≤ nI 1)))) M := by
  simp only [eX7_isFlag, iX7_isFlag_0, iX7_isFlag_1, iX7_isFlag_2, iX7_isFlag_3, iX7_isFlag_6, p_isWithin, mm_rv_s, bI_01, true_and]
theorem p_isColumn (v : Int32) (M : mm_M) (Q : mm_Q) : wc 91 [.inl v] M Q ↔ Q (some (bI (decide (nI 0 ≤ v ∧ v ≤ nI 6)))) M := by
  simp only [eX7_isColumn, iX7_isColumn_0, iX7_isColumn_1, iX7_isColumn_2, iX7_isColumn_4, iX7_isColumn_7, p_isWithin, mm_rv_s, bI_01, true_and]
theorem p_isBeat (v : Int32) (M : mm_M) (Q : mm_Q) : wc 92 [.inr 0, .inl v] M Q ↔ Q (some (bI (decide (nI 0 ≤ v ∧ v ≤ M 1 0 - nI 1)))) M := by
  simp only [eX7_isBeat, iX7_isBeat_0, iX7_isBeat_1, iX7_isBeat_2, iX7_isBeat_3, iX7_isBeat_6, iX7_isBeat_9, iX7_isBeat_10, iX7_isBeat_11, iX7_isBeat_14, p_isWithin, mm_rv_s, bI_01, true_and, isSc1]
/-- signs: column, begin, kind, length (of a hold 0), way (a move's direction, a turn's amount), level -/
abbrev Sg : Type := Nat × Nat × Nat × Nat × Int × Nat
def sC (s : Sg) : Nat := s.1
def sB (s : Sg) : Nat := s.2.1
def sK (s : Sg) : Nat := s.2.2.1
def sN (s : Sg) : Nat := s.2.2.2.1
def sW (s : Sg) : Int := s.2.2.2.2.1
def sV (s : Sg) : Nat := s.2.2.2.2.2
def sS (s : Sg) : Nat := if sK s = 1 then 1 else sN s
def sD (s : Sg) : Nat := if sK s = 0 then (sW s).toNat else 0
def sA (s : Sg) : Int := if sK s = 2 then sW s else 0
def pkN (b c n k d v a : Nat) : Nat := 8388608 * b + (1048576 * c + (8192 * n + (2048 * k + (128 * d + (32 * v + a)))))
def pk (s : Sg) : Nat := pkN (sB s) (sC s) (sS s) (sK s) (sD s) (sV s) (sA s + 8).toNat
/-- a sign as it may be -/
def okS (s : Sg) : Prop := sC s ≤ 6 ∧ sK s ≤ 3 ∧ sN s ≤ 48 ∧ (sK s = 0 → 0 ≤ sW s ∧ sW s ≤ 8 ∧ sV s ≤ 2 ∧ 1 ≤ sN s ∧ sC s ≤ 5) ∧ (sK s = 1 → sN s = 0 ∧ sW s = 0 ∧ sV s = 0) ∧ (sK s = 2 → -8 ≤ sW s ∧ sW s ≤ 8 ∧ sV s = 0 ∧ 1 ≤ sN s ∧ sC s = 6) ∧ (sK s = 3 → sW s = 0 ∧ sV s = 0 ∧ 1 ≤ sN s)
theorem okS_b {s : Sg} (h : okS s) : sC s < 8 ∧ sS s < 128 ∧ 1 ≤ sS s ∧ sK s < 4 ∧ sD s < 16 ∧ sV s < 4 ∧ -8 ≤ sA s ∧ sA s ≤ 8 ∧ sS s ≤ 48 := by
  obtain ⟨h1, h2, h3, h4, h5, h6, h7⟩ := h
  unfold sS sD sA
  rcases (show sK s = 0 ∨ sK s = 1 ∨ sK s = 2 ∨ sK s = 3 by omega) with h | h | h | h
  · have := h4 h; simp [h]; omega
  · have := h5 h; simp [h]; omega
  · have := h6 h; simp [h]; omega
  · have := h7 h; simp [h]; omega
theorem pkN_lt {b c n k d v a : Nat} (hb : b < 128) (hc : c < 8) (hn : n < 128) (hk : k < 4) (hd : d < 16) (hv : v < 4) (ha : a < 32) : pkN b c n k d v a < 1073741824 := by unfold pkN; omega
theorem sgp_lt {s : Sg} (h : okS s) (hb : sB s < 128) : pk s < 1073741824 := by
  have := okS_b h
  exact pkN_lt hb (by omega) (by omega) (by omega) (by omega) (by omega) (by omega)
theorem pkN_f {b c n k d v a : Nat} (hb : b < 128) (hc : c < 8) (hn : n < 128) (hk : k < 4) (hd : d < 16) (hv : v < 4) (ha : a < 32) :
    pkN b c n k d v a / 8388608 % 128 = b ∧ pkN b c n k d v a / 1048576 % 8 = c ∧ pkN b c n k d v a / 8192 % 128 = n ∧ pkN b c n k d v a / 2048 % 4 = k ∧ pkN b c n k d v a / 128 % 16 = d ∧ pkN b c n k d v a / 32 % 4 = v ∧ pkN b c n k d v a % 32 = a ∧ pkN b c n k d v a % 8192 = 2048 * k + (128 * d + (32 * v + a)) := by
  unfold pkN
  refine ⟨by omega, by omega, by omega, by omega, by omega, by omega, by omega, by omega⟩
theorem p_beginOf (x : Nat) (hx : x < 2147483648) (M : mm_M) (Q : mm_Q) : wc 33 [.inl (nI x)] M Q ↔ Q (some (nI (x / 8388608 % 128))) M := by
  simp only [eX4_beginOf, iX4_beginOf_0, iX4_beginOf_1, iX4_beginOf_3, iX4_beginOf_4, iX4_beginOf_6, iX4_beginOf_7]
  rw [sh_r x 23 hx (by decide), an_k (x / 2 ^ 23) 7 127 (by omega) rfl (by decide)]
theorem p_columnOf (x : Nat) (hx : x < 2147483648) (M : mm_M) (Q : mm_Q) : wc 34 [.inl (nI x)] M Q ↔ Q (some (nI (x / 1048576 % 8))) M := by
  simp only [eX4_columnOf, iX4_columnOf_0, iX4_columnOf_1, iX4_columnOf_3, iX4_columnOf_4, iX4_columnOf_6, iX4_columnOf_7]
  rw [sh_r x 20 hx (by decide), an_k (x / 2 ^ 20) 3 7 (by omega) rfl (by decide)]
theorem p_spanOf (x : Nat) (hx : x < 2147483648) (M : mm_M) (Q : mm_Q) : wc 35 [.inl (nI x)] M Q ↔ Q (some (nI (x / 8192 % 128))) M := by
  simp only [eX4_spanOf, iX4_spanOf_0, iX4_spanOf_1, iX4_spanOf_3, iX4_spanOf_4, iX4_spanOf_6, iX4_spanOf_7]
  rw [sh_r x 13 hx (by decide), an_k (x / 2 ^ 13) 7 127 (by omega) rfl (by decide)]
theorem p_kindOf (x : Nat) (hx : x < 2147483648) (M : mm_M) (Q : mm_Q) : wc 36 [.inl (nI x)] M Q ↔ Q (some (nI (x / 2048 % 4))) M := by
  simp only [eX4_kindOf, iX4_kindOf_0, iX4_kindOf_1, iX4_kindOf_3, iX4_kindOf_4, iX4_kindOf_5, iX4_kindOf_6]
  rw [sh_r x 11 hx (by decide), an_k (x / 2 ^ 11) 2 3 (by omega) rfl (by decide)]
theorem p_directionOf (x : Nat) (hx : x < 2147483648) (M : mm_M) (Q : mm_Q) : wc 37 [.inl (nI x)] M Q ↔ Q (some (nI (x / 128 % 16))) M := by
  simp only [eX4_directionOf, iX4_directionOf_0, iX4_directionOf_1, iX4_directionOf_3, iX4_directionOf_4, iX4_directionOf_6, iX4_directionOf_7]
  rw [sh_r x 7 hx (by decide), an_k (x / 2 ^ 7) 4 15 (by omega) rfl (by decide)]
theorem p_levelOf (x : Nat) (hx : x < 2147483648) (M : mm_M) (Q : mm_Q) : wc 38 [.inl (nI x)] M Q ↔ Q (some (nI (x / 32 % 4))) M := by
  simp only [eX4_levelOf, iX4_levelOf_0, iX4_levelOf_1, iX4_levelOf_2, iX4_levelOf_3, iX4_levelOf_4, iX4_levelOf_5]
  rw [sh_r x 5 hx (by decide), an_k (x / 2 ^ 5) 2 3 (by omega) rfl (by decide)]
theorem p_amountOf (x : Nat) (hx : x < 2147483648) (M : mm_M) (Q : mm_Q) : wc 39 [.inl (nI x)] M Q ↔ Q (some (iZ ((x % 32 : Nat) - 8))) M := by
  simp only [eX4_amountOf, iX4_amountOf_0, iX4_amountOf_1, iX4_amountOf_3, iX4_amountOf_4, iX4_amountOf_6, iX4_amountOf_7]
  rw [an_k x 5 31 (by omega) rfl (by decide)]
  show Q (some (iZ ((x % 2 ^ 5 : Nat) : Int) - iZ 8)) M ↔ _
  rw [iZ_sub]
theorem p_shortEndOf (x : Nat) (hx : x < 2147483648) (M : mm_M) (Q : mm_Q) : wc 40 [.inl (nI x)] M Q ↔ Q (some (nI (x / 8388608 % 128 + x / 8192 % 128))) M := by
  simp only [eX4_shortEndOf, iX4_shortEndOf_0, iX4_shortEndOf_1, iX4_shortEndOf_4, iX4_shortEndOf_5, iX4_shortEndOf_8, iX4_shortEndOf_9, p_beginOf x hx, p_spanOf x hx, mm_rv_s, nI_add]
section SG
variable {s : Sg} {M : mm_M} {Q : mm_Q}
theorem sgp_f (h : okS s) (hb : sB s < 128) : pk s / 8388608 % 128 = sB s ∧ pk s / 1048576 % 8 = sC s ∧ pk s / 8192 % 128 = sS s ∧ pk s / 2048 % 4 = sK s ∧ pk s / 128 % 16 = sD s ∧ pk s / 32 % 4 = sV s ∧ ((pk s % 32 : Nat) : Int) - 8 = sA s ∧ pk s < 2147483648 := by
  have hh := okS_b h
  have hf := pkN_f (b := sB s) (c := sC s) (n := sS s) (k := sK s) (d := sD s) (v := sV s) (a := (sA s + 8).toNat) hb (by omega) (by omega) (by omega) (by omega) (by omega) (by omega)
  have hl := sgp_lt h hb
  refine ⟨hf.1, hf.2.1, hf.2.2.1, hf.2.2.2.1, hf.2.2.2.2.1, hf.2.2.2.2.2.1, ?_, by omega⟩
  have := hf.2.2.2.2.2.2.1
  unfold pk
  rw [this]
  omega
theorem g_beginOf (h : okS s) (hb : sB s < 128) : wc 33 [.inl (nI (pk s))] M Q ↔ Q (some (nI (sB s))) M := by rw [p_beginOf _ (sgp_f h hb).2.2.2.2.2.2.2, (sgp_f h hb).1]
theorem g_columnOf (h : okS s) (hb : sB s < 128) : wc 34 [.inl (nI (pk s))] M Q ↔ Q (some (nI (sC s))) M := by rw [p_columnOf _ (sgp_f h hb).2.2.2.2.2.2.2, (sgp_f h hb).2.1]
theorem g_spanOf (h : okS s) (hb : sB s < 128) : wc 35 [.inl (nI (pk s))] M Q ↔ Q (some (nI (sS s))) M := by rw [p_spanOf _ (sgp_f h hb).2.2.2.2.2.2.2, (sgp_f h hb).2.2.1]
theorem g_kindOf (h : okS s) (hb : sB s < 128) : wc 36 [.inl (nI (pk s))] M Q ↔ Q (some (nI (sK s))) M := by rw [p_kindOf _ (sgp_f h hb).2.2.2.2.2.2.2, (sgp_f h hb).2.2.2.1]
theorem g_directionOf (h : okS s) (hb : sB s < 128) : wc 37 [.inl (nI (pk s))] M Q ↔ Q (some (nI (sD s))) M := by rw [p_directionOf _ (sgp_f h hb).2.2.2.2.2.2.2, (sgp_f h hb).2.2.2.2.1]
theorem g_levelOf (h : okS s) (hb : sB s < 128) : wc 38 [.inl (nI (pk s))] M Q ↔ Q (some (nI (sV s))) M := by rw [p_levelOf _ (sgp_f h hb).2.2.2.2.2.2.2, (sgp_f h hb).2.2.2.2.2.1]
theorem g_amountOf (h : okS s) (hb : sB s < 128) : wc 39 [.inl (nI (pk s))] M Q ↔ Q (some (iZ (sA s))) M := by rw [p_amountOf _ (sgp_f h hb).2.2.2.2.2.2.2, (sgp_f h hb).2.2.2.2.2.2.1]
theorem g_shortEndOf (h : okS s) (hb : sB s < 128) : wc 40 [.inl (nI (pk s))] M Q ↔ Q (some (nI (sB s + sS s))) M := by rw [p_shortEndOf _ (sgp_f h hb).2.2.2.2.2.2.2, (sgp_f h hb).1, (sgp_f h hb).2.2.1]
theorem p_packed {b c n k d v : Nat} {a : Int} (hb : b < 128) (hc : c < 8) (hn : n < 128) (hk : k < 4) (hd : d < 16) (hv : v < 4) (ha : -8 ≤ a ∧ a ≤ 8) :
    wc 32 [.inl (nI c), .inl (nI b), .inl (nI n), .inl (nI k), .inl (nI d), .inl (nI v), .inl (iZ a)] M Q ↔ Q (some (nI (pkN b c n k d v (a + 8).toNat))) M := by
  simp only [eX4_packed, iX4_packed_0, iX4_packed_1, iX4_packed_3, iX4_packed_4, iX4_packed_5, iX4_packed_7, iX4_packed_8, iX4_packed_9, iX4_packed_10, iX4_packed_12, iX4_packed_13, iX4_packed_14, iX4_packed_15, iX4_packed_17, iX4_packed_18, iX4_packed_19, iX4_packed_21, iX4_packed_23, iX4_packed_24, iX4_packed_25, iX4_packed_27, iX4_packed_28, iX4_packed_29, iX4_packed_30, iX4_packed_32, iX4_packed_34, iX4_packed_35, iX4_packed_36]
  have e8 : iZ a + nI 8 = nI (a + 8).toNat := by
    rw [← iZ_nat, ← iZ_nat, iZ_add]
    congr 1
    omega
  rw [e8, sh_l b 23 (by omega) (by decide), sh_l c 20 (by omega) (by decide), sh_l n 13 (by omega) (by decide), sh_l k 11 (by omega) (by decide), sh_l d 7 (by omega) (by decide), sh_l v 5 (by omega) (by decide)]
  rw [or_dvd 23 _ _ (by omega) (by omega), or_dvd 20 _ _ (by omega) (by omega), or_dvd 13 _ _ (by omega) (by omega), or_dvd 11 _ _ (by omega) (by omega), or_dvd 7 _ _ (by omega) (by omega), or_dvd 5 _ _ (by omega) (by omega)]
  have e : b * 2 ^ 23 + c * 2 ^ 20 + n * 2 ^ 13 + k * 2 ^ 11 + d * 2 ^ 7 + v * 2 ^ 5 + (a + 8).toNat = pkN b c n k d v (a + 8).toNat := by unfold pkN; omega
  rw [e]
end SG

