/-! THE SCORE'S SHORT METHODS; filling a row -/
def fillA (f : Nat → Int32) (n : Nat) (v : Int32) : Nat → Int32 := fun j => if j < n then v else f j
theorem fillA_0 (f : Nat → Int32) (v : Int32) : fillA f 0 v = f := by funext j; simp [fillA]
theorem fillA_s (f : Nat → Int32) (i : Nat) (v : Int32) : upd (fillA f i v) i v = fillA f (i + 1) v := by
  funext j
  unfold upd fillA
  by_cases h : j = i
  · simp [h]
  · by_cases h2 : j < i
    · simp [h, h2, show j < i + 1 by omega]
    · simp [h, h2, show ¬ j < i + 1 by omega]
theorem up_set (M : mm_M) (o k : Nat) (f : Nat → Int32) (v : Int32) : mm_up (mm_set M o f) o k v = mm_set M o (upd f k v) := by
  funext q
  unfold mm_up mm_set
  by_cases h : q = o <;> simp [h]
theorem set_set (M : mm_M) (o : Nat) (f g : Nat → Int32) : mm_set (mm_set M o f) o g = mm_set M o g := by
  funext q
  unfold mm_set
  by_cases h : q = o <;> simp [h]
theorem set_id (M : mm_M) (o : Nat) : mm_set M o (M o) = M := by
  funext q
  unfold mm_set
  by_cases h : q = o <;> simp [h]
theorem up_as_set (M : mm_M) (o k : Nat) (v : Int32) : mm_up M o k v = mm_set M o (upd (M o) k v) := rfl
theorem p_fill {a : Nat} (h0 : 0 < mm_ln a) (h1 : mm_ln a < 2 ^ 31) (v : Int32) (M : mm_M) (Q : mm_Q) : wc 168 [.inr a, .inl v] M Q ↔ Q none (mm_set M a (fillA (M a) (mm_ln a) v)) := by
  simp only [eJ7_fill_53178, iJ7_fill_53178_0, iJ7_fill_53178_1, iJ7_fill_53178_2, iJ7_fill_53178_3, iJ7_fill_53178_4, h0]
  have loop : ∀ d i : Nat, i + d = mm_ln a → (wp 168 5 [some (.inr a), some (.inl v), some (.inl (nI i)), some (.inl (nI (mm_ln a)))] [] (mm_set M a (fillA (M a) i v)) Q ↔ Q none (mm_set M a (fillA (M a) (mm_ln a) v))) := by
    intro d
    induction d with
    | zero =>
      intro i hi
      have hi : i = mm_ln a := by omega
      subst hi
      rw [iJ7_fill_53178_5]
      simp only [iJ7_fill_53178_6, iJ7_fill_53178_7, iJ7_fill_53178_10, iJ7_fill_53178_11, iJ7_fill_53178_12, iJ7_fill_53178_13, iJ7_fill_53178_14, iJ7_fill_53178_17, iJ7_fill_53178_20, Int32.le_refl, if_true]
    | succ d ih =>
      intro i hi
      have e1 : ¬ nI (mm_ln a) ≤ nI i := nI_ge (by omega) h1
      have e2 : vp_in (nI i) (mm_ln a) := vp_in_nI (by omega) h1
      rw [← ih (i + 1) (by omega)]
      rw [iJ7_fill_53178_5]
      simp only [iJ7_fill_53178_6, iJ7_fill_53178_7, iJ7_fill_53178_10, iJ7_fill_53178_11, iJ7_fill_53178_12, iJ7_fill_53178_13, iJ7_fill_53178_14, iJ7_fill_53178_17, iJ7_fill_53178_20, e1, if_false, e2, true_and, nz_cl i (by omega), nI_add, up_set, set_o, fillA_s]
  have := loop (mm_ln a) 0 (by omega)
  rw [fillA_0, set_id] at this
  exact this
section SCO
variable {o o2 : Nat} {M : mm_M} {Q : mm_Q}
theorem p_empty (h : isSc o) (v : Int32) : wc 5 [.inr o, .inl v] M Q ↔ Q none (mm_up (mm_up M o 0 v) o 2 (nI 0)) := by
  simp only [eX2_empty, iX2_empty_0, iX2_empty_1, iX2_empty_2, iX2_empty_5, iX2_empty_6, iX2_empty_7, iX2_empty_10, h]
theorem p_emptyAs (h : isSc o) (h2 : isSc o2) (hne : o2 ≠ o) : wc 6 [.inr o, .inr o2] M Q ↔ Q none (mm_up (mm_up (mm_up M o 0 (M o2 0)) o 1 (M o2 1)) o 2 (nI 0)) := by
  simp only [eX2_emptyAs, iX2_emptyAs_0, iX2_emptyAs_1, iX2_emptyAs_2, iX2_emptyAs_5, iX2_emptyAs_8, iX2_emptyAs_9, iX2_emptyAs_10, iX2_emptyAs_13, iX2_emptyAs_16, iX2_emptyAs_17, iX2_emptyAs_18, iX2_emptyAs_21, h, h2, up_ne _ _ _ hne]
theorem p_become (h : isSc o) (h2 : isSc o2) (hne : o2 ≠ o) {n : Nat} (hn : M o2 2 = nI n) (hn2 : n ≤ 120) : wc 7 [.inr o, .inr o2] M Q ↔ Q none (mm_set (mm_up (mm_up (mm_up M o 0 (M o2 0)) o 1 (M o2 1)) o 2 (nI n)) (o + 1) (va_cpy (M (o2 + 1)) (M (o + 1)) 0 0 n)) := by
  have e1 : o2 + 1 ≠ o := by rcases h with rfl | rfl | rfl <;> rcases h2 with rfl | rfl | rfl <;> omega
  have e2 : o + 1 ≠ o := by omega
  have e3 : ¬ nI 0 < 0 := by decide
  have e4 : ¬ nI n < 0 := nI_pos (by omega)
  have e5 : (nI 0).toNatClampNeg = 0 := by decide
  simp only [eX2_become, iX2_become_0, iX2_become_1, iX2_become_2, iX2_become_5, iX2_become_8, iX2_become_9, iX2_become_10, iX2_become_13, iX2_become_16, iX2_become_17, iX2_become_18, iX2_become_21, iX2_become_24, iX2_become_25, iX2_become_28, iX2_become_29, iX2_become_30, iX2_become_33, iX2_become_34, iX2_become_35, iX2_become_38, iX2_become_41, h, h2, up_ne _ _ _ hne, hn, up_ne _ _ _ e1, up_ne _ _ _ e2, e3, e4, e5, nz_cl n (by omega), not_false_eq_true, true_and, Nat.zero_add, hn2]
theorem p_at (h : isSc o) {n i : Nat} (hn : M o 2 = nI n) (hn2 : n ≤ 120) (hi : i < n) : wc 8 [.inr o, .inl (nI i)] M Q ↔ Q (some (M (o + 1) i)) M := by
  simp only [eX2_at, iX2_at_0, iX2_at_1, iX2_at_4, iX2_at_5, iX2_at_6, iX2_at_9, iX2_at_12, iX2_at_13, iX2_at_16, iX2_at_17, iX2_at_18, iX2_at_21, iX2_at_22, h, hn, nz_lt0 i (by omega), if_false, nz_le n i (by omega) (by omega), show ¬ n ≤ i by omega, sc_lt h, sc_ln h, nz_in i 120 (by omega) (by decide), true_and, nz_cl i (by omega)]
end SCO

