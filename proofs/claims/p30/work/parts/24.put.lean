/-! SCORES: what the class and the reference hold; a sign put in its place -/
def isC (M : mm_M) (o B L n : Nat) (g : Nat → Sg) : Prop := M o 0 = nI B ∧ M o 1 = nI L ∧ M o 2 = nI n ∧ ∀ i : Nat, i < n → M (o + 1) i = nI (pk (g i))
def fD (d : Nat → Int32) (i : Nat) (s : Sg) : Prop := d (3 + i) = nI (sC s) ∧ d (123 + i) = nI (sB s) ∧ d (243 + i) = nI (sK s) ∧ d (363 + i) = nI (sN s) ∧ d (483 + i) = iZ (sW s) ∧ d (603 + i) = nI (sV s)
def isD (d : Nat → Int32) (B L n : Nat) (g : Nat → Sg) : Prop := d 0 = nI B ∧ d 1 = nI L ∧ d 2 = nI n ∧ ∀ i : Nat, i < n → fD d i (g i)
def pos (gt : Nat → Bool) : Nat → Nat
  | 0 => 0
  | k + 1 => if gt k = true then pos gt k else k + 1
theorem pos_le (gt : Nat → Bool) : ∀ k, pos gt k ≤ k := by
  intro k
  induction k with
  | zero => exact Nat.le_refl _
  | succ k ih => unfold pos; split <;> omega
theorem pos_gt (gt : Nat → Bool) : ∀ k i, pos gt k ≤ i → i < k → gt i = true := by
  intro k
  induction k with
  | zero => intro i h1 h2; omega
  | succ k ih =>
    intro i h1 h2
    unfold pos at h1
    split at h1
    · by_cases h : i = k
      · subst h; assumption
      · exact ih i h1 (by omega)
    · omega
theorem pos_no (gt : Nat → Bool) : ∀ k, 0 < pos gt k → gt (pos gt k - 1) = false := by
  intro k
  induction k with
  | zero => intro h; unfold pos at h; omega
  | succ k ih =>
    intro h
    unfold pos at h ⊢
    split
    · rename_i hg
      rw [if_pos hg] at h
      exact ih h
    · rename_i hg
      simpa using hg
theorem pos_cong {g1 g2 : Nat → Bool} : ∀ k, (∀ i, i < k → g1 i = g2 i) → pos g1 k = pos g2 k := by
  intro k
  induction k with
  | zero => intro _; rfl
  | succ k ih =>
    intro h
    unfold pos
    rw [h k (by omega), ih (fun i hi => h i (by omega))]
def shG (g : Nat → Sg) (k : Nat) : Nat → Sg := fun i => if i < k then g i else g (i - 1)
def insG (g : Nat → Sg) (k : Nat) (s : Sg) : Nat → Sg := fun i => if i = k then s else shG g k i
section PUT
variable {o B L n : Nat} {g : Nat → Sg} {M : mm_M} {Q : mm_Q} {s : Sg}
def gtP (g : Nat → Sg) (s : Sg) : Nat → Bool := fun i => decide (pk s < pk (g i))
theorem p_put (h : isSc o) (hC : isC M o B L n g) (hn : n < 120) (hg : ∀ i, i < n → pk (g i) < 1073741824) (hs : pk s < 1073741824)
    (hQ : ∀ M2, Same [o, o + 1] M M2 → isC M2 o B L (n + 1) (insG g (pos (gtP g s) n) s) → Q (some (nI (pos (gtP g s) n))) M2) : wc 10 [.inr o, .inl (nI (pk s))] M Q := by
  obtain ⟨c0, c1, c2, c3⟩ := hC
  have hln := sc_ln h
  have hlt := sc_lt h
  have h0 : (0 : Nat) < 120 := by decide
  simp only [eX2_put, iX2_put_0, iX2_put_1, iX2_put_4, iX2_put_5, iX2_put_8, iX2_put_9, iX2_put_12, iX2_put_13, iX2_put_14, iX2_put_15, iX2_put_18, iX2_put_20, iX2_put_23, iX2_put_24, iX2_put_27, iX2_put_28, iX2_put_29, iX2_put_30, iX2_put_31, iX2_put_32, iX2_put_35, iX2_put_36, iX2_put_39, iX2_put_40, iX2_put_41, iX2_put_44, iX2_put_45, iX2_put_46, iX2_put_47, iX2_put_48, iX2_put_49, iX2_put_52, iX2_put_55, iX2_put_56, iX2_put_59, iX2_put_60, iX2_put_61, iX2_put_62, iX2_put_63, iX2_put_64, iX2_put_67, iX2_put_68, iX2_put_69, iX2_put_72, iX2_put_73, h, hln, c2, h0, nz_lt n 120 (by omega) (by decide), hn, if_true]
  have loop : ∀ k : Nat, k ≤ n → pos (gtP g s) n = pos (gtP g s) k → ∀ M1 : mm_M, Same [o + 1] M M1 → (∀ i, i ≤ n → i ≠ k → M1 (o + 1) i = nI (pk (shG g k i))) → wp 10 19 [some (.inr o), some (.inl (nI (pk s))), some (.inl (nI k))] [] M1 Q := by
    intro k
    have fin : ∀ k : Nat, k ≤ n → pos (gtP g s) n = k → ∀ M1 : mm_M, Same [o + 1] M M1 → (∀ i, i ≤ n → i ≠ k → M1 (o + 1) i = nI (pk (shG g k i))) → wp 10 55 [some (.inr o), some (.inl (nI (pk s))), some (.inl (nI k))] [] M1 Q := by
      intro k hk hp M1 hS hM
      have e2 : M1 o = M o := hS o (by simp)
      have e3 : o ≠ o + 1 := by omega
      have e4 : o + 1 ≠ o := by omega
      simp only [iX2_put_55, iX2_put_56, iX2_put_59, iX2_put_60, iX2_put_61, iX2_put_62, iX2_put_63, iX2_put_64, iX2_put_67, iX2_put_68, iX2_put_69, iX2_put_72, iX2_put_73, h, hln, nz_in k 120 (by omega) (by decide), true_and, nz_cl k (by omega), up_ne _ _ _ e3, e2, c2, nI_add]
      rw [← hp]
      refine hQ _ ?_ ⟨?_, ?_, ?_, ?_⟩
      · exact ((hS.wk (fun q hq => by simp at hq ⊢; exact Or.inr hq)).up (by simp) _ _).up (by simp) _ _
      · simp [up_o, up_ne _ _ _ e3, upd, e2, c0]
      · simp [up_o, up_ne _ _ _ e3, upd, e2, c1]
      · simp [up_o, upd]
      · intro i hi
        rw [up_ne _ _ _ e4, up_o]
        unfold upd insG
        by_cases hik : i = k
        · rw [if_pos (by omega), if_pos (by omega)]
        · rw [if_neg (by omega), if_neg (by omega), hM i (by omega) hik, hp]
    induction k with
    | zero =>
      intro hk hp M1 hS hM
      rw [iX2_put_19]
      simp only [iX2_put_20, iX2_put_23, iX2_put_24, iX2_put_27, iX2_put_28, iX2_put_29, iX2_put_30, iX2_put_31, iX2_put_32, iX2_put_35, iX2_put_36, iX2_put_39, iX2_put_40, iX2_put_41, iX2_put_44, iX2_put_45, iX2_put_46, iX2_put_47, iX2_put_48, iX2_put_49, iX2_put_52, nz_le0 0 (by decide), if_true]
      exact fin 0 hk (by rw [hp]; rfl) M1 hS hM
    | succ k ih =>
      intro hk hp M1 hS hM
      have e5 : M1 (o + 1) k = nI (pk (g k)) := by
        rw [hM k (by omega) (by omega)]
        unfold shG
        rw [if_pos (by omega)]
      have e6 : M1 o = M o := hS o (by simp)
      rw [iX2_put_19]
      simp only [iX2_put_20, iX2_put_23, iX2_put_24, iX2_put_27, iX2_put_28, iX2_put_29, iX2_put_30, iX2_put_31, iX2_put_32, iX2_put_35, iX2_put_36, iX2_put_39, iX2_put_40, iX2_put_41, iX2_put_44, iX2_put_45, iX2_put_46, iX2_put_47, iX2_put_48, iX2_put_49, iX2_put_52, h, hlt, hln, nz_le0 (k + 1) (by omega), Nat.succ_ne_zero, if_false, nz_sub (k + 1) 1 (by omega), Nat.add_sub_cancel, nz_in k 120 (by omega) (by decide), nz_in (k + 1) 120 (by omega) (by decide), true_and, nz_cl k (by omega), nz_cl (k + 1) (by omega), e5, nz_le (pk (g k)) (pk s) (by have := hg k (by omega); omega) (by omega), nz_m1 (k + 1) (by omega)]
      by_cases hgt : pk (g k) ≤ pk s
      · rw [if_pos hgt]
        refine fin (k + 1) hk ?_ M1 hS hM
        rw [hp]
        unfold pos
        rw [if_neg (by simp [gtP]; omega)]
      · rw [if_neg hgt]
        refine ih (by omega) ?_ _ (hS.up (by simp) _ _) ?_
        · rw [hp]
          rw [pos, if_pos (by simp [gtP]; omega)]
        · intro i hi hik
          rw [up_o]
          unfold upd
          by_cases hi2 : i = k + 1
          · rw [if_pos hi2]
            unfold shG
            rw [if_neg (by omega), hi2, Nat.add_sub_cancel]
          · rw [if_neg hi2, hM i hi hi2]
            unfold shG
            by_cases hlt2 : i < k
            · rw [if_pos (by omega), if_pos hlt2]
            · rw [if_neg (by omega), if_neg hlt2]
  refine loop n (Nat.le_refl n) rfl M (Same.rf _ _) (fun i hi hne => ?_)
  rw [c3 i (by omega)]
  unfold shG
  rw [if_pos (by omega)]
end PUT

