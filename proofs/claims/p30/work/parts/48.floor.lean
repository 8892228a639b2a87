/-! PAIRS: floor, home, farthest -/
theorem unI_le (b : Bool) (f : Nat) : -1 ≤ unI b f ∧ unI b f ≤ 1 := by
  unfold unI
  simp only
  generalize (if b = true then (f + 6) % 8 else f) = h
  split
  · decide
  · split <;> decide
theorem stV_le (b : Bool) (g : Nat → Sg) (n : Nat) (x y : Option Nat) : -2 ≤ stV b g n x y ∧ stV b g n x y ≤ 2 := by
  cases x with
  | none => simp [stV]
  | some i =>
    simp only [stV]
    have := unI_le b ((fcN g n (sB (g i)) + (sW (g i)).toNat - 1) % 8)
    split
    · decide
    · split <;> omega
theorem plI_le (b : Bool) (g : Nat → Sg) (n : Nat) : ∀ t : Nat, -(4 * t : Int) ≤ plI b g n t ∧ plI b g n t ≤ 4 * t := by
  intro t
  induction t with
  | zero => simp [plI]
  | succ t ih =>
    have h1 := stV_le b g n (lst g n 0 (t + 1)) (lst g n 1 (t + 1))
    have h2 := stV_le b g n (lst g n 1 (t + 1)) (lst g n 0 (t + 1))
    simp only [plI]
    omega
theorem absI {z : Int} (h1 : -1000 ≤ z) (h2 : z ≤ 1000) : (if 0 ≤ iZ z then iZ z else -iZ z) = nI z.natAbs := by
  have e : (0 : Int32) = iZ 0 := by decide
  have e2 : (0 ≤ iZ z) = (0 ≤ z) := by rw [e]; exact iZ_le (by decide) (by omega)
  simp only [e2]
  by_cases h : 0 ≤ z
  · rw [if_pos h, ← iZ_nat]; congr 1; omega
  · rw [if_neg h, iZ_neg, ← iZ_nat]; congr 1; omega
theorem absJ {z : Int} (h1 : -1000 ≤ z) (h2 : z ≤ 1000) : (if iZ z < 0 then -iZ z else iZ z) = nI z.natAbs := by
  rw [← absI h1 h2]
  by_cases h : 0 ≤ iZ z
  · rw [if_pos h, if_neg (Int32.not_lt.mpr h)]
  · rw [if_neg h, if_pos (Int32.not_le.mp h)]
theorem iZ_0 {z : Int} (h1 : -1000 ≤ z) (h2 : z ≤ 1000) : (iZ z = 0) = (z = 0) := by
  have e : (0 : Int32) = iZ 0 := by decide
  rw [e]
  exact iZ_inj (by omega) (by decide)
def dsN (g : Nat → Sg) (n t : Nat) : Nat := if (plI true g n t).natAbs < (plI false g n t).natAbs then (plI false g n t).natAbs else (plI true g n t).natAbs
theorem dsN_0 (g : Nat → Sg) (n t : Nat) : dsN g n t = 0 ↔ plI true g n t = 0 ∧ plI false g n t = 0 := by
  unfold dsN
  split <;> omega
theorem dsN_le (g : Nat → Sg) (n : Nat) {t : Nat} (ht : t ≤ 48) : dsN g n t ≤ 192 := by
  have h1 := plI_le true g n t
  have h2 := plI_le false g n t
  unfold dsN
  split <;> omega
theorem dsN_z (g : Nat → Sg) (n : Nat) : dsN g n 0 = 0 := (dsN_0 g n 0).mpr ⟨rfl, rfl⟩
def hmF (g : Nat → Sg) (n : Nat) : Nat → Nat → Bool → Int32
  | 0, _, _ => -1004
  | d + 1, t, a => if dsN g n t = 0 then (if a = true then nI t else hmF g n d (t + 1) a) else hmF g n d (t + 1) true
section FLR
variable {B L n : Nat} {g : Nat → Sg} {M : mm_M} {Q : mm_Q}
theorem p_distanceAt (hW : Wkd M B n g) (hB : B ≤ 48) {t : Nat} (ht : t ≤ B) : wc 51 [.inr 15, .inl (nI t)] M Q ↔ Q (some (nI (dsN g n t))) M := by
  have e16 := hW.2.1 t ht
  have e17 := hW.2.2 t ht
  have h1 := plI_le true g n t
  have h2 := plI_le false g n t
  simp (disch := first | assumption | exact isSc1 | exact isSc3 | exact isSc5 | decide | omega) only [eX5_distanceAt, iX5_distanceAt_0, iX5_distanceAt_1, iX5_distanceAt_4, iX5_distanceAt_5, iX5_distanceAt_6, iX5_distanceAt_9, iX5_distanceAt_10, iX5_distanceAt_13, iX5_distanceAt_14, iX5_distanceAt_15, iX5_distanceAt_18, iX5_distanceAt_21, Nat.reduceAdd, Nat.reduceSub, Nat.reduceMul, Nat.reduceLeDiff, mm_rv_s, mm_rv_n, true_and, and_true, if_true, if_false, not_true_eq_false, not_false_eq_true, nI_add, nz_0, nz_lt0, nz_0le, nz_0lt, nz_le0, nz_lt, nz_le, nz_eq, nz_cl, nz_in, nz_sub, nz_m1, pk_mul, set_o, set_ne, up_ne, up_set, n1_1, true_or, or_true, n1_01, n0_01, bI_01, bI_01b, bI_0, isSc1, isSc3, isSc5, ln_2, ln_4, ln_6, ln_8, ln_10, ln_11, ln_12, ln_13, ln_14, ln_16, ln_17, ln_18, ln_19, ln_20, ln_21, ln_23, ln_24, ln_25, ln_27, ln_28, ln_29, e16, e17, p_abs, absI, p_max]
  have : (if (plI true g n t).natAbs < (plI false g n t).natAbs then nI (plI false g n t).natAbs else nI (plI true g n t).natAbs) = nI (dsN g n t) := by
    unfold dsN
    split <;> rfl
  rw [this]
end FLR

