/-! THE WALK AS A SUM OVER THE SIGNS -/
def uTerm (b : Bool) (g : Nat → Sg) (n i : Nat) : Int := unI b ((fcN g n (sB (g i)) + (sW (g i)).toNat - 1) % 8)
def plTerm (b : Bool) (g : Nat → Sg) (n t i : Nat) : Int := if sK (g i) = 0 ∧ sC (g i) < 2 ∧ 0 < sW (g i) ∧ seN (g i) ≤ t then (if lst g n (1 - sC (g i)) (seN (g i)) = none then 2 * uTerm b g n i else uTerm b g n i) else 0
def vTerm (b : Bool) (g : Nat → Sg) (n c t i : Nat) : Int := if sW (g i) = 0 then 0 else (if lst g n c t = none then 2 else 1) * uTerm b g n i
theorem plI_eq {B n : Nat} {g : Nat → Sg} (hv : Val B n g) (b : Bool) : ∀ t, sumI (plTerm b g n t) n = plI b g n t := by
  intro t
  induction t with
  | zero =>
    refine sumI_zero n (fun i hi => ?_)
    unfold plTerm
    rw [if_neg]
    rintro ⟨-, -, -, h⟩
    have := (okS_b (hv.2.2.2.1 i hi).1).2.2.1
    unfold seN at h
    omega
  | succ t ih =>
    have one : ∀ c i j, i < n → j < n → mvP g c (t + 1) i = true → mvP g c (t + 1) j = true → i = j := by
      intro c i j hi hj h1 h2
      unfold mvP at h1 h2
      simp only [decide_eq_true_eq] at h1 h2
      exact end_one hv hi hj (by omega) (by omega)
    have s0 := sum_one (p := mvP g 0 (t + 1)) (v := vTerm b g n 1 (t + 1)) n (fun i j hi hj => one 0 i j hi hj)
    have s1 := sum_one (p := mvP g 1 (t + 1)) (v := vTerm b g n 0 (t + 1)) n (fun i j hi hj => one 1 i j hi hj)
    have e0 : stV b g n (lst g n 0 (t + 1)) (lst g n 1 (t + 1)) = opI (vTerm b g n 1 (t + 1)) (lastF (mvP g 0 (t + 1)) n) := by
      show _ = opI (vTerm b g n 1 (t + 1)) (lst g n 0 (t + 1))
      cases lst g n 0 (t + 1) <;> rfl
    have e1 : stV b g n (lst g n 1 (t + 1)) (lst g n 0 (t + 1)) = opI (vTerm b g n 0 (t + 1)) (lastF (mvP g 1 (t + 1)) n) := by
      show _ = opI (vTerm b g n 0 (t + 1)) (lst g n 1 (t + 1))
      cases lst g n 1 (t + 1) <;> rfl
    show _ = plI b g n t + stV b g n (lst g n 0 (t + 1)) (lst g n 1 (t + 1)) + stV b g n (lst g n 1 (t + 1)) (lst g n 0 (t + 1))
    rw [e0, e1, ← s0, ← s1, ← ih, ← sumI_add, ← sumI_add]
    refine sumI_congr n (fun i hi => ?_)
    have o := (hv.2.2.2.1 i hi).1
    unfold plTerm mvP vTerm
    simp only [decide_eq_true_eq]
    by_cases k0 : sK (g i) = 0
    · have hw := o.2.2.2.1 k0
      by_cases w0 : sW (g i) = 0
      · rw [if_neg (by omega), if_neg (by omega), if_pos w0, if_pos w0]
        split <;> split <;> rfl
      · have w1 : 0 < sW (g i) := by omega
        by_cases h1 : seN (g i) ≤ t
        · have a : seN (g i) ≤ t + 1 := by omega
          have b : ¬ seN (g i) = t + 1 := by omega
          simp [k0, w0, w1, h1, a, b]
        · by_cases h2 : seN (g i) = t + 1
          · have a : ¬ t + 1 ≤ t := by omega
            by_cases c0 : sC (g i) = 0
            · by_cases hl : lst g n 1 (t + 1) = none <;> simp [k0, w0, w1, h2, c0, a, hl]
            · by_cases c1 : sC (g i) = 1
              · by_cases hl : lst g n 0 (t + 1) = none <;> simp [k0, w0, w1, h2, c1, a, hl]
              · have hc : ¬ sC (g i) < 2 := by omega
                simp [k0, hc, c0, c1]
          · have a : ¬ seN (g i) ≤ t + 1 := by omega
            simp [k0, h1, h2, a]
    · rw [if_neg (fun z => k0 z.1), if_neg (fun z => k0 z.1), if_neg (fun z => k0 z.1), if_neg (fun z => k0 z.1)]; rfl
