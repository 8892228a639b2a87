/-! WHAT holds ASKS, of the numbers alone -/
theorem cnt_zero {p : Nat → Bool} : ∀ b, (∀ t, t < b → p t = false) → cntF p b = 0 := by
  intro b
  induction b with
  | zero => intro _; rfl
  | succ b ih =>
    intro h
    rw [cntF_s, ih (fun t ht => h t (by omega)), h b (by omega)]
    rfl
theorem cnt_all {p : Nat → Bool} : ∀ b, (∀ t, t < b → p t = true) → cntF p b = b := by
  intro b
  induction b with
  | zero => intro _; rfl
  | succ b ih =>
    intro h
    rw [cntF_s, ih (fun t ht => h t (by omega)), h b (by omega)]
    rfl
theorem cnt_none {p : Nat → Bool} : ∀ b, cntF p b = 0 → ∀ t, t < b → p t = false := by
  intro b
  induction b with
  | zero => intro _ t ht; omega
  | succ b ih =>
    intro h t ht
    rw [cntF_s] at h
    by_cases htb : t = b
    · subst htb
      cases hp : p t
      · rfl
      · rw [hp] at h
        simp at h
    · exact ih (by omega) t (by omega)
theorem cnt_mono {p : Nat → Bool} (b : Nat) : ∀ d, cntF p b ≤ cntF p (b + d) := by
  intro d
  induction d with
  | zero => exact Nat.le_refl _
  | succ d ih =>
    have := cntF_s p (b + d)
    rw [show b + (d + 1) = b + d + 1 by omega]
    omega
theorem cnt_four {F : Nat → Nat} (h : ∀ t, F t ≤ 3) : ∀ b, cntF (fun t => decide (F t = 0)) b + cntF (fun t => decide (F t = 1)) b + cntF (fun t => decide (F t = 2)) b + cntF (fun t => decide (F t = 3)) b = b := by
  intro b
  induction b with
  | zero => rfl
  | succ b ih =>
    have := h b
    simp only [cntF_s, decide_eq_true_eq]
    rcases (show F b = 0 ∨ F b = 1 ∨ F b = 2 ∨ F b = 3 by omega) with e | e | e | e <;> simp only [e, if_true, if_false, Nat.reduceEqDiff, Nat.one_ne_zero, Nat.zero_ne_one] <;> omega
theorem cnt_five {g : Nat → Sg} {n : Nat} (hk : ∀ i, i < n → sK (g i) ≤ 3) {x : Nat → Option Nat} (hx : ∀ t i, x t = some i → i < n) : ∀ b, cntF (fun t => cdO g (-1) (x t)) b = cntF (fun t => cdO g (nI 0) (x t)) b + cntF (fun t => cdO g (nI 1) (x t)) b + cntF (fun t => cdO g (nI 2) (x t)) b + cntF (fun t => cdO g (nI 3) (x t)) b := by
  intro b
  induction b with
  | zero => rfl
  | succ b ih =>
    simp only [cntF_s]
    rw [ih]
    cases hb : x b with
    | none =>
      simp only [cdO]
      simp
    | some i =>
      have h3 := hk i (hx b i hb)
      have e0 : cdO g (-1) (some i) = true := by simp [cdO]
      have ek : ∀ k : Nat, k ≤ 3 → cdO g (nI k) (some i) = decide (sK (g i) = k) := by
        intro k hk
        have a1 : ¬ (nI k = (-1 : Int32)) := by rw [nz_ne1 k (by omega)]; exact id
        have a2 : (nI (sK (g i)) = nI k) ↔ sK (g i) = k := nI_eq (by omega) (by omega)
        simp only [cdO]
        rw [decide_eq_decide]
        constructor
        · rintro (z | z)
          · exact absurd z a1
          · exact a2.mp z
        · intro z
          exact Or.inr (a2.mpr z)
      rw [e0, ek 0 (by omega), ek 1 (by omega), ek 2 (by omega), ek 3 (by omega)]
      simp only [decide_eq_true_eq, if_true]
      rcases (show sK (g i) = 0 ∨ sK (g i) = 1 ∨ sK (g i) = 2 ∨ sK (g i) = 3 by omega) with e | e | e | e <;> simp only [e, if_true, if_false, Nat.reduceEqDiff, Nat.one_ne_zero, Nat.zero_ne_one] <;> omega
-- flights
theorem up_cnt (F : Nat → Nat) : ∀ t, upN F t ≤ cntF (fun t => decide (F t = 0)) t := by
  intro t
  induction t with
  | zero => exact Nat.le_refl 0
  | succ t ih =>
    unfold upN
    simp only [cntF_s, decide_eq_true_eq]
    split <;> omega
theorem dn_cnt (F : Nat → Nat) : ∀ d t, cntF (fun t => decide (F t = 0)) t + dnN F d t ≤ cntF (fun t => decide (F t = 0)) (t + d) := by
  intro d
  induction d with
  | zero => intro t; exact Nat.le_refl _
  | succ d ih =>
    intro t
    have h1 := ih (t + 1)
    have h2 := cnt_mono (p := fun t => decide (F t = 0)) t (d + 1)
    rw [show t + 1 + d = t + (d + 1) by omega] at h1
    simp only [cntF_s, decide_eq_true_eq] at h1
    unfold dnN
    by_cases hf : F t = 0
    · rw [if_pos hf] at h1 ⊢
      omega
    · rw [if_neg hf]
      omega
theorem fl_cnt (F : Nat → Nat) {B t : Nat} (h : t < B) : flN F B t ≤ cntF (fun t => decide (F t = 0)) B := by
  unfold flN
  split
  · have h1 := up_cnt F t
    have h2 := dn_cnt F (B - t) t
    rw [show t + (B - t) = B by omega] at h2
    omega
  · exact Nat.zero_le _
theorem fl_pos (F : Nat → Nat) {B t : Nat} (h : t < B) : 0 < flN F B t ↔ F t = 0 := by
  unfold flN
  constructor
  · intro h
    by_cases hf : F t = 0
    · exact hf
    · rw [if_neg hf] at h; omega
  · intro hf
    rw [if_pos hf]
    obtain ⟨d, hd⟩ : ∃ d, B - t = d + 1 := ⟨B - t - 1, by omega⟩
    rw [hd]
    unfold dnN
    rw [if_pos hf]
    omega
theorem mx_ge (f : Nat → Nat) : ∀ b t, t < b → f t ≤ mxF f b := by
  intro b
  induction b with
  | zero => intro t ht; omega
  | succ b ih =>
    intro t ht
    unfold mxF
    by_cases htb : t = b
    · subst htb
      split <;> omega
    · have := ih t (by omega)
      split <;> omega
theorem fc_cnt {F : Nat → Nat} {B : Nat} : ∀ b, b ≤ B → fcF (flN F B) b ≤ cntF (fun t => decide (F t = 0)) b ∧ (fcF (flN F B) b = 0 → cntF (fun t => decide (F t = 0)) b = 0) := by
  intro b
  induction b with
  | zero => intro _; exact ⟨Nat.le_refl 0, fun _ => rfl⟩
  | succ b ih =>
    intro hb
    obtain ⟨h1, h2⟩ := ih (by omega)
    have hp := fl_pos F (show b < B by omega)
    rw [fcF_s, cntF_s]
    simp only [decide_eq_true_eq]
    by_cases hf : F b = 0
    · rw [if_pos hf]
      refine ⟨by split <;> omega, fun h => ?_⟩
      have h0 : fcF (flN F B) b = 0 := by omega
      have hc := h2 h0
      have hprv : prv (flN F B) b = 0 := by
        cases b with
        | zero => rfl
        | succ b =>
          show flN F B b = 0
          have hn := cnt_none _ hc b (by omega)
          have hp2 := fl_pos F (show b < B by omega)
          simp only [decide_eq_false_iff_not] at hn
          omega
      rw [if_pos ⟨hp.mpr hf, hprv⟩] at h
      omega
    · rw [if_neg hf]
      have hn : ¬ 0 < flN F B b := fun z => hf (hp.mp z)
      rw [if_neg (fun z => hn z.1)]
      exact ⟨by omega, fun h => by have := h2 (by omega); omega⟩
theorem an_false {p : Nat → Bool} : ∀ d t, anF p d t = false → ∀ x, t ≤ x → x < t + d → p x = false := by
  intro d
  induction d with
  | zero => intro t _ x h1 h2; omega
  | succ d ih =>
    intro t h x h1 h2
    unfold anF at h
    cases hp : p t
    · rw [hp] at h
      simp only [Bool.false_eq_true, if_false] at h
      by_cases hx : x = t
      · rw [hx]; exact hp
      · exact ih (t + 1) h x (by omega) (by omega)
    · rw [hp] at h
      simp at h
theorem nxt_ok {p : Nat → Bool} : ∀ d t, (nxtF p d t = -1004 ∧ ∀ x, t ≤ x → x < t + d → p x = false) ∨ ∃ x, t ≤ x ∧ x < t + d ∧ nxtF p d t = nI x ∧ p x = true := by
  intro d
  induction d with
  | zero => intro t; exact Or.inl ⟨rfl, fun x h1 h2 => by omega⟩
  | succ d ih =>
    intro t
    unfold nxtF
    cases hp : p t
    · simp only [Bool.false_eq_true, if_false]
      rcases ih (t + 1) with ⟨h1, h2⟩ | ⟨x, h1, h2, h3, h4⟩
      · refine Or.inl ⟨h1, fun x a b => ?_⟩
        by_cases hx : x = t
        · rw [hx]; exact hp
        · exact h2 x (by omega) (by omega)
      · exact Or.inr ⟨x, by omega, by omega, h3, h4⟩
    · exact Or.inr ⟨t, Nat.le_refl t, by omega, by simp, hp⟩
/-- no beat is faulty just when the leap is at least the least one -/
theorem leap_iff {B L n : Nat} {g : Nat → Sg} (ha : anF (fun t => decide (twN B n g t ≠ 0)) B 0 = false) : cntF (wrB B L n g) B = 0 ↔ mxF (flN (ftN B n g) B) B ≤ L := by
  have ht : ∀ t, t < B → twN B n g t = 0 := fun t h => by
    have := an_false B 0 ha t (by omega) (by omega)
    simpa using this
  constructor
  · intro h
    refine mxF_le _ B (fun t hB => ?_)
    have := cnt_none B h t hB
    unfold wrB at this
    simp only [decide_eq_false_iff_not] at this
    omega
  · intro h
    refine cnt_zero B (fun t hB => ?_)
    have h1 := mx_ge (flN (ftN B n g) B) B t hB
    have h2 := ht t hB
    unfold wrB
    simp only [decide_eq_false_iff_not]
    omega
-- signs
section SGS
variable {B L n : Nat} {g : Nat → Sg}
theorem key_lt (hv : Val B n g) {i : Nat} (h : i + 1 < n) : 7 * sB (g i) + sC (g i) < 7 * sB (g (i + 1)) + sC (g (i + 1)) := by
  obtain ⟨w1, w2, w3, v1, v2, v3⟩ := hv
  have h1 := v2 i (i + 1) (by omega) h
  have h2 := (v1 i (by omega)).1.1
  have h3 := (v1 (i + 1) h).1.1
  omega
theorem latest_of (hv : Val B n g) {i t : Nat} (hi : i < n) (h1 : sB (g i) ≤ t) (h2 : ∀ j, i < j → j < n → sC (g j) = sC (g i) → t < sB (g j)) : latest g n (sC (g i)) t = some i := by
  unfold latest
  refine lastF_of hi (by simp [h1]) (fun j hj hjn => ?_)
  simp only [decide_eq_false_iff_not, not_and]
  intro hc
  have := h2 j hj hjn hc
  omega
theorem endN_ok (hv : Val B n g) {i : Nat} (hi : i < n) : sB (g i) < endN B n g i ∧ endN B n g i ≤ B ∧ (∀ j, i < j → j < n → sC (g j) = sC (g i) → endN B n g i ≤ sB (g j)) ∧ endN B n g i ≤ eM B (g i) := by
  obtain ⟨w1, w2, w3, v1, v2, v3⟩ := id hv
  obtain ⟨o1, o2⟩ := v1 i hi
  have os := okS_b o1
  unfold endN eM
  by_cases hk : sK (g i) = 1
  · rw [if_pos hk, if_pos hk]
    rcases nxt_spec B g (sC (g i)) (n - (i + 1)) (i + 1) with ⟨x, h1, h2, h3, h4, h5⟩ | ⟨h1, h2⟩
    · rw [h4]
      have a := v3 i x (by omega) (by omega) h3.symm
      obtain ⟨p1, p2⟩ := v1 x (by omega)
      have ps := okS_b p1
      refine ⟨by omega, by omega, fun j hj hjn hc => ?_, by omega⟩
      rcases Nat.lt_trichotomy j x with h | h | h
      · exact absurd hc (h5 j (by omega) h)
      · rw [h]; exact Nat.le_refl _
      · have := v3 x j h hjn (by rw [h3, hc])
        omega
    · rw [h2]
      exact ⟨by omega, by omega, fun j hj hjn hc => absurd hc (h1 j (by omega) (by omega)), Nat.le_refl _⟩
  · rw [if_neg hk, if_neg hk]
    have e : sS (g i) = sN (g i) := sS_N hk
    refine ⟨by omega, by omega, fun j hj hjn hc => ?_, Nat.le_refl _⟩
    have := v3 i j hj hjn hc.symm
    omega
/-- a sign covers its beats -/
theorem cv_own (hv : Val B n g) {i t : Nat} (hi : i < n) (h1 : sB (g i) ≤ t) (h2 : t < endN B n g i) : cv B n g (sC (g i)) t = some i := by
  obtain ⟨e1, e2, e3, e4⟩ := endN_ok hv hi
  have hl := latest_of hv hi h1 (fun j hj hjn hc => by have := e3 j hj hjn hc; omega)
  unfold cv
  rw [hl]
  simp only
  rw [if_pos (by omega)]
theorem like_self (x : Option Nat) : likeB false g x x = true := by
  cases x with
  | none => rfl
  | some i => simp [likeB]
theorem al_self : alV false B n g 0 B 0 = nI B := by
  unfold alV
  rw [Nat.sub_zero, cnt_all B (fun t _ => ?_)]
  have : ∀ c, dcN false B n g 0 0 c t = 0 := by
    intro c
    induction c with
    | zero => rfl
    | succ c ih =>
      rw [dcN_s, ih]
      simp only [Bool.false_eq_true, if_false]
      rw [like_self]
      rfl
  simp [this]
theorem pl_le (hv : Val B n g) (b : Bool) (t : Nat) : -(2 * n : Int) ≤ plI b g n t ∧ plI b g n t ≤ 2 * n := by
  have h := sumI_le (f := plTerm b g n t) (m := 2) n (fun i hi => by
    have hu := unI_le b ((fcN g n (sB (g i)) + (sW (g i)).toNat - 1) % 8)
    unfold plTerm uTerm
    split
    · split <;> omega
    · omega)
  rw [plI_eq hv b t] at h
  omega
theorem ds_le (hv : Val B n g) (t : Nat) : dsN g n t ≤ 4 * n := by
  have h1 := pl_le hv true t
  have h2 := pl_le hv false t
  unfold dsN
  split <;> omega
theorem far_le (hv : Val B n g) : mxF (dsN g n) (B + 1) ≤ 4 * n := mxF_le _ _ (fun t _ => ds_le hv t)
theorem bt_1 (w : Nat) (h1 : 1 ≤ w) (h4 : w ≤ 4) : btV B L n g w = nI (cntF (fun t => decide (ftN B n g t = w - 1)) B) := by
  unfold btV
  rw [if_neg (by omega), if_neg (by omega)]
  rw [cntF_congr (p := bpB B L n g w) (q := fun t => decide (ftN B n g t = w - 1)) B (fun t _ => by unfold bpB; rw [if_neg (by omega)]; simp [show w < 5 by omega])]
theorem bt_0 : btV B L n g 0 = nI (cntF (wrB B L n g) B) := by
  unfold btV
  rw [if_neg (by decide), if_neg (by decide)]
  rfl
theorem bt_5 : btV B L n g 5 = nI (mxF (flN (ftN B n g) B) B) := by unfold btV; rw [if_pos rfl]
theorem bt_6 : btV B L n g 6 = nI (fcF (flN (ftN B n g) B) B) := by unfold btV; rw [if_neg (by decide), if_pos rfl]
end SGS
