/-! WHICH SIGN COVERS A BEAT -/
def lastF (p : Nat → Bool) : Nat → Option Nat
  | 0 => none
  | k + 1 => if p k = true then some k else lastF p k
theorem lastF_some {p : Nat → Bool} : ∀ {n i : Nat}, lastF p n = some i → i < n ∧ p i = true ∧ ∀ j, i < j → j < n → p j = false := by
  intro n
  induction n with
  | zero => intro i h; cases h
  | succ n ih =>
    intro i h
    unfold lastF at h
    split at h
    · rename_i hp
      cases h
      exact ⟨by omega, hp, fun j h1 h2 => by omega⟩
    · rename_i hp
      obtain ⟨h1, h2, h3⟩ := ih h
      refine ⟨by omega, h2, fun j h4 h5 => ?_⟩
      by_cases hj : j = n
      · subst hj; simpa using hp
      · exact h3 j h4 (by omega)
theorem lastF_none {p : Nat → Bool} : ∀ {n : Nat}, lastF p n = none → ∀ i, i < n → p i = false := by
  intro n
  induction n with
  | zero => intro _ i h; omega
  | succ n ih =>
    intro h i hi
    unfold lastF at h
    split at h
    · cases h
    · rename_i hp
      by_cases hj : i = n
      · subst hj; simpa using hp
      · exact ih h i (by omega)
theorem lastF_of {p : Nat → Bool} {n i : Nat} (hi : i < n) (hp : p i = true) (h : ∀ j, i < j → j < n → p j = false) : lastF p n = some i := by
  cases hl : lastF p n with
  | none =>
    have := lastF_none hl i hi
    rw [hp] at this
    cases this
  | some k =>
    obtain ⟨h1, h2, h3⟩ := lastF_some hl
    by_cases e : k = i
    · rw [e]
    · by_cases e2 : k < i
      · have := h3 i e2 hi
        rw [hp] at this
        cases this
      · have := h k (by omega) h1
        rw [h2] at this
        cases this
theorem lastF_no {p : Nat → Bool} {n : Nat} (h : ∀ i, i < n → p i = false) : lastF p n = none := by
  cases hl : lastF p n with
  | none => rfl
  | some k =>
    obtain ⟨h1, h2, -⟩ := lastF_some hl
    rw [h k h1] at h2
    cases h2
def nxt (B : Nat) (g : Nat → Sg) (c : Nat) : Nat → Nat → Nat
  | 0, _ => B
  | d + 1, i => if sC (g i) = c then sB (g i) else nxt B g c d (i + 1)
theorem nxt_spec (B : Nat) (g : Nat → Sg) (c : Nat) : ∀ d i, (∃ x, i ≤ x ∧ x < i + d ∧ sC (g x) = c ∧ nxt B g c d i = sB (g x) ∧ ∀ y, i ≤ y → y < x → sC (g y) ≠ c) ∨ ((∀ y, i ≤ y → y < i + d → sC (g y) ≠ c) ∧ nxt B g c d i = B) := by
  intro d
  induction d with
  | zero => intro i; exact Or.inr ⟨fun y h1 h2 => by omega, rfl⟩
  | succ d ih =>
    intro i
    unfold nxt
    by_cases h : sC (g i) = c
    · rw [if_pos h]
      exact Or.inl ⟨i, Nat.le_refl i, by omega, h, rfl, fun y h1 h2 => by omega⟩
    · rw [if_neg h]
      rcases ih (i + 1) with ⟨x, h1, h2, h3, h4, h5⟩ | ⟨h1, h2⟩
      · refine Or.inl ⟨x, by omega, by omega, h3, h4, fun y h6 h7 => ?_⟩
        by_cases hy : y = i
        · subst hy; exact h
        · exact h5 y (by omega) h7
      · refine Or.inr ⟨fun y h6 h7 => ?_, h2⟩
        by_cases hy : y = i
        · subst hy; exact h
        · exact h1 y (by omega) (by omega)
def endN (B n : Nat) (g : Nat → Sg) (i : Nat) : Nat := if sK (g i) = 1 then nxt B g (sC (g i)) (n - (i + 1)) (i + 1) else sB (g i) + sN (g i)
/-- a score as it may be -/
def Val (B n : Nat) (g : Nat → Sg) : Prop := 4 ≤ B ∧ B ≤ 48 ∧ n ≤ 120 ∧ (∀ i, i < n → okS (g i) ∧ sB (g i) + sS (g i) ≤ B) ∧ (∀ i j, i < j → j < n → 8 * sB (g i) + sC (g i) < 8 * sB (g j) + sC (g j)) ∧ (∀ i j, i < j → j < n → sC (g i) = sC (g j) → sB (g i) + sS (g i) ≤ sB (g j))
def eM (B : Nat) (s : Sg) : Nat := if sK s = 1 then B else sB s + sN s
def latest (g : Nat → Sg) (n c t : Nat) : Option Nat := lastF (fun i => decide (sC (g i) = c ∧ sB (g i) ≤ t)) n
def cv (B n : Nat) (g : Nat → Sg) (c t : Nat) : Option Nat := match latest g n c t with
  | some i => if t < eM B (g i) then some i else none
  | none => none
theorem latest_some {g : Nat → Sg} {n c t i : Nat} (h : latest g n c t = some i) : i < n ∧ sC (g i) = c ∧ sB (g i) ≤ t ∧ ∀ j, i < j → j < n → sC (g j) = c → t < sB (g j) := by
  obtain ⟨h1, h2, h3⟩ := lastF_some h
  simp only [decide_eq_true_eq] at h2
  refine ⟨h1, h2.1, h2.2, fun j h4 h5 h6 => ?_⟩
  have := h3 j h4 h5
  simp only [decide_eq_false_iff_not] at this
  omega
theorem latest_none {g : Nat → Sg} {n c t : Nat} (h : latest g n c t = none) : ∀ i, i < n → sC (g i) = c → t < sB (g i) := by
  intro i hi hc
  have := lastF_none h i hi
  simp only [decide_eq_false_iff_not] at this
  omega
theorem sS_N {s : Sg} (h : sK s ≠ 1) : sS s = sN s := by unfold sS; rw [if_neg h]
/-- the latest sign covers the beat: told by the end that it has, or by the one that it would have alone -/
theorem end_iff {B n : Nat} {g : Nat → Sg} {c t i : Nat} (hv : Val B n g) (ht : t < B) (h : latest g n c t = some i) : t < endN B n g i ↔ t < eM B (g i) := by
  obtain ⟨h1, h2, h3, h4⟩ := latest_some h
  unfold endN eM
  by_cases hk : sK (g i) = 1
  · rw [if_pos hk, if_pos hk]
    rcases nxt_spec B g (sC (g i)) (n - (i + 1)) (i + 1) with ⟨x, a1, a2, a3, a4, a5⟩ | ⟨a1, a2⟩
    · rw [a4]
      have := h4 x (by omega) (by omega) (by omega)
      omega
    · rw [a2]
  · rw [if_neg hk, if_neg hk]
theorem cv_end {B n : Nat} {g : Nat → Sg} (hv : Val B n g) {c t : Nat} (ht : t < B) : lastF (fun i => decide (sC (g i) = c ∧ sB (g i) ≤ t ∧ t < endN B n g i)) n = cv B n g c t := by
  unfold cv
  cases hl : latest g n c t with
  | none =>
    refine lastF_no (fun i hi => ?_)
    have := latest_none hl i hi
    simp only [decide_eq_false_iff_not]
    intro z
    have := this z.1
    omega
  | some i =>
    obtain ⟨h1, h2, h3, h4⟩ := latest_some hl
    have he := end_iff hv ht hl
    simp only
    by_cases hc : t < eM B (g i)
    · rw [if_pos hc]
      refine lastF_of h1 (by simp only [decide_eq_true_eq]; exact ⟨h2, h3, he.mpr hc⟩) (fun j hj hjn => ?_)
      simp only [decide_eq_false_iff_not]
      intro z
      have := h4 j hj hjn z.1
      omega
    · rw [if_neg hc]
      refine lastF_no (fun j hj => ?_)
      simp only [decide_eq_false_iff_not]
      rintro ⟨z1, z2, z3⟩
      obtain ⟨-, -, -, v1, v2, v3⟩ := hv
      by_cases hji : j = i
      · subst hji
        exact hc (he.mp z3)
      · have hlt : j < i := by
          by_cases hgt : i < j
          · have := h4 j hgt hj z1
            omega
          · omega
        have hno := v3 j i hlt h1 (by omega)
        unfold endN at z3
        by_cases hk : sK (g j) = 1
        · rw [if_pos hk] at z3
          rcases nxt_spec B g (sC (g j)) (n - (j + 1)) (j + 1) with ⟨x, a1, a2, a3, a4, a5⟩ | ⟨a1, a2⟩
          · have hxi : x ≤ i := by
              by_cases hx : x ≤ i
              · exact hx
              · exact absurd (by omega) (a5 i (by omega) (by omega))
            have : sB (g x) ≤ sB (g i) := by
              by_cases hx : x = i
              · rw [hx]; exact Nat.le_refl _
              · have := v2 x i (by omega) h1
                omega
            omega
          · exact absurd (by omega) (a1 i (by omega) (by omega))
        · rw [if_neg hk] at z3
          rw [sS_N hk] at hno
          omega
def oI (x : Option Nat) : Int32 := match x with
  | some i => nI i
  | none => -1
def oP (g : Nat → Sg) (x : Option Nat) : Int32 := match x with
  | some i => nI (pk (g i))
  | none => -1
/-- there is room for a sign -/
def roomS (B n : Nat) (g : Nat → Sg) (c b l : Nat) : Prop := ∀ i, i < n → ¬ (sC (g i) = c ∧ sB (g i) < b + l ∧ b < sB (g i) + sS (g i))
/-- as the reference tells it -/
theorem room_iff {B n : Nat} {g : Nat → Sg} (hv : Val B n g) {c b l : Nat} (hb : b < B) (hl : 1 ≤ l) :
    roomS B n g c b l ↔ ((∀ i, cv B n g c b = some i → sK (g i) = 1) ∧ ∀ i, i < n → ¬ (sC (g i) = c ∧ b ≤ sB (g i) ∧ sB (g i) ≤ b + l - 1)) := by
  obtain ⟨w1, w2, w3, v1, v2, v3⟩ := id hv
  constructor
  · intro h
    refine ⟨fun i hi => ?_, fun i hi z => ?_⟩
    · unfold cv at hi
      cases hla : latest g n c b with
      | none => rw [hla] at hi; cases hi
      | some k =>
        rw [hla] at hi
        simp only at hi
        split at hi
        · cases hi
          rename_i hlt
          obtain ⟨h1, h2, h3, h4⟩ := latest_some hla
          by_cases hk : sK (g i) = 1
          · exact hk
          · unfold eM at hlt
            rw [if_neg hk] at hlt
            have := h i h1
            rw [sS_N hk] at this
            exact absurd ⟨h2, by omega, by omega⟩ this
        · cases hi
    · have := v1 i hi
      have hs := (okS_b this.1).2.2.1
      exact h i hi ⟨z.1, by omega, by omega⟩
  · rintro ⟨h1, h2⟩ i hi ⟨z1, z2, z3⟩
    have h3 := h2 i hi
    by_cases hbi : b ≤ sB (g i)
    · exact h3 ⟨z1, hbi, by omega⟩
    · -- the sign i begins before b and goes beyond it: it is the latest, and no hold
      have hk : sK (g i) ≠ 1 := by
        intro hk
        unfold sS at z3
        rw [if_pos hk] at z3
        omega
      have hlat : latest g n c b = some i := by
        refine lastF_of hi (by simp only [decide_eq_true_eq]; exact ⟨z1, by omega⟩) (fun j hj hjn => ?_)
        simp only [decide_eq_false_iff_not]
        rintro ⟨y1, y2⟩
        have := v3 i j hj hjn (by omega)
        omega
      have : cv B n g c b = some i := by
        unfold cv
        rw [hlat]
        simp only
        rw [if_pos]
        unfold eM
        rw [if_neg hk]
        rw [sS_N hk] at z3
        exact z3
      exact hk (h1 i this)

