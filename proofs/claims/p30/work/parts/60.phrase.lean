/-! THE PHRASE, by the class -/
def cpB (f l o r : Nat) (s : Sg) : Nat := if r = 1 then o + l - seN s else o + sB s - f
def cpyS (f l o a r : Nat) (s : Sg) : Sg := if r = 1 then revS (if a = 1 then mirS (movS s (cpB f l o r s)) else movS s (cpB f l o r s)) else (if a = 1 then mirS (movS s (cpB f l o r s)) else movS s (cpB f l o r s))
abbrev inPh (f l : Nat) (s : Sg) : Prop := f ≤ sB s ∧ seN s ≤ l
def phR (f l o a r : Nat) (g : Nat → Sg) : Nat → Nat × (Nat → Sg)
  | 0 => (0, gZ)
  | i + 1 => if inPh f l (g i) then ((phR f l o a r g i).1 + 1, insG (phR f l o a r g i).2 (pos (gtD (phR f l o a r g i).2 (cpyS f l o a r (g i))) (phR f l o a r g i).1) (cpyS f l o a r (g i))) else phR f l o a r g i
theorem cpy_f {f l o a r : Nat} {s : Sg} (h : okS s) : okS (cpyS f l o a r s) ∧ sC (cpyS f l o a r s) = (if a = 1 then mirC (sC s) else sC s) ∧ sB (cpyS f l o a r s) = cpB f l o r s ∧ sS (cpyS f l o a r s) = sS s ∧ sK (cpyS f l o a r s) = sK s := by
  unfold cpyS
  by_cases hr : r = 1 <;> by_cases ha : a = 1
  · simp only [hr, ha, if_true]
    exact ⟨okS_rev (okS_mir h), rfl, rfl, rfl, rfl⟩
  · simp only [hr, ha, if_true, if_false]
    exact ⟨okS_rev h, rfl, rfl, rfl, rfl⟩
  · simp only [hr, ha, if_true, if_false]
    exact ⟨okS_mir h, rfl, rfl, rfl, rfl⟩
  · simp only [hr, ha, if_false]
    exact ⟨h, rfl, rfl, rfl, rfl⟩
theorem mirC_inj {c d : Nat} (hc : c ≤ 6) (hd : d ≤ 6) (h : mirC c = mirC d) : c = d := by
  unfold mirC at h
  split at h <;> split at h <;> (try split at h) <;> (try split at h) <;> omega
theorem cpB_le {f l o r : Nat} {s : Sg} (hs : okS s) (hp : inPh f l s) (ho : o ≤ 47) (hl : l ≤ 48) : cpB f l o r s ≤ 94 := by
  have := (okS_b hs).2.2.1
  obtain ⟨h1, h2⟩ := hp
  unfold seN at h2
  unfold cpB seN
  split <;> omega
theorem cpy_key {B n f l o a r : Nat} {g : Nat → Sg} (hv : Val B n g) (ho : o ≤ 47) (hl : l ≤ 48) {i j : Nat} (hi : i < n) (hj : j < n) (hij : i ≠ j) (pi : inPh f l (g i)) (pj : inPh f l (g j)) : 8 * sB (cpyS f l o a r (g i)) + sC (cpyS f l o a r (g i)) ≠ 8 * sB (cpyS f l o a r (g j)) + sC (cpyS f l o a r (g j)) := by
  intro e
  have oi := (hv.2.2.2.1 i hi).1
  have oj := (hv.2.2.2.1 j hj).1
  obtain ⟨a1, a2, a3, a4, a5⟩ := cpy_f (f := f) (l := l) (o := o) (a := a) (r := r) oi
  obtain ⟨b1, b2, b3, b4, b5⟩ := cpy_f (f := f) (l := l) (o := o) (a := a) (r := r) oj
  have ca := a1.1
  have cb := b1.1
  have eB : sB (cpyS f l o a r (g i)) = sB (cpyS f l o a r (g j)) := by omega
  have eC : sC (cpyS f l o a r (g i)) = sC (cpyS f l o a r (g j)) := by omega
  have eC2 : sC (g i) = sC (g j) := by
    rw [a2, b2] at eC
    by_cases ha : a = 1
    · rw [if_pos ha, if_pos ha] at eC
      exact mirC_inj oi.1 oj.1 eC
    · rw [if_neg ha, if_neg ha] at eC
      exact eC
  rw [a3, b3] at eB
  obtain ⟨p1, p2⟩ := pi
  obtain ⟨q1, q2⟩ := pj
  unfold cpB at eB
  by_cases hr : r = 1
  · rw [if_pos hr, if_pos hr] at eB
    exact hij (end_one hv hi hj eC2 (by omega))
  · rw [if_neg hr, if_neg hr] at eB
    have h2 := hv.2.2.2.2.1
    rcases Nat.lt_trichotomy i j with h | h | h
    · have := h2 i j h hj; omega
    · exact hij h
    · have := h2 j i h hi; omega
theorem phR_ok {B n f l o a r : Nat} {g : Nat → Sg} : ∀ i, (phR f l o a r g i).1 ≤ i ∧ ∀ j, j < (phR f l o a r g i).1 → ∃ k, k < i ∧ inPh f l (g k) ∧ (phR f l o a r g i).2 j = cpyS f l o a r (g k) := by
  intro i
  induction i with
  | zero => exact ⟨Nat.le_refl 0, fun j hj => absurd hj (Nat.not_lt_zero j)⟩
  | succ i ih =>
    obtain ⟨h1, h2⟩ := ih
    by_cases hp : inPh f l (g i)
    · have e : phR f l o a r g (i + 1) = ((phR f l o a r g i).1 + 1, insG (phR f l o a r g i).2 (pos (gtD (phR f l o a r g i).2 (cpyS f l o a r (g i))) (phR f l o a r g i).1) (cpyS f l o a r (g i))) := by
        show (if inPh f l (g i) then _ else _) = _
        rw [if_pos hp]
      rw [e]
      refine ⟨by show (phR f l o a r g i).1 + 1 ≤ i + 1; omega, fun j hj => ?_⟩
      show ∃ k, k < i + 1 ∧ inPh f l (g k) ∧ insG (phR f l o a r g i).2 (pos (gtD (phR f l o a r g i).2 (cpyS f l o a r (g i))) (phR f l o a r g i).1) (cpyS f l o a r (g i)) j = cpyS f l o a r (g k)
      have hj : j < (phR f l o a r g i).1 + 1 := hj
      have hpos := pos_le (gtD (phR f l o a r g i).2 (cpyS f l o a r (g i))) (phR f l o a r g i).1
      generalize pos (gtD (phR f l o a r g i).2 (cpyS f l o a r (g i))) (phR f l o a r g i).1 = q at hpos ⊢
      rcases Nat.lt_trichotomy j q with h | h | h
      · rw [insG_lt h]
        obtain ⟨k, k1, k2, k3⟩ := h2 j (by omega)
        exact ⟨k, by omega, k2, k3⟩
      · subst h
        rw [insG_eq]
        exact ⟨i, by omega, hp, rfl⟩
      · rw [insG_gt h]
        obtain ⟨k, k1, k2, k3⟩ := h2 (j - 1) (by omega)
        exact ⟨k, by omega, k2, k3⟩
    · have e : phR f l o a r g (i + 1) = phR f l o a r g i := by
        show (if inPh f l (g i) then _ else _) = _
        rw [if_neg hp]
      rw [e]
      exact ⟨by omega, fun j hj => by
        obtain ⟨k, k1, k2, k3⟩ := h2 j hj
        exact ⟨k, by omega, k2, k3⟩⟩
/-- what is in the phrase so far may stand in a score -/
theorem phR_okG {B n f l o a r : Nat} {g : Nat → Sg} (hv : Val B n g) (ho : o ≤ 47) (hl : l ≤ 48) {i : Nat} (hi : i ≤ n) : okG (phR f l o a r g i).1 (phR f l o a r g i).2 := by
  intro j hj
  obtain ⟨k, k1, k2, k3⟩ := (phR_ok (B := B) (n := n) i).2 j hj
  have ok := (hv.2.2.2.1 k (by omega)).1
  obtain ⟨a1, a2, a3, a4, a5⟩ := cpy_f (f := f) (l := l) (o := o) (a := a) (r := r) ok
  rw [k3]
  exact ⟨a1, by rw [a3]; exact cpB_le ok k2 ho hl⟩
theorem phR_gt {B n f l o a r : Nat} {g : Nat → Sg} (hv : Val B n g) (ho : o ≤ 47) (hl : l ≤ 48) {i : Nat} (hi : i < n) (hp : inPh f l (g i)) : pos (gtP (phR f l o a r g i).2 (cpyS f l o a r (g i))) (phR f l o a r g i).1 = pos (gtD (phR f l o a r g i).2 (cpyS f l o a r (g i))) (phR f l o a r g i).1 := by
  have ok := (hv.2.2.2.1 i hi).1
  obtain ⟨a1, a2, a3, a4, a5⟩ := cpy_f (f := f) (l := l) (o := o) (a := a) (r := r) ok
  refine gt_same (phR_okG hv ho hl (by omega)) a1 (by rw [a3]; exact cpB_le ok hp ho hl) (fun j hj => ?_)
  obtain ⟨k, k1, k2, k3⟩ := (phR_ok (B := B) (n := n) i).2 j hj
  rw [k3]
  exact cpy_key hv ho hl hi (by omega) (by omega) hp k2
def roomD (B n : Nat) (g : Nat → Sg) (c b l : Nat) : Decidable (roomS B n g c b l) := by
  unfold roomS
  exact inferInstance
def fitS (B n : Nat) (g : Nat → Sg) (s : Sg) : Bool := @decide (sB s + sS s ≤ B ∧ roomS B n g (sC s) (sB s) (sS s)) (@instDecidableAnd _ _ _ (roomD B n g (sC s) (sB s) (sS s)))
theorem fitS_iff {B n : Nat} {g : Nat → Sg} {s : Sg} : fitS B n g s = true ↔ (sB s + sS s ≤ B ∧ roomS B n g (sC s) (sB s) (sS s)) := by
  unfold fitS
  exact @decide_eq_true_iff _ (_)
def tryF (B : Nat) (ph : Nat → Sg) : Nat → Nat → Nat → (Nat → Sg) → Option (Nat × (Nat → Sg))
  | 0, _, n, g => some (n, g)
  | d + 1, i, n, g => if fitS B n g (ph i) = true then tryF B ph d (i + 1) (n + 1) (insG g (pos (gtD g (ph i)) n) (ph i)) else none
section PH
variable {M : mm_M} {Q : mm_Q} {B L n h : Nat} {g : Nat → Sg} {H : Nat → St}
/-- the phrase is gathered -/
theorem p_gather (hC : isC M 1 B L n g) (hv : Val B n g) (hn : n ≤ 60) {f l o a r : Nat} (hfl : f < l) (hl : l ≤ B) (ho : o < B) (ha : a ≤ 1) (hr : r ≤ 1)
    (hQ : ∀ M' l6 l7 l8, Same [3, 4] M M' → isC M' 3 B L (phR f l o a r g n).1 (phR f l o a r g n).2 → wp 68 141 [some (.inr 0), some (.inl (nI f)), some (.inl (nI l)), some (.inl (nI o)), some (.inl (nI a)), some (.inl (nI r)), l6, l7, l8] [] M' Q) :
    wp 68 37 [some (.inr 0), some (.inl (nI f)), some (.inl (nI l)), some (.inl (nI o)), some (.inl (nI a)), some (.inl (nI r)), none, none, none] [] M Q := by
  obtain ⟨x0, x1, x2, x3⟩ := id hC
  have w1 := hv.1
  have w2 := hv.2.1
  have loop : ∀ d i : Nat, i + d = n → ∀ (M' : mm_M) l7 l8, Same [3, 4] M M' → isC M' 3 B L (phR f l o a r g i).1 (phR f l o a r g i).2 → wp 68 51 [some (.inr 0), some (.inl (nI f)), some (.inl (nI l)), some (.inl (nI o)), some (.inl (nI a)), some (.inl (nI r)), some (.inl (nI i)), l7, l8] [] M' Q := by
    intro d
    induction d with
    | zero =>
      intro i hi M' l7 l8 hS hC3
      have hi : i = n := by omega
      subst hi
      have e2 : M' 1 2 = nI i := by rw [hS 1 (by decide), x2]
      rw [iX7_copyPhrase_51]
      simp (disch := first | assumption | exact isSc1 | exact isSc3 | exact isSc5 | decide | omega) only [iX7_copyPhrase_53, iX7_copyPhrase_54, iX7_copyPhrase_57, iX7_copyPhrase_60, Nat.reduceAdd, Nat.reduceSub, Nat.reduceMul, Nat.reduceLeDiff, mm_rv_s, mm_rv_n, true_and, and_true, if_true, if_false, not_true_eq_false, not_false_eq_true, nI_add, nz_0, nz_lt0, nz_0le, nz_0lt, nz_le0, nz_lt, nz_le, nz_eq, nz_cl, nz_in, nz_sub, nz_m1, pk_mul, set_o, set_ne, up_ne, up_set, n1_1, true_or, or_true, n1_01, n0_01, bI_01, bI_01b, bI_0, isSc1, isSc3, isSc5, ln_2, ln_4, ln_6, ln_8, ln_10, ln_11, ln_12, ln_13, ln_14, ln_16, ln_17, ln_18, ln_19, ln_20, ln_21, ln_23, ln_24, ln_25, ln_27, ln_28, ln_29, e2, Nat.le_refl]
      exact hQ M' _ _ _ hS hC3
    | succ d ih =>
      intro i hi M' l7 l8 hS hC3
      have hin : i < n := by omega
      obtain ⟨o1, o2⟩ := hv.2.2.2.1 i hin
      have hb2 : sB (g i) < 128 := by omega
      have ob := okS_b o1
      have e2 : M' 1 2 = nI n := by rw [hS 1 (by decide), x2]
      have e22 : M' 2 i = nI (pk (g i)) := by rw [hS 2 (by decide), x3 i hin]
      rw [iX7_copyPhrase_51]
      simp (disch := first | assumption | exact isSc1 | exact isSc3 | exact isSc5 | decide | omega) only [iX7_copyPhrase_53, iX7_copyPhrase_54, iX7_copyPhrase_57, iX7_copyPhrase_60, iX7_copyPhrase_63, iX7_copyPhrase_64, iX7_copyPhrase_67, iX7_copyPhrase_69, iX7_copyPhrase_72, iX7_copyPhrase_74, iX7_copyPhrase_76, iX7_copyPhrase_77, iX7_copyPhrase_78, Nat.reduceAdd, Nat.reduceSub, Nat.reduceMul, Nat.reduceLeDiff, mm_rv_s, mm_rv_n, true_and, and_true, if_true, if_false, not_true_eq_false, not_false_eq_true, nI_add, nz_0, nz_lt0, nz_0le, nz_0lt, nz_le0, nz_lt, nz_le, nz_eq, nz_cl, nz_in, nz_sub, nz_m1, pk_mul, set_o, set_ne, up_ne, up_set, n1_1, true_or, or_true, n1_01, n0_01, bI_01, bI_01b, bI_0, isSc1, isSc3, isSc5, ln_2, ln_4, ln_6, ln_8, ln_10, ln_11, ln_12, ln_13, ln_14, ln_16, ln_17, ln_18, ln_19, ln_20, ln_21, ln_23, ln_24, ln_25, ln_27, ln_28, ln_29, e2, show ¬ n ≤ i by omega, p_at isSc1 e2, e22, g_isInPhrase o1 hb2 (show f < 128 by omega) (show l < 128 by omega)]
      by_cases hp : f ≤ sB (g i) ∧ sB (g i) + sS (g i) ≤ l
      · have hp2 : inPh f l (g i) := hp
        have hcb := cpB_le (r := r) o1 hp2 (show o ≤ 47 by omega) (show l ≤ 48 by omega)
        obtain ⟨a1, a2, a3, a4, a5⟩ := cpy_f (f := f) (l := l) (o := o) (a := a) (r := r) o1
        have eR : phR f l o a r g (i + 1) = ((phR f l o a r g i).1 + 1, insG (phR f l o a r g i).2 (pos (gtD (phR f l o a r g i).2 (cpyS f l o a r (g i))) (phR f l o a r g i).1) (cpyS f l o a r (g i))) := by
          show (if inPh f l (g i) then _ else _) = _
          rw [if_pos hp2]
        have tail : ∀ l8, wp 68 113 [some (.inr 0), some (.inl (nI f)), some (.inl (nI l)), some (.inl (nI o)), some (.inl (nI a)), some (.inl (nI r)), some (.inl (nI i)), some (.inl (nI (pk (g i)))), some (.inl (nI (cpB f l o r (g i))))] [] M' Q ∨ l8 = false := by
          intro l8
          left
          have ecp : (if r = 1 then revS (if a = 1 then mirS (movS (g i) (cpB f l o r (g i))) else movS (g i) (cpB f l o r (g i))) else (if a = 1 then mirS (movS (g i) (cpB f l o r (g i))) else movS (g i) (cpB f l o r (g i)))) = cpyS f l o a r (g i) := rfl
          have gm := fun Q => g_movedTo (M := M') (Q := Q) o1 hb2 (show cpB f l o r (g i) < 128 by omega)
          have gc := fun Q => g_copyOf (M := M') (Q := Q) (s := movS (g i) (cpB f l o r (g i))) ha hr o1 (show cpB f l o r (g i) < 128 by omega)
          simp only [ecp] at gc
          simp (disch := first | assumption | exact isSc1 | exact isSc3 | exact isSc5 | decide | omega) only [iX7_copyPhrase_113, iX7_copyPhrase_114, iX7_copyPhrase_117, iX7_copyPhrase_119, iX7_copyPhrase_121, iX7_copyPhrase_124, iX7_copyPhrase_126, iX7_copyPhrase_128, iX7_copyPhrase_131, Nat.reduceAdd, Nat.reduceSub, Nat.reduceMul, Nat.reduceLeDiff, mm_rv_s, mm_rv_n, true_and, and_true, if_true, if_false, not_true_eq_false, not_false_eq_true, nI_add, nz_0, nz_lt0, nz_0le, nz_0lt, nz_le0, nz_lt, nz_le, nz_eq, nz_cl, nz_in, nz_sub, nz_m1, pk_mul, set_o, set_ne, up_ne, up_set, n1_1, true_or, or_true, n1_01, n0_01, bI_01, bI_01b, bI_0, isSc1, isSc3, isSc5, ln_2, ln_4, ln_6, ln_8, ln_10, ln_11, ln_12, ln_13, ln_14, ln_16, ln_17, ln_18, ln_19, ln_20, ln_21, ln_23, ln_24, ln_25, ln_27, ln_28, ln_29, gm, gc]
          have hm := (phR_ok (B := B) (n := n) (f := f) (l := l) (o := o) (a := a) (r := r) (g := g) i).1
          have hg3 := phR_okG (a := a) (r := r) hv (show o ≤ 47 by omega) (show l ≤ 48 by omega) (show i ≤ n by omega) (f := f)
          refine p_put isSc3 hC3 (by omega) (fun j hj => sgp_lt (hg3 j hj).1 (by have := (hg3 j hj).2; omega)) (sgp_lt a1 (by omega)) (fun M4 hS4 hC4 => ?_)
          rw [phR_gt hv (by omega) (by omega) hin hp2] at hC4
          simp (disch := first | assumption | exact isSc1 | exact isSc3 | exact isSc5 | decide | omega) only [iX7_copyPhrase_134, iX7_copyPhrase_135, iX7_copyPhrase_138, Nat.reduceAdd, Nat.reduceSub, Nat.reduceMul, Nat.reduceLeDiff, mm_rv_s, mm_rv_n, true_and, and_true, if_true, if_false, not_true_eq_false, not_false_eq_true, nI_add, nz_0, nz_lt0, nz_0le, nz_0lt, nz_le0, nz_lt, nz_le, nz_eq, nz_cl, nz_in, nz_sub, nz_m1, pk_mul, set_o, set_ne, up_ne, up_set, n1_1, true_or, or_true, n1_01, n0_01, bI_01, bI_01b, bI_0, isSc1, isSc3, isSc5, ln_2, ln_4, ln_6, ln_8, ln_10, ln_11, ln_12, ln_13, ln_14, ln_16, ln_17, ln_18, ln_19, ln_20, ln_21, ln_23, ln_24, ln_25, ln_27, ln_28, ln_29]
          refine ih (i + 1) (by omega) M4 _ _ (hS.tr hS4) ?_
          rw [eR]
          exact hC4
        have tail2 := (tail true).resolve_right (by decide)
        simp only [hp, and_self, decide_true]
        by_cases hr1 : r = 1
        · have ec : cpB f l o r (g i) = o + l - (sB (g i) + sS (g i)) := by unfold cpB seN; rw [if_pos hr1]
          rw [ec] at tail2
          subst hr1
          simp (disch := first | assumption | exact isSc1 | exact isSc3 | exact isSc5 | decide | omega) only [iX7_copyPhrase_81, iX7_copyPhrase_84, iX7_copyPhrase_86, iX7_copyPhrase_87, iX7_copyPhrase_90, iX7_copyPhrase_91, iX7_copyPhrase_92, iX7_copyPhrase_93, iX7_copyPhrase_95, iX7_copyPhrase_98, iX7_copyPhrase_99, iX7_copyPhrase_102, iX7_copyPhrase_103, iX7_copyPhrase_105, iX7_copyPhrase_108, iX7_copyPhrase_109, iX7_copyPhrase_110, iX7_copyPhrase_111, Nat.reduceAdd, Nat.reduceSub, Nat.reduceMul, Nat.reduceLeDiff, mm_rv_s, mm_rv_n, true_and, and_true, if_true, if_false, not_true_eq_false, not_false_eq_true, nI_add, nz_0, nz_lt0, nz_0le, nz_0lt, nz_le0, nz_lt, nz_le, nz_eq, nz_cl, nz_in, nz_sub, nz_m1, pk_mul, set_o, set_ne, up_ne, up_set, n1_1, true_or, or_true, n1_01, n0_01, bI_01, bI_01b, bI_0, isSc1, isSc3, isSc5, ln_2, ln_4, ln_6, ln_8, ln_10, ln_11, ln_12, ln_13, ln_14, ln_16, ln_17, ln_18, ln_19, ln_20, ln_21, ln_23, ln_24, ln_25, ln_27, ln_28, ln_29, bI_0, Bool.true_eq_false, g_shortEndOf o1 hb2]
          exact tail2
        · have ec : cpB f l o r (g i) = o + sB (g i) - f := by unfold cpB; rw [if_neg hr1]
          rw [ec] at tail2
          simp (disch := first | assumption | exact isSc1 | exact isSc3 | exact isSc5 | decide | omega) only [iX7_copyPhrase_81, iX7_copyPhrase_84, iX7_copyPhrase_86, iX7_copyPhrase_87, iX7_copyPhrase_90, iX7_copyPhrase_91, iX7_copyPhrase_92, iX7_copyPhrase_93, iX7_copyPhrase_95, iX7_copyPhrase_98, iX7_copyPhrase_99, iX7_copyPhrase_102, iX7_copyPhrase_103, iX7_copyPhrase_105, iX7_copyPhrase_108, iX7_copyPhrase_109, iX7_copyPhrase_110, iX7_copyPhrase_111, Nat.reduceAdd, Nat.reduceSub, Nat.reduceMul, Nat.reduceLeDiff, mm_rv_s, mm_rv_n, true_and, and_true, if_true, if_false, not_true_eq_false, not_false_eq_true, nI_add, nz_0, nz_lt0, nz_0le, nz_0lt, nz_le0, nz_lt, nz_le, nz_eq, nz_cl, nz_in, nz_sub, nz_m1, pk_mul, set_o, set_ne, up_ne, up_set, n1_1, true_or, or_true, n1_01, n0_01, bI_01, bI_01b, bI_0, isSc1, isSc3, isSc5, ln_2, ln_4, ln_6, ln_8, ln_10, ln_11, ln_12, ln_13, ln_14, ln_16, ln_17, ln_18, ln_19, ln_20, ln_21, ln_23, ln_24, ln_25, ln_27, ln_28, ln_29, bI_0, Bool.true_eq_false, hr1, g_beginOf o1 hb2]
          exact tail2
      · have eR : phR f l o a r g (i + 1) = phR f l o a r g i := by
          show (if inPh f l (g i) then _ else _) = _
          rw [if_neg (show ¬ inPh f l (g i) from hp)]
        simp only [hp, decide_false]
        simp (disch := first | assumption | exact isSc1 | exact isSc3 | exact isSc5 | decide | omega) only [iX7_copyPhrase_81, iX7_copyPhrase_135, iX7_copyPhrase_138, Nat.reduceAdd, Nat.reduceSub, Nat.reduceMul, Nat.reduceLeDiff, mm_rv_s, mm_rv_n, true_and, and_true, if_true, if_false, not_true_eq_false, not_false_eq_true, nI_add, nz_0, nz_lt0, nz_0le, nz_0lt, nz_le0, nz_lt, nz_le, nz_eq, nz_cl, nz_in, nz_sub, nz_m1, pk_mul, set_o, set_ne, up_ne, up_set, n1_1, true_or, or_true, n1_01, n0_01, bI_01, bI_01b, bI_0, isSc1, isSc3, isSc5, ln_2, ln_4, ln_6, ln_8, ln_10, ln_11, ln_12, ln_13, ln_14, ln_16, ln_17, ln_18, ln_19, ln_20, ln_21, ln_23, ln_24, ln_25, ln_27, ln_28, ln_29, bI_0]
        refine ih (i + 1) (by omega) M' _ _ hS ?_
        rw [eR]
        exact hC3
  simp (disch := first | assumption | exact isSc1 | exact isSc3 | exact isSc5 | decide | omega) only [iX7_copyPhrase_37, iX7_copyPhrase_38, iX7_copyPhrase_41, iX7_copyPhrase_42, iX7_copyPhrase_45, iX7_copyPhrase_48, iX7_copyPhrase_49, Nat.reduceAdd, Nat.reduceSub, Nat.reduceMul, Nat.reduceLeDiff, mm_rv_s, mm_rv_n, true_and, and_true, if_true, if_false, not_true_eq_false, not_false_eq_true, nI_add, nz_0, nz_lt0, nz_0le, nz_0lt, nz_le0, nz_lt, nz_le, nz_eq, nz_cl, nz_in, nz_sub, nz_m1, pk_mul, set_o, set_ne, up_ne, up_set, n1_1, true_or, or_true, n1_01, n0_01, bI_01, bI_01b, bI_0, isSc1, isSc3, isSc5, ln_2, ln_4, ln_6, ln_8, ln_10, ln_11, ln_12, ln_13, ln_14, ln_16, ln_17, ln_18, ln_19, ln_20, ln_21, ln_23, ln_24, ln_25, ln_27, ln_28, ln_29, p_emptyAs isSc3 isSc1 (show (1 : Nat) ≠ 3 by decide), x0, x1]
  refine loop n 0 (by omega) _ _ _ ((((Same.rf [3, 4] M).up (by decide) _ _).up (by decide) _ _).up (by decide) _ _) ⟨?_, ?_, ?_, fun i hi => absurd hi (Nat.not_lt_zero i)⟩
  · simp [mm_up, mm_set, upd]
  · simp [mm_up, mm_set, upd]
  · simp [mm_up, mm_set, upd]; rfl
end PH

