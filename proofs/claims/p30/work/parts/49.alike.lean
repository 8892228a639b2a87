/-! LIKENESS -/
def likeB (b : Bool) (g : Nat → Sg) (x y : Option Nat) : Bool := match x, y with
  | none, none => true
  | some i, some j => decide (sK (g i) = sK (g j) ∧ sW (g i) = (if b = true then mirW (sK (g j)) (sW (g j)) else sW (g j)) ∧ sV (g i) = sV (g j))
  | _, _ => false
def mirB (b : Bool) (s : Sg) : Sg := if b = true then mirS s else s
def othV (b : Bool) (g : Nat → Sg) (y : Option Nat) : Int32 := match y with
  | none => -1
  | some j => nI (pk (mirB b (g j)))
def lkO (b : Bool) (g : Nat → Sg) (y : Option Nat) : Int32 := match y with
  | none => -1
  | some j => nI (lookN (mirB b (g j)))
theorem look_lt {s : Sg} (h : okS s) : lookN s < 8192 := by
  have := okS_b h
  unfold lookN
  omega
theorem look_iff {s r : Sg} (hs : okS s) (hr : okS r) : lookN s = lookN r ↔ sK s = sK r ∧ sW s = sW r ∧ sV s = sV r := by
  have bs := okS_b hs
  have br := okS_b hr
  constructor
  · intro h
    unfold lookN at h
    have e1 : sK s = sK r := by omega
    have e2 : sD s = sD r := by omega
    have e3 : sV s = sV r := by omega
    have e4 : sA s = sA r := by omega
    refine ⟨e1, ?_, e3⟩
    obtain ⟨h1, h2, h3, h4, h5, h6, h7⟩ := hs
    obtain ⟨r1, r2, r3, r4, r5, r6, r7⟩ := hr
    unfold sD at e2
    unfold sA at e4
    rcases (show sK s = 0 ∨ sK s = 1 ∨ sK s = 2 ∨ sK s = 3 by omega) with k | k | k | k
    · have a := h4 k
      have b := r4 (by omega)
      rw [if_pos k, if_pos (by omega)] at e2
      omega
    · have a := h5 k
      have b := r5 (by omega)
      omega
    · rw [if_pos k, if_pos (by omega)] at e4
      exact e4
    · have a := h7 k
      have b := r7 (by omega)
      omega
  · rintro ⟨e1, e2, e3⟩
    unfold lookN sD sA
    rw [e1, e2, e3]
theorem okS_mirB {b : Bool} {s : Sg} (h : okS s) : okS (mirB b s) := by
  cases b
  · exact h
  · exact okS_mir h
theorem like_iff {b : Bool} {g : Nat → Sg} {x y : Option Nat} (hx : ∀ i, x = some i → okS (g i)) (hy : ∀ i, y = some i → okS (g i)) : (lkO false g x = lkO b g y) = (likeB b g x y = true) := by
  cases x with
  | none =>
    cases y with
    | none => simp [lkO, likeB]
    | some j =>
      have := look_lt (okS_mirB (b := b) (hy j rfl))
      have e : ¬ (-1 : Int32) = nI (lookN (mirB b (g j))) := fun e => by
        have h := nz_ne1 (lookN (mirB b (g j))) (by omega)
        rw [← e] at h
        simp at h
      simp [lkO, likeB, e]
  | some i =>
    have o1 := hx i rfl
    have l1 := look_lt o1
    cases y with
    | none =>
      have h : (nI (lookN (g i)) = -1) = False := nz_ne1 (lookN (g i)) (by omega)
      show (nI (lookN (g i)) = -1) = (false = true)
      rw [h]
      simp
    | some j =>
      have o2 := okS_mirB (b := b) (hy j rfl)
      have l2 := look_lt o2
      show (nI (lookN (g i)) = nI (lookN (mirB b (g j)))) = _
      rw [nz_eq _ _ (by omega) (by omega)]
      refine propext ((look_iff o1 o2).trans ?_)
      simp only [likeB, decide_eq_true_eq]
      cases b
      · exact Iff.rfl
      · exact Iff.rfl
def dcN (b : Bool) (B n : Nat) (g : Nat → Sg) (f o : Nat) : Nat → Nat → Nat
  | 0, _ => 0
  | c + 1, t => dcN b B n g f o c t + if likeB b g (cv B n g c (f + t)) (cv B n g (if b = true then mirC c else c) (o + t)) = true then 0 else 1
theorem dcN_s (b : Bool) (B n : Nat) (g : Nat → Sg) (f o c t : Nat) : dcN b B n g f o (c + 1) t = dcN b B n g f o c t + if likeB b g (cv B n g c (f + t)) (cv B n g (if b = true then mirC c else c) (o + t)) = true then 0 else 1 := rfl
theorem one01 (p : Bool) : (if p = true then 0 else 1) ≤ 1 := by cases p <;> decide
theorem dcN_le (b : Bool) (B n : Nat) (g : Nat → Sg) (f o : Nat) (t : Nat) : ∀ c, dcN b B n g f o c t ≤ c := by
  intro c
  induction c with
  | zero => exact Nat.le_refl 0
  | succ c ih =>
    rw [dcN_s]
    have := one01 (likeB b g (cv B n g c (f + t)) (cv B n g (if b = true then mirC c else c) (o + t)))
    omega
theorem dcN_mono (b : Bool) (B n : Nat) (g : Nat → Sg) (f o : Nat) (t c : Nat) : ∀ d, dcN b B n g f o c t ≤ dcN b B n g f o (c + d) t := by
  intro d
  induction d with
  | zero => exact Nat.le_refl _
  | succ d ih =>
    show _ ≤ dcN b B n g f o (c + d + 1) t
    rw [dcN_s]
    exact Nat.le_trans ih (Nat.le_add_right _ _)
section LK
variable {B L n : Nat} {g : Nat → Sg} {M : mm_M} {Q : mm_Q}
theorem p_mirO {y : Option Nat} (hy : ∀ i, y = some i → okS (g i) ∧ sB (g i) < 128) : wc 44 [.inl (oP g y)] M Q ↔ Q (some (othV true g y)) M := by
  cases y with
  | none => exact m_mirrored
  | some j => exact g_mirrored (hy j rfl).1 (hy j rfl).2
theorem othV_f (y : Option Nat) : oP g y = othV false g y := by cases y <;> rfl
theorem p_lookV {b : Bool} {y : Option Nat} (hy : ∀ i, y = some i → okS (g i) ∧ sB (g i) < 128) : wc 41 [.inl (othV b g y)] M Q ↔ Q (some (lkO b g y)) M := by
  cases y with
  | none => exact m_lookOf
  | some j =>
    obtain ⟨h1, h2⟩ := hy j rfl
    have h3 : sB (mirB b (g j)) < 128 := by cases b <;> exact h2
    exact g_lookOf (okS_mirB h1) h3
theorem mirC_le {c : Nat} (hc : c ≤ 6) (b : Bool) : (if b = true then mirC c else c) ≤ 6 := by
  have := (mirC_lt hc).1
  split <;> omega
theorem p_compare (hC : isC M 1 B L n g) (hv : Val B n g) {c f o m : Nat} (hc : c ≤ 6) (hf : f < B) (ho : o < B) (hm : m = B - (if f < o then o else f)) (b : Bool) {e : Nat → Nat} (he : ∀ t, t < m → M 25 t = nI (e t) ∧ e t ≤ 100)
    (hQ : ∀ M', Same [23, 24, 25] M M' → (∀ t, t < m → M' 25 t = nI (e t + if likeB b g (cv B n g c (f + t)) (cv B n g (if b = true then mirC c else c) (o + t)) = true then 0 else 1)) → Q none M') : wc 1 [.inr 22, .inr 1, .inl (nI c), .inl (nI f), .inl (nI o), .inl (bI b)] M Q := by
  have w2 := hv.2.1
  have hmc := mirC_le hc b
  have hmf : f + m ≤ B ∧ o + m ≤ B := by split at hm <;> omega
  obtain ⟨x0, x1, x2, x3⟩ := id hC
  simp (disch := first | assumption | exact isSc1 | exact isSc3 | exact isSc5 | decide | omega) only [eX0_compare, iX0_compare_0, iX0_compare_1, iX0_compare_2, iX0_compare_3, iX0_compare_6, Nat.reduceAdd, Nat.reduceSub, Nat.reduceMul, Nat.reduceLeDiff, mm_rv_s, mm_rv_n, true_and, and_true, if_true, if_false, not_true_eq_false, not_false_eq_true, nI_add, nz_0, nz_lt0, nz_0le, nz_0lt, nz_le0, nz_lt, nz_le, nz_eq, nz_cl, nz_in, nz_sub, nz_m1, pk_mul, set_o, set_ne, up_ne, up_set, n1_1, true_or, or_true, n1_01, n0_01, bI_01, bI_01b, bI_0, isSc1, isSc3, isSc5, ln_2, ln_4, ln_6, ln_8, ln_10, ln_11, ln_12, ln_13, ln_14, ln_16, ln_17, ln_18, ln_19, ln_20, ln_21, ln_23, ln_24, ln_25, ln_27, ln_28, ln_29]
  refine p_fillRow (r := 23) isSc1 hC hv hc ln_23 (by decide) (by decide) (by decide) (fun r1 hr1 => ?_)
  have hsel : ∀ M1 : mm_M, wp 1 23 [some (.inr 22), some (.inr 1), some (.inl (nI c)), some (.inl (nI f)), some (.inl (nI o)), some (.inl (bI b)), none, none, none] [.inl (nI (if b = true then mirC c else c)), .inr 1] M1 Q → wp 1 9 [some (.inr 22), some (.inr 1), some (.inl (nI c)), some (.inl (nI f)), some (.inl (nI o)), some (.inl (bI b)), none, none, none] [] M1 Q := by
    intro M1 h
    cases b
    · simp (disch := first | assumption | exact isSc1 | exact isSc3 | exact isSc5 | decide | omega) only [iX0_compare_9, iX0_compare_10, iX0_compare_12, iX0_compare_15, iX0_compare_16, iX0_compare_19, iX0_compare_22, Nat.reduceAdd, Nat.reduceSub, Nat.reduceMul, Nat.reduceLeDiff, mm_rv_s, mm_rv_n, true_and, and_true, if_true, if_false, not_true_eq_false, not_false_eq_true, nI_add, nz_0, nz_lt0, nz_0le, nz_0lt, nz_le0, nz_lt, nz_le, nz_eq, nz_cl, nz_in, nz_sub, nz_m1, pk_mul, set_o, set_ne, up_ne, up_set, n1_1, true_or, or_true, n1_01, n0_01, bI_01, bI_01b, bI_0, isSc1, isSc3, isSc5, ln_2, ln_4, ln_6, ln_8, ln_10, ln_11, ln_12, ln_13, ln_14, ln_16, ln_17, ln_18, ln_19, ln_20, ln_21, ln_23, ln_24, ln_25, ln_27, ln_28, ln_29, Bool.false_eq_true] at h ⊢
      exact h
    · simp (disch := first | assumption | exact isSc1 | exact isSc3 | exact isSc5 | decide | omega) only [iX0_compare_9, iX0_compare_10, iX0_compare_12, iX0_compare_15, iX0_compare_16, iX0_compare_19, iX0_compare_22, Nat.reduceAdd, Nat.reduceSub, Nat.reduceMul, Nat.reduceLeDiff, mm_rv_s, mm_rv_n, true_and, and_true, if_true, if_false, not_true_eq_false, not_false_eq_true, nI_add, nz_0, nz_lt0, nz_0le, nz_0lt, nz_le0, nz_lt, nz_le, nz_eq, nz_cl, nz_in, nz_sub, nz_m1, pk_mul, set_o, set_ne, up_ne, up_set, n1_1, true_or, or_true, n1_01, n0_01, bI_01, bI_01b, bI_0, isSc1, isSc3, isSc5, ln_2, ln_4, ln_6, ln_8, ln_10, ln_11, ln_12, ln_13, ln_14, ln_16, ln_17, ln_18, ln_19, ln_20, ln_21, ln_23, ln_24, ln_25, ln_27, ln_28, ln_29, Bool.true_eq_false, p_mirroredColumn (show c < 7 by omega)] at h ⊢
      exact h
  rw [mm_rv_n]
  refine hsel _ ?_
  simp (disch := first | assumption | exact isSc1 | exact isSc3 | exact isSc5 | decide | omega) only [iX0_compare_23, iX0_compare_24, iX0_compare_27, Nat.reduceAdd, Nat.reduceSub, Nat.reduceMul, Nat.reduceLeDiff, mm_rv_s, mm_rv_n, true_and, and_true, if_true, if_false, not_true_eq_false, not_false_eq_true, nI_add, nz_0, nz_lt0, nz_0le, nz_0lt, nz_le0, nz_lt, nz_le, nz_eq, nz_cl, nz_in, nz_sub, nz_m1, pk_mul, set_o, set_ne, up_ne, up_set, n1_1, true_or, or_true, n1_01, n0_01, bI_01, bI_01b, bI_0, isSc1, isSc3, isSc5, ln_2, ln_4, ln_6, ln_8, ln_10, ln_11, ln_12, ln_13, ln_14, ln_16, ln_17, ln_18, ln_19, ln_20, ln_21, ln_23, ln_24, ln_25, ln_27, ln_28, ln_29]
  refine p_fillRow (r := 24) (c := if b = true then mirC c else c) isSc1 (isC_cong (M := M) (set_ne _ _ (by decide)) (set_ne _ _ (by decide)) hC) hv hmc ln_24 (by decide) (by decide) (by decide) (fun r2 hr2 => ?_)
  have hS0 : Same [23, 24] M (mm_set (mm_set M 23 r1) 24 r2) := ((Same.rf [23, 24] M).set (by decide) _).set (by decide) _
  have h23 : mm_set (mm_set M 23 r1) 24 r2 23 = r1 := by rw [set_ne _ _ (by decide), set_o]
  have h24 : mm_set (mm_set M 23 r1) 24 r2 24 = r2 := set_o _ _ _
  generalize mm_set (mm_set M 23 r1) 24 r2 = M2 at hS0 h23 h24 ⊢
  have e10 : M2 1 0 = nI B := by rw [hS0 1 (by decide), x0]
  have emax : (if f < o then nI o else nI f) = nI (if f < o then o else f) := by split <;> rfl
  have hle : (if f < o then o else f) ≤ B := by split <;> omega
  simp (disch := first | assumption | exact isSc1 | exact isSc3 | exact isSc5 | decide | omega) only [iX0_compare_30, iX0_compare_31, iX0_compare_34, iX0_compare_35, iX0_compare_37, iX0_compare_40, iX0_compare_41, iX0_compare_43, iX0_compare_44, Nat.reduceAdd, Nat.reduceSub, Nat.reduceMul, Nat.reduceLeDiff, mm_rv_s, mm_rv_n, true_and, and_true, if_true, if_false, not_true_eq_false, not_false_eq_true, nI_add, nz_0, nz_lt0, nz_0le, nz_0lt, nz_le0, nz_lt, nz_le, nz_eq, nz_cl, nz_in, nz_sub, nz_m1, pk_mul, set_o, set_ne, up_ne, up_set, n1_1, true_or, or_true, n1_01, n0_01, bI_01, bI_01b, bI_0, isSc1, isSc3, isSc5, ln_2, ln_4, ln_6, ln_8, ln_10, ln_11, ln_12, ln_13, ln_14, ln_16, ln_17, ln_18, ln_19, ln_20, ln_21, ln_23, ln_24, ln_25, ln_27, ln_28, ln_29, e10, p_max, emax]
  rw [← hm]
  have loop : ∀ d i : Nat, i + d = m → ∀ (M' : mm_M) (l8 : Option mm_V), Same [25] M2 M' → (∀ t, t < i → M' 25 t = nI (e t + if likeB b g (cv B n g c (f + t)) (cv B n g (if b = true then mirC c else c) (o + t)) = true then 0 else 1)) → (∀ t, i ≤ t → t < m → M' 25 t = nI (e t)) → wp 1 46 [some (.inr 22), some (.inr 1), some (.inl (nI c)), some (.inl (nI f)), some (.inl (nI o)), some (.inl (bI b)), some (.inl (nI m)), some (.inl (nI i)), l8] [] M' Q := by
    intro d
    induction d with
    | zero =>
      intro i hi M' l8 hS h1 h2
      have hi : i = m := by omega
      subst hi
      rw [iX0_compare_46]
      simp (disch := first | assumption | exact isSc1 | exact isSc3 | exact isSc5 | decide | omega) only [iX0_compare_48, iX0_compare_50, iX0_compare_123, Nat.reduceAdd, Nat.reduceSub, Nat.reduceMul, Nat.reduceLeDiff, mm_rv_s, mm_rv_n, true_and, and_true, if_true, if_false, not_true_eq_false, not_false_eq_true, nI_add, nz_0, nz_lt0, nz_0le, nz_0lt, nz_le0, nz_lt, nz_le, nz_eq, nz_cl, nz_in, nz_sub, nz_m1, pk_mul, set_o, set_ne, up_ne, up_set, n1_1, true_or, or_true, n1_01, n0_01, bI_01, bI_01b, bI_0, isSc1, isSc3, isSc5, ln_2, ln_4, ln_6, ln_8, ln_10, ln_11, ln_12, ln_13, ln_14, ln_16, ln_17, ln_18, ln_19, ln_20, ln_21, ln_23, ln_24, ln_25, ln_27, ln_28, ln_29, Nat.le_refl]
      exact hQ M' ((hS0.wk (by decide)).tr (hS.wk (by decide))) h1
    | succ d ih =>
      intro i hi M' l8 hS h1 h2
      have him : i < m := by omega
      have e23 : M' 23 (f + i) = oP g (cv B n g c (f + i)) := by rw [hS 23 (by decide), h23, hr1 _ (by omega)]
      have e24 : M' 24 (o + i) = oP g (cv B n g (if b = true then mirC c else c) (o + i)) := by rw [hS 24 (by decide), h24, hr2 _ (by omega)]
      have e25 : M' 25 i = nI (e i) := h2 i (Nat.le_refl i) him
      have hei := (he i him).2
      have ox : ∀ j, cv B n g c (f + i) = some j → okS (g j) ∧ sB (g j) < 128 := fun j hj => cv_ok hv hj
      have oy : ∀ j, cv B n g (if b = true then mirC c else c) (o + i) = some j → okS (g j) ∧ sB (g j) < 128 := fun j hj => cv_ok hv hj
      have hlk := like_iff (b := b) (fun j hj => (ox j hj).1) (fun j hj => (oy j hj).1)
      have fin : ∀ M'' l8, Same [25] M' M'' → (∀ t, t ≠ i → M'' 25 t = M' 25 t) → M'' 25 i = nI (e i + if likeB b g (cv B n g c (f + i)) (cv B n g (if b = true then mirC c else c) (o + i)) = true then 0 else 1) → wp 1 117 [some (.inr 22), some (.inr 1), some (.inl (nI c)), some (.inl (nI f)), some (.inl (nI o)), some (.inl (bI b)), some (.inl (nI m)), some (.inl (nI i)), l8] [] M'' Q := by
        intro M'' l8 hS2 k1 k2
        simp (disch := first | assumption | exact isSc1 | exact isSc3 | exact isSc5 | decide | omega) only [iX0_compare_117, iX0_compare_120, Nat.reduceAdd, Nat.reduceSub, Nat.reduceMul, Nat.reduceLeDiff, mm_rv_s, mm_rv_n, true_and, and_true, if_true, if_false, not_true_eq_false, not_false_eq_true, nI_add, nz_0, nz_lt0, nz_0le, nz_0lt, nz_le0, nz_lt, nz_le, nz_eq, nz_cl, nz_in, nz_sub, nz_m1, pk_mul, set_o, set_ne, up_ne, up_set, n1_1, true_or, or_true, n1_01, n0_01, bI_01, bI_01b, bI_0, isSc1, isSc3, isSc5, ln_2, ln_4, ln_6, ln_8, ln_10, ln_11, ln_12, ln_13, ln_14, ln_16, ln_17, ln_18, ln_19, ln_20, ln_21, ln_23, ln_24, ln_25, ln_27, ln_28, ln_29]
        refine ih (i + 1) (by omega) M'' l8 (hS.tr hS2) (fun t ht => ?_) (fun t ht htm => ?_)
        · by_cases et : t = i
          · rw [et]; exact k2
          · rw [k1 t et]; exact h1 t (by omega)
        · rw [k1 t (by omega)]; exact h2 t (by omega) htm
      have mid : ∀ l8, wp 1 86 [some (.inr 22), some (.inr 1), some (.inl (nI c)), some (.inl (nI f)), some (.inl (nI o)), some (.inl (bI b)), some (.inl (nI m)), some (.inl (nI i)), some (.inl (othV b g (cv B n g (if b = true then mirC c else c) (o + i))))] [] M' Q ∨ l8 = false := by
        intro l8
        left
        have ef := othV_f (g := g) (cv B n g c (f + i))
        rw [ef] at e23
        simp (disch := first | assumption | decide | omega) only [iX0_compare_86, iX0_compare_87, iX0_compare_90, iX0_compare_91, iX0_compare_93, iX0_compare_94, ln_23, nI_add, nz_in, nz_cl, true_and, e23, Nat.reduceLT]
        simp (disch := first | assumption | exact isSc1 | exact isSc3 | exact isSc5 | decide | omega) only [iX0_compare_95, iX0_compare_98, iX0_compare_100, Nat.reduceAdd, Nat.reduceSub, Nat.reduceMul, Nat.reduceLeDiff, mm_rv_s, mm_rv_n, true_and, and_true, if_true, if_false, not_true_eq_false, not_false_eq_true, nI_add, nz_0, nz_lt0, nz_0le, nz_0lt, nz_le0, nz_lt, nz_le, nz_eq, nz_cl, nz_in, nz_sub, nz_m1, pk_mul, set_o, set_ne, up_ne, up_set, n1_1, true_or, or_true, n1_01, n0_01, bI_01, bI_01b, bI_0, isSc1, isSc3, isSc5, ln_2, ln_4, ln_6, ln_8, ln_10, ln_11, ln_12, ln_13, ln_14, ln_16, ln_17, ln_18, ln_19, ln_20, ln_21, ln_23, ln_24, ln_25, ln_27, ln_28, ln_29, p_lookV ox, p_lookV oy]
        by_cases hl : likeB b g (cv B n g c (f + i)) (cv B n g (if b = true then mirC c else c) (o + i)) = true
        · have hl2 : lkO false g (cv B n g c (f + i)) = lkO b g (cv B n g (if b = true then mirC c else c) (o + i)) := by rw [hlk]; exact hl
          rw [iX0_compare_103, if_pos hl2]
          exact fin M' _ (Same.rf _ _) (fun _ _ => rfl) (by rw [if_pos hl, Nat.add_zero, e25])
        · have hl2 : ¬ lkO false g (cv B n g c (f + i)) = lkO b g (cv B n g (if b = true then mirC c else c) (o + i)) := by rw [hlk]; exact hl
          rw [iX0_compare_103, if_neg hl2]
          simp (disch := first | assumption | exact isSc1 | exact isSc3 | exact isSc5 | decide | omega) only [iX0_compare_106, iX0_compare_107, iX0_compare_110, iX0_compare_112, iX0_compare_113, iX0_compare_114, iX0_compare_115, iX0_compare_116, Nat.reduceAdd, Nat.reduceSub, Nat.reduceMul, Nat.reduceLeDiff, mm_rv_s, mm_rv_n, true_and, and_true, if_true, if_false, not_true_eq_false, not_false_eq_true, nI_add, nz_0, nz_lt0, nz_0le, nz_0lt, nz_le0, nz_lt, nz_le, nz_eq, nz_cl, nz_in, nz_sub, nz_m1, pk_mul, set_o, set_ne, up_ne, up_set, n1_1, true_or, or_true, n1_01, n0_01, bI_01, bI_01b, bI_0, isSc1, isSc3, isSc5, ln_2, ln_4, ln_6, ln_8, ln_10, ln_11, ln_12, ln_13, ln_14, ln_16, ln_17, ln_18, ln_19, ln_20, ln_21, ln_23, ln_24, ln_25, ln_27, ln_28, ln_29, e25]
          exact fin _ _ ((Same.rf _ _).up (by decide) _ _) (fun t ht => by rw [up_o, un _ _ _ _ ht]) (by rw [up_o, us, if_neg hl])
      have mid2 := (mid true).resolve_right (by decide)
      rw [iX0_compare_46]
      cases b
      · have ef := othV_f (g := g) (cv B n g (if false = true then mirC c else c) (o + i))
        rw [ef] at e24
        simp (disch := first | assumption | exact isSc1 | exact isSc3 | exact isSc5 | decide | omega) only [iX0_compare_48, iX0_compare_50, iX0_compare_53, iX0_compare_55, iX0_compare_74, iX0_compare_75, iX0_compare_78, iX0_compare_80, iX0_compare_82, iX0_compare_83, iX0_compare_84, bI_0, if_true, ln_24, nI_add, nz_in, nz_cl, true_and, e24, Nat.reduceLT, nz_le, show ¬ m ≤ i by omega, if_false]
        exact mid2
      · simp (disch := first | assumption | decide | omega) only [iX0_compare_48, iX0_compare_50, iX0_compare_53, iX0_compare_55, iX0_compare_58, iX0_compare_59, iX0_compare_62, iX0_compare_64, iX0_compare_66, iX0_compare_67, bI_0, Bool.true_eq_false, ln_24, nI_add, nz_in, nz_cl, true_and, e24, Nat.reduceLT, nz_le, show ¬ m ≤ i by omega, if_false]
        rw [iX0_compare_68]
        refine (p_mirO oy).mpr ?_
        simp (disch := first | assumption | exact isSc1 | exact isSc3 | exact isSc5 | decide | omega) only [mm_rv_s, iX0_compare_71, iX0_compare_74, iX0_compare_75, iX0_compare_78, iX0_compare_80, iX0_compare_82, iX0_compare_83, iX0_compare_84]
        exact mid2
  refine loop m 0 (by omega) M2 none (Same.rf _ _) (fun t ht => absurd ht (by omega)) (fun t _ ht => ?_)
  rw [hS0 25 (by decide), (he t ht).1]
end LK

