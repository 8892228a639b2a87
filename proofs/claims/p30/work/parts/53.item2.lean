/-! AN ITEM OF THE TEXT, by the class: the whole of it -/
def sgI (t : Nat) (c : Nat → Nat) (q col b p : Nat) : Sg := if hcN t c q = 107 then (col, b, 1, 0, 0, 0) else if hcN t c q = 109 then (col, b, 0, lenV t c (p + 2), (dgN t c p : Int), lvN t c (p + 1)) else if hcN t c q = 114 then (col, b, 3, lenV t c p, 0, 0) else (col, b, 2, lenV t c (p + 3), amI t c p, 0)
def itS (t : Nat) (c : Nat → Nat) (col b p : Nat) : Nat := if hcN t c (p + 1) = 101 then lenV t c (p + 2) else spO (rSign t c (p + 1) col b (p + 2))
def itE (t : Nat) (c : Nat → Nat) (p : Nat) : Nat := if hcN t c (p + 1) = 101 then lenP t c (p + 2) else rPos t c (p + 1) (p + 2)
abbrev itF (t : Nat) (c : Nat → Nat) (B : Nat) (nb : Nat → Nat) (p : Nat) : Prop := dgN t c p ≤ 6 ∧ 1 ≤ itS t c (dgN t c p) (nb (dgN t c p)) p ∧ nb (dgN t c p) + itS t c (dgN t c p) (nb (dgN t c p)) p ≤ B
abbrev itG (t : Nat) (c : Nat → Nat) (B : Nat) (nb : Nat → Nat) (p : Nat) : Prop := itF t c B nb p ∧ hcN t c (itE t c p) = 59
def itB (t : Nat) (c : Nat → Nat) (nb : Nat → Nat) (p : Nat) : Nat → Nat := fun k => if k = dgN t c p then nb (dgN t c p) + itS t c (dgN t c p) (nb (dgN t c p)) p else nb k
def itSg (t : Nat) (c : Nat → Nat) (nb : Nat → Nat) (p : Nat) : Sg := sgI t c (p + 1) (dgN t c p) (nb (dgN t c p)) (p + 2)
def itN (t : Nat) (c : Nat → Nat) (p n : Nat) : Nat := if hcN t c (p + 1) = 101 then n else n + 1
def itH (t : Nat) (c : Nat → Nat) (nb : Nat → Nat) (p n : Nat) (g : Nat → Sg) : Nat → Sg := if hcN t c (p + 1) = 101 then g else insG g (pos (gtD g (itSg t c nb p)) n) (itSg t c nb p)
theorem pkN_sp {b cc l k d v a : Nat} (hb : b < 128) (hc : cc < 8) (hl : l < 128) (hk : k < 4) (hd : d < 16) (hv : v < 4) (ha : a < 32) : pkN b cc l k d v a / 8192 % 128 = l := (pkN_f hb hc hl hk hd hv ha).2.2.1
theorem amI_le (t : Nat) (c : Nat → Nat) (p : Nat) (h : dgN t c (p + 1) ≤ 8) : -8 ≤ amI t c p ∧ amI t c p ≤ 8 := by unfold amI; split <;> omega
theorem rSign_ok {t : Nat} {c : Nat → Nat} {q col b p : Nat} (hc : col ≤ 6) (hb : b ≤ 48) (h1 : 1 ≤ spO (rSign t c q col b p)) (h2 : b + spO (rSign t c q col b p) ≤ 48) : rSign t c q col b p = some (pk (sgI t c q col b p)) ∧ okS (sgI t c q col b p) ∧ sC (sgI t c q col b p) = col ∧ sB (sgI t c q col b p) = b ∧ sS (sgI t c q col b p) = spO (rSign t c q col b p) := by
  unfold rSign sgI at *
  by_cases a1 : hcN t c q = 107
  · simp only [a1, if_true] at h1 h2 ⊢
    refine ⟨rfl, ?_, rfl, rfl, ?_⟩
    · simp [okS, sC, sK, sN, sW, sV] <;> omega
    · have e : spO (some (pkN b col 1 1 0 0 8)) = 1 := pkN_sp (by omega) (by omega) (by decide) (by decide) (by decide) (by decide) (by decide)
      rw [e]; rfl
  · simp only [a1, if_false] at h1 h2 ⊢
    by_cases a2 : hcN t c q = 109
    · simp only [a2, if_true] at h1 h2 ⊢
      unfold rMove at *
      by_cases k : okM t c col p
      · rw [if_pos k] at h1 h2 ⊢
        have l1 := lenV_le t c (p + 2)
        have l2 := lvN_le t c (p + 1)
        have e : spO (some (pkN b col (lenV t c (p + 2)) 0 (dgN t c p) (lvN t c (p + 1)) 8)) = lenV t c (p + 2) := pkN_sp (by omega) (by omega) (by omega) (by decide) (by have := k.2.1; omega) (by omega) (by decide)
        rw [e] at h1 h2 ⊢
        refine ⟨rfl, ?_, rfl, rfl, rfl⟩
        have k1 := k.1
        have k2 := k.2.1
        have k3 := k.2.2
        simp [okS, sC, sK, sN, sW, sV] <;> omega
      · rw [if_neg k] at h1
        simp [spO] at h1
    · simp only [a2, if_false] at h1 h2 ⊢
      by_cases a3 : hcN t c q = 114
      · simp only [a3, if_true] at h1 h2 ⊢
        have l1 := lenV_le t c p
        have e : spO (some (pkN b col (lenV t c p) 3 0 0 8)) = lenV t c p := pkN_sp (by omega) (by omega) (by omega) (by decide) (by decide) (by decide) (by decide)
        rw [e] at h1 h2 ⊢
        refine ⟨rfl, ?_, rfl, rfl, rfl⟩
        simp [okS, sC, sK, sN, sW, sV] <;> omega
      · simp only [a3, if_false] at h1 h2 ⊢
        by_cases a4 : hcN t c q = 116
        · simp only [a4, if_true] at h1 h2 ⊢
          unfold rTurn at *
          by_cases k : okU t c col p
          · rw [if_pos k] at h1 h2 ⊢
            have l1 := lenV_le t c (p + 3)
            have la := amI_le t c p k.2.2.1.2
            have e : spO (some (pkN b col (lenV t c (p + 3)) 2 0 0 (amI t c p + 8).toNat)) = lenV t c (p + 3) := pkN_sp (by omega) (by omega) (by omega) (by decide) (by decide) (by decide) (by omega)
            rw [e] at h1 h2 ⊢
            refine ⟨rfl, ?_, rfl, rfl, rfl⟩
            have k1 := k.1
            have k3 : amI t c p ≠ 0 := by
              have := k.2.2.1.1
              unfold amI
              split <;> omega
            simp [okS, sC, sK, sN, sW, sV] <;> omega
          · rw [if_neg k] at h1
            simp [spO] at h1
        · simp only [a4, if_false] at h1
          simp [spO] at h1
theorem rSign_lt {t : Nat} {c : Nat → Nat} {q col b p : Nat} (hc : col ≤ 6) (hb : b ≤ 48) : ∀ k, rSign t c q col b p = some k → k < 2147483648 := by
  intro k
  have l1 := lenV_le t c p
  have l2 := lenV_le t c (p + 2)
  have l3 := lenV_le t c (p + 3)
  have l4 := lvN_le t c (p + 1)
  have l5 := dgN_le t c p
  unfold rSign rMove rTurn
  intro h
  split at h
  · cases h
    have := pkN_lt (b := b) (c := col) (n := 1) (k := 1) (d := 0) (v := 0) (a := 8) (by omega) (by omega) (by decide) (by decide) (by decide) (by decide) (by decide)
    omega
  · split at h
    · split at h
      · cases h
        have := pkN_lt (b := b) (c := col) (n := lenV t c (p + 2)) (k := 0) (d := dgN t c p) (v := lvN t c (p + 1)) (a := 8) (by omega) (by omega) (by omega) (by decide) (by omega) (by omega) (by decide)
        omega
      · cases h
    · split at h
      · cases h
        have := pkN_lt (b := b) (c := col) (n := lenV t c p) (k := 3) (d := 0) (v := 0) (a := 8) (by omega) (by omega) (by omega) (by decide) (by decide) (by decide) (by decide)
        omega
      · split at h
        · split at h
          · rename_i ok
            cases h
            have la := amI_le t c p ok.2.2.1.2
            have := pkN_lt (b := b) (c := col) (n := lenV t c (p + 3)) (k := 2) (d := 0) (v := 0) (a := (amI t c p + 8).toNat) (by omega) (by omega) (by omega) (by decide) (by decide) (by decide) (by omega)
            omega
          · cases h
        · cases h
theorem rPos_le (t : Nat) (c : Nat → Nat) (q p : Nat) : p ≤ rPos t c q p ∧ rPos t c q p ≤ p + 5 := by
  have a := lenP_le t c p
  have b := lenP_le t c (p + 2)
  have d := lenP_le t c (p + 3)
  unfold rPos
  repeat' split
  all_goals omega
theorem itE_le (t : Nat) (c : Nat → Nat) (p : Nat) : p + 2 ≤ itE t c p ∧ itE t c p ≤ p + 7 := by
  have a := lenP_le t c (p + 2)
  have b := rPos_le t c (p + 1) (p + 2)
  unfold itE
  split <;> omega
section IT2
variable {M : mm_M} {Q : mm_Q} {t B L n : Nat} {c nb : Nat → Nat} {g : Nat → Sg}
theorem dI_col (p : Nat) : (nI 0 ≤ dI t c p ∧ dI t c p ≤ nI 6) = (dgN t c p ≤ 6) := by
  rw [dI_in p (by decide) (by decide)]
  simp
theorem it_key {s : Sg} (hv : Val B n g) (hroom : ∀ i, i < n → seN (g i) ≤ nb (sC (g i))) (hb : sB s = nb (sC s)) (hsS : 1 ≤ sS s) : roomS B n g (sC s) (sB s) (sS s) := by
  rintro i hi ⟨h1, h2, h3⟩
  have := hroom i hi
  rw [h1] at this
  unfold seN at this
  omega
theorem p_readItem (hR : Rx M t c) (hC5 : isC M 5 B L n g) (hv : Val B n g) (hn : n < 60) {p : Nat} (hp : p ≤ 150) (hnb : ∀ k, k ≤ 6 → M 28 k = nI (nb k) ∧ nb k ≤ B) (hroom : ∀ i, i < n → seN (g i) ≤ nb (sC (g i)))
    (hbad : ¬ itG t c B nb p → ∀ p', Q (some (nI 0)) (atP M p'))
    (hgood : itG t c B nb p → ∀ M', Same [5, 6, 26, 28] M M' → M' 26 0 = M 26 0 → M' 26 1 = nI (itE t c p + 1) → (∀ k, k ≤ 6 → M' 28 k = nI (itB t c nb p k)) → isC M' 5 B L (itN t c p n) (itH t c nb p n g) → Q (some (nI 1)) M') :
    wc 17 [.inr 26, .inr 5] (atP M p) Q := by
  have w1 := hv.1
  have w2 := hv.2.1
  have w3 := hv.2.2.1
  have ok := hR.2.1
  have pE := itE_le t c p
  have dle := dgN_le t c p
  simp (disch := first | assumption | exact isSc1 | exact isSc3 | exact isSc5 | decide | omega) only [eX3_readItem, iX3_readItem_0, iX3_readItem_1, iX3_readItem_4, iX3_readItem_5, iX3_readItem_6, Nat.reduceAdd, Nat.reduceSub, Nat.reduceMul, Nat.reduceLeDiff, mm_rv_s, mm_rv_n, true_and, and_true, if_true, if_false, not_true_eq_false, not_false_eq_true, nI_add, nz_0, nz_lt0, nz_0le, nz_0lt, nz_le0, nz_lt, nz_le, nz_eq, nz_cl, nz_in, nz_sub, nz_m1, pk_mul, set_o, set_ne, up_ne, up_set, n1_1, true_or, or_true, n1_01, n0_01, bI_01, bI_01b, bI_0, isSc1, isSc3, isSc5, ln_2, ln_4, ln_6, ln_8, ln_10, ln_11, ln_12, ln_13, ln_14, ln_16, ln_17, ln_18, ln_19, ln_20, ln_21, ln_23, ln_24, ln_25, ln_27, ln_28, ln_29, p_readDigit hR (show p ≤ 400 by omega), p_isColumn, dI_col]
  by_cases hcol : dgN t c p ≤ 6
  · obtain ⟨e28, hb⟩ := hnb _ hcol
    have eD : dI t c p = nI (dgN t c p) := by unfold dI; rw [if_neg (by omega)]
    have e28' : ∀ x, atP M x 28 (dgN t c p) = nI (nb (dgN t c p)) := fun x => by rw [atP_ne _ (by decide), e28]
    have e50 : ∀ x, atP M x 5 0 = nI B := fun x => by rw [atP_ne _ (by decide), hC5.1]
    generalize hcolE : dgN t c p = col at hcol e28 hb eD e28' hbad hgood dle ⊢
    generalize hbE : nb col = b at e28 hb e28' hbad hgood ⊢
    -- from where the span is known
    have tail : ∀ (gap : Bool) (sv : Int32) (S : Nat), gap = decide (hcN t c (p + 1) = 101) → S = itS t c col b p → (gap = false → sv = oK (rSign t c (p + 1) col b (p + 2))) → S < 200 → wp 17 77 [some (.inr 26), some (.inr 5), some (.inl (nI col)), some (.inl (nI b)), some (.inl (hI t c (p + 1))), some (.inl (bI gap)), some (.inl sv), none] [.inl (nI S)] (atP M (itE t c p)) Q := by
      intro gap sv S hgap hS hsv hS2
      have bad : ¬ (1 ≤ S ∧ b + S ≤ B ∧ hcN t c (itE t c p) = 59) → ∀ p', Q (some (nI 0)) (atP M p') := by
        intro h
        refine hbad (fun z => h ?_)
        obtain ⟨⟨z1, z2, z3⟩, z4⟩ := z
        rw [hcolE, hbE, ← hS] at z2 z3
        exact ⟨z2, z3, z4⟩
      simp (disch := first | assumption | exact isSc1 | exact isSc3 | exact isSc5 | decide | omega) only [iX3_readItem_77, iX3_readItem_79, iX3_readItem_81, iX3_readItem_82, Nat.reduceAdd, Nat.reduceSub, Nat.reduceMul, Nat.reduceLeDiff, mm_rv_s, mm_rv_n, true_and, and_true, if_true, if_false, not_true_eq_false, not_false_eq_true, nI_add, nz_0, nz_lt0, nz_0le, nz_0lt, nz_le0, nz_lt, nz_le, nz_eq, nz_cl, nz_in, nz_sub, nz_m1, pk_mul, set_o, set_ne, up_ne, up_set, n1_1, true_or, or_true, n1_01, n0_01, bI_01, bI_01b, bI_0, isSc1, isSc3, isSc5, ln_2, ln_4, ln_6, ln_8, ln_10, ln_11, ln_12, ln_13, ln_14, ln_16, ln_17, ln_18, ln_19, ln_20, ln_21, ln_23, ln_24, ln_25, ln_27, ln_28, ln_29]
      by_cases s1 : S < 1
      · simp (disch := first | assumption | exact isSc1 | exact isSc3 | exact isSc5 | decide | omega) only [iX3_readItem_105, iX3_readItem_106, Nat.reduceAdd, Nat.reduceSub, Nat.reduceMul, Nat.reduceLeDiff, mm_rv_s, mm_rv_n, true_and, and_true, if_true, if_false, not_true_eq_false, not_false_eq_true, nI_add, nz_0, nz_lt0, nz_0le, nz_0lt, nz_le0, nz_lt, nz_le, nz_eq, nz_cl, nz_in, nz_sub, nz_m1, pk_mul, set_o, set_ne, up_ne, up_set, n1_1, true_or, or_true, n1_01, n0_01, bI_01, bI_01b, bI_0, isSc1, isSc3, isSc5, ln_2, ln_4, ln_6, ln_8, ln_10, ln_11, ln_12, ln_13, ln_14, ln_16, ln_17, ln_18, ln_19, ln_20, ln_21, ln_23, ln_24, ln_25, ln_27, ln_28, ln_29, s1]
        exact bad (by omega) _
      · simp (disch := first | assumption | exact isSc1 | exact isSc3 | exact isSc5 | decide | omega) only [iX3_readItem_85, iX3_readItem_87, iX3_readItem_88, iX3_readItem_91, iX3_readItem_92, iX3_readItem_93, Nat.reduceAdd, Nat.reduceSub, Nat.reduceMul, Nat.reduceLeDiff, mm_rv_s, mm_rv_n, true_and, and_true, if_true, if_false, not_true_eq_false, not_false_eq_true, nI_add, nz_0, nz_lt0, nz_0le, nz_0lt, nz_le0, nz_lt, nz_le, nz_eq, nz_cl, nz_in, nz_sub, nz_m1, pk_mul, set_o, set_ne, up_ne, up_set, n1_1, true_or, or_true, n1_01, n0_01, bI_01, bI_01b, bI_0, isSc1, isSc3, isSc5, ln_2, ln_4, ln_6, ln_8, ln_10, ln_11, ln_12, ln_13, ln_14, ln_16, ln_17, ln_18, ln_19, ln_20, ln_21, ln_23, ln_24, ln_25, ln_27, ln_28, ln_29, s1, e50]
        by_cases s2 : B - b < S
        · simp (disch := first | assumption | exact isSc1 | exact isSc3 | exact isSc5 | decide | omega) only [iX3_readItem_105, iX3_readItem_106, Nat.reduceAdd, Nat.reduceSub, Nat.reduceMul, Nat.reduceLeDiff, mm_rv_s, mm_rv_n, true_and, and_true, if_true, if_false, not_true_eq_false, not_false_eq_true, nI_add, nz_0, nz_lt0, nz_0le, nz_0lt, nz_le0, nz_lt, nz_le, nz_eq, nz_cl, nz_in, nz_sub, nz_m1, pk_mul, set_o, set_ne, up_ne, up_set, n1_1, true_or, or_true, n1_01, n0_01, bI_01, bI_01b, bI_0, isSc1, isSc3, isSc5, ln_2, ln_4, ln_6, ln_8, ln_10, ln_11, ln_12, ln_13, ln_14, ln_16, ln_17, ln_18, ln_19, ln_20, ln_21, ln_23, ln_24, ln_25, ln_27, ln_28, ln_29, s2]
          exact bad (by omega) _
        · simp (disch := first | assumption | exact isSc1 | exact isSc3 | exact isSc5 | decide | omega) only [iX3_readItem_96, iX3_readItem_97, iX3_readItem_100, iX3_readItem_102, Nat.reduceAdd, Nat.reduceSub, Nat.reduceMul, Nat.reduceLeDiff, mm_rv_s, mm_rv_n, true_and, and_true, if_true, if_false, not_true_eq_false, not_false_eq_true, nI_add, nz_0, nz_lt0, nz_0le, nz_0lt, nz_le0, nz_lt, nz_le, nz_eq, nz_cl, nz_in, nz_sub, nz_m1, pk_mul, set_o, set_ne, up_ne, up_set, n1_1, true_or, or_true, n1_01, n0_01, bI_01, bI_01b, bI_0, isSc1, isSc3, isSc5, ln_2, ln_4, ln_6, ln_8, ln_10, ln_11, ln_12, ln_13, ln_14, ln_16, ln_17, ln_18, ln_19, ln_20, ln_21, ln_23, ln_24, ln_25, ln_27, ln_28, ln_29, s2, p_readCharacter hR (show itE t c p ≤ 400 by omega), hI_eq ok]
          by_cases s3 : hcN t c (itE t c p) = 59
          · have hG : itG t c B nb p := ⟨⟨by rw [hcolE]; exact hcol, by rw [hcolE, hbE, ← hS]; omega, by rw [hcolE, hbE, ← hS]; omega⟩, s3⟩
            have good := hgood hG
            simp (disch := first | assumption | exact isSc1 | exact isSc3 | exact isSc5 | decide | omega) only [iX3_readItem_107, iX3_readItem_108, iX3_readItem_111, iX3_readItem_112, iX3_readItem_113, iX3_readItem_115, iX3_readItem_116, iX3_readItem_117, Nat.reduceAdd, Nat.reduceSub, Nat.reduceMul, Nat.reduceLeDiff, mm_rv_s, mm_rv_n, true_and, and_true, if_true, if_false, not_true_eq_false, not_false_eq_true, nI_add, nz_0, nz_lt0, nz_0le, nz_0lt, nz_le0, nz_lt, nz_le, nz_eq, nz_cl, nz_in, nz_sub, nz_m1, pk_mul, set_o, set_ne, up_ne, up_set, n1_1, true_or, or_true, n1_01, n0_01, bI_01, bI_01b, bI_0, isSc1, isSc3, isSc5, ln_2, ln_4, ln_6, ln_8, ln_10, ln_11, ln_12, ln_13, ln_14, ln_16, ln_17, ln_18, ln_19, ln_20, ln_21, ln_23, ln_24, ln_25, ln_27, ln_28, ln_29, s3]
            have u26 : mm_up (atP M (itE t c p + 1)) 28 col (nI (b + S)) 26 0 = M 26 0 := by rw [up_ne _ _ _ (by decide), atP_0]
            have u261 : mm_up (atP M (itE t c p + 1)) 28 col (nI (b + S)) 26 1 = nI (itE t c p + 1) := by rw [up_ne _ _ _ (by decide), atP_1]
            have u28 : ∀ k, k ≤ 6 → mm_up (atP M (itE t c p + 1)) 28 col (nI (b + S)) 28 k = nI (itB t c nb p k) := by
              intro k hk
              rw [up_o]
              unfold itB
              rw [hcolE, hbE]
              by_cases e : k = col
              · rw [e, us, if_pos rfl, ← hS]
              · rw [un _ _ _ _ e, if_neg e, atP_ne _ (by decide), (hnb k hk).1]
            have uS : Same [26, 28] M (mm_up (atP M (itE t c p + 1)) 28 col (nI (b + S))) := ((Same.rf [26, 28] M).up (by decide) _ _).up (by decide) _ _
            generalize mm_up (atP M (itE t c p + 1)) 28 col (nI (b + S)) = M3 at u26 u261 u28 uS ⊢
            have uC : isC M3 5 B L n g := isC_cong (uS 5 (by decide)) (uS 6 (by decide)) hC5
            cases gap
            · have nG : ¬ hcN t c (p + 1) = 101 := by
                intro z
                rw [z] at hgap
                simp at hgap
              have hS' : S = spO (rSign t c (p + 1) col b (p + 2)) := by rw [hS]; unfold itS; rw [if_neg nG]
              obtain ⟨r1, r2, r3, r4, r5⟩ := rSign_ok (t := t) (c := c) (q := p + 1) (p := p + 2) (col := col) (b := b) hcol (by omega) (by omega) (by omega)
              have eSg : itSg t c nb p = sgI t c (p + 1) col b (p + 2) := by unfold itSg; rw [hcolE, hbE]
              have eN : itN t c p n = n + 1 := by unfold itN; rw [if_neg nG]
              have eH : itH t c nb p n g = insG g (pos (gtD g (sgI t c (p + 1) col b (p + 2))) n) (sgI t c (p + 1) col b (p + 2)) := by unfold itH; rw [if_neg nG, eSg]
              have hsv' := hsv rfl
              rw [r1] at hsv'
              rw [hsv']
              rw [eN, eH] at good
              generalize sgI t c (p + 1) col b (p + 2) = s at r1 r2 r3 r4 r5 good ⊢
              have x2 := uC.2.2.1
              have hg := hv.okG
              have hroomS : roomS B n g (sC s) (sB s) (sS s) := it_key (nb := nb) hv hroom (by rw [r3, r4, hbE]) (by omega)
              have e1 : pos (gtP g s) n = pos (gtD g s) n := gt_same hg r2 (by omega) (room_key hg r2 hroomS)
              simp (disch := first | assumption | exact isSc1 | exact isSc3 | exact isSc5 | decide | omega) only [oK, bI, Bool.false_eq_true, iX3_readItem_119, iX3_readItem_122, iX3_readItem_123, iX3_readItem_125, Nat.reduceAdd, Nat.reduceSub, Nat.reduceMul, Nat.reduceLeDiff, mm_rv_s, mm_rv_n, true_and, and_true, if_true, if_false, not_true_eq_false, not_false_eq_true, nI_add, nz_0, nz_lt0, nz_0le, nz_0lt, nz_le0, nz_lt, nz_le, nz_eq, nz_cl, nz_in, nz_sub, nz_m1, pk_mul, set_o, set_ne, up_ne, up_set, n1_1, true_or, or_true, n1_01, n0_01, bI_01, bI_01b, bI_0, isSc1, isSc3, isSc5, ln_2, ln_4, ln_6, ln_8, ln_10, ln_11, ln_12, ln_13, ln_14, ln_16, ln_17, ln_18, ln_19, ln_20, ln_21, ln_23, ln_24, ln_25, ln_27, ln_28, ln_29, eX3_isTaken, iX3_isTaken_0, iX3_isTaken_1, iX3_isTaken_4, iX3_isTaken_6, iX3_isTaken_9, iX3_isTaken_10, iX3_isTaken_11, x2, show ¬ 60 ≤ n by omega]
              refine p_put isSc5 uC (by omega) (fun i hi => sgp_lt (hg i hi).1 (by have := (hg i hi).2; omega)) (sgp_lt r2 (by omega)) (fun M4 hS4 hC4 => ?_)
              have hpos := pos_le (gtP g s) n
              simp (disch := first | assumption | exact isSc1 | exact isSc3 | exact isSc5 | decide | omega) only [iX3_isTaken_14, iX3_isTaken_15, iX3_isTaken_18, iX3_isTaken_19, iX3_isTaken_22, iX3_isTaken_23, Nat.reduceAdd, Nat.reduceSub, Nat.reduceMul, Nat.reduceLeDiff, mm_rv_s, mm_rv_n, true_and, and_true, if_true, if_false, not_true_eq_false, not_false_eq_true, nI_add, nz_0, nz_lt0, nz_0le, nz_0lt, nz_le0, nz_lt, nz_le, nz_eq, nz_cl, nz_in, nz_sub, nz_m1, pk_mul, set_o, set_ne, up_ne, up_set, n1_1, true_or, or_true, n1_01, n0_01, bI_01, bI_01b, bI_0, isSc1, isSc3, isSc5, ln_2, ln_4, ln_6, ln_8, ln_10, ln_11, ln_12, ln_13, ln_14, ln_16, ln_17, ln_18, ln_19, ln_20, ln_21, ln_23, ln_24, ln_25, ln_27, ln_28, ln_29, nz_ne1, Nat.one_ne_zero, iX3_readItem_128, iX3_readItem_131, iX3_readItem_132, iX3_readItem_135, iX3_readItem_136]
              rw [e1] at hC4
              exact good M4 ((uS.wk (by decide)).tr (hS4.wk (by decide))) (by rw [hS4 26 (by decide), u26]) (by rw [hS4 26 (by decide), u261]) (fun k hk => by rw [hS4 28 (by decide)]; exact u28 k hk) hC4
            · have yG : hcN t c (p + 1) = 101 := by simpa using hgap.symm
              have eN : itN t c p n = n := by unfold itN; rw [if_pos yG]
              have eH : itH t c nb p n g = g := by unfold itH; rw [if_pos yG]
              rw [eN, eH] at good
              simp (disch := first | assumption | exact isSc1 | exact isSc3 | exact isSc5 | decide | omega) only [bI, iX3_readItem_119, iX3_readItem_122, iX3_readItem_123, iX3_readItem_125, iX3_readItem_128, iX3_readItem_131, iX3_readItem_132, iX3_readItem_135, iX3_readItem_136, Nat.reduceAdd, Nat.reduceSub, Nat.reduceMul, Nat.reduceLeDiff, mm_rv_s, mm_rv_n, true_and, and_true, if_true, if_false, not_true_eq_false, not_false_eq_true, nI_add, nz_0, nz_lt0, nz_0le, nz_0lt, nz_le0, nz_lt, nz_le, nz_eq, nz_cl, nz_in, nz_sub, nz_m1, pk_mul, set_o, set_ne, up_ne, up_set, n1_1, true_or, or_true, n1_01, n0_01, bI_01, bI_01b, bI_0, isSc1, isSc3, isSc5, ln_2, ln_4, ln_6, ln_8, ln_10, ln_11, ln_12, ln_13, ln_14, ln_16, ln_17, ln_18, ln_19, ln_20, ln_21, ln_23, ln_24, ln_25, ln_27, ln_28, ln_29, Nat.one_ne_zero]
              exact good M3 (uS.wk (by decide)) u26 u261 u28 uC
          · simp (disch := first | assumption | exact isSc1 | exact isSc3 | exact isSc5 | decide | omega) only [iX3_readItem_105, iX3_readItem_106, Nat.reduceAdd, Nat.reduceSub, Nat.reduceMul, Nat.reduceLeDiff, mm_rv_s, mm_rv_n, true_and, and_true, if_true, if_false, not_true_eq_false, not_false_eq_true, nI_add, nz_0, nz_lt0, nz_0le, nz_0lt, nz_le0, nz_lt, nz_le, nz_eq, nz_cl, nz_in, nz_sub, nz_m1, pk_mul, set_o, set_ne, up_ne, up_set, n1_1, true_or, or_true, n1_01, n0_01, bI_01, bI_01b, bI_0, isSc1, isSc3, isSc5, ln_2, ln_4, ln_6, ln_8, ln_10, ln_11, ln_12, ln_13, ln_14, ln_16, ln_17, ln_18, ln_19, ln_20, ln_21, ln_23, ln_24, ln_25, ln_27, ln_28, ln_29, s3]
            exact bad (fun z => s3 z.2.2) _
    simp (disch := first | assumption | exact isSc1 | exact isSc3 | exact isSc5 | decide | omega) only [iX3_readItem_9, iX3_readItem_12, iX3_readItem_13, iX3_readItem_14, iX3_readItem_15, iX3_readItem_18, iX3_readItem_19, iX3_readItem_20, iX3_readItem_21, iX3_readItem_22, iX3_readItem_25, iX3_readItem_27, iX3_readItem_29, iX3_readItem_31, Nat.reduceAdd, Nat.reduceSub, Nat.reduceMul, Nat.reduceLeDiff, mm_rv_s, mm_rv_n, true_and, and_true, if_true, if_false, not_true_eq_false, not_false_eq_true, nI_add, nz_0, nz_lt0, nz_0le, nz_0lt, nz_le0, nz_lt, nz_le, nz_eq, nz_cl, nz_in, nz_sub, nz_m1, pk_mul, set_o, set_ne, up_ne, up_set, n1_1, true_or, or_true, n1_01, n0_01, bI_01, bI_01b, bI_0, isSc1, isSc3, isSc5, ln_2, ln_4, ln_6, ln_8, ln_10, ln_11, ln_12, ln_13, ln_14, ln_16, ln_17, ln_18, ln_19, ln_20, ln_21, ln_23, ln_24, ln_25, ln_27, ln_28, ln_29, hcol, decide_true, Bool.true_eq_false, eD, e28', p_readCharacter hR (show p + 1 ≤ 400 by omega), hI_eq ok, Nat.add_assoc]
    by_cases hgp : hcN t c (p + 1) = 101
    · have eE : itE t c p = lenP t c (p + 2) := by unfold itE; rw [if_pos hgp]
      have eS : itS t c col b p = lenV t c (p + 2) := by unfold itS; rw [if_pos hgp]
      have lv := lenV_le t c (p + 2)
      have tl := tail true (-1) (lenV t c (p + 2)) (by simp [hgp]) eS.symm (fun h => absurd h (by decide)) (by omega)
      rw [eE] at tl
      simp (disch := first | assumption | exact isSc1 | exact isSc3 | exact isSc5 | decide | omega) only [iX3_readItem_34, iX3_readItem_35, iX3_readItem_38, iX3_readItem_39, iX3_readItem_41, iX3_readItem_43, iX3_readItem_46, iX3_readItem_47, iX3_readItem_50, iX3_readItem_51, iX3_readItem_53, iX3_readItem_54, iX3_readItem_55, iX3_readItem_58, iX3_readItem_60, iX3_readItem_62, iX3_readItem_65, iX3_readItem_66, iX3_readItem_69, Nat.reduceAdd, Nat.reduceSub, Nat.reduceMul, Nat.reduceLeDiff, mm_rv_s, mm_rv_n, true_and, and_true, if_true, if_false, not_true_eq_false, not_false_eq_true, nI_add, nz_0, nz_lt0, nz_0le, nz_0lt, nz_le0, nz_lt, nz_le, nz_eq, nz_cl, nz_in, nz_sub, nz_m1, pk_mul, set_o, set_ne, up_ne, up_set, n1_1, true_or, or_true, n1_01, n0_01, bI_01, bI_01b, bI_0, isSc1, isSc3, isSc5, ln_2, ln_4, ln_6, ln_8, ln_10, ln_11, ln_12, ln_13, ln_14, ln_16, ln_17, ln_18, ln_19, ln_20, ln_21, ln_23, ln_24, ln_25, ln_27, ln_28, ln_29, hgp, Nat.one_ne_zero, p_readLength hR (show p + 2 ≤ 300 by omega), bI] at tl ⊢
      exact tl
    · have eE : itE t c p = rPos t c (p + 1) (p + 2) := by unfold itE; rw [if_neg hgp]
      have eS : itS t c col b p = spO (rSign t c (p + 1) col b (p + 2)) := by unfold itS; rw [if_neg hgp]
      have hlt : spO (rSign t c (p + 1) col b (p + 2)) < 200 := by
        cases rSign t c (p + 1) col b (p + 2) with
        | none => decide
        | some k => show k / 8192 % 128 < 200; omega
      have tl := tail false (oK (rSign t c (p + 1) col b (p + 2))) (spO (rSign t c (p + 1) col b (p + 2))) (by simp [hgp]) eS.symm (fun _ => rfl) hlt
      rw [eE] at tl
      simp (disch := first | assumption | exact isSc1 | exact isSc3 | exact isSc5 | decide | omega) only [iX3_readItem_34, iX3_readItem_35, iX3_readItem_38, iX3_readItem_39, iX3_readItem_41, iX3_readItem_43, iX3_readItem_46, iX3_readItem_47, iX3_readItem_50, iX3_readItem_51, iX3_readItem_53, iX3_readItem_54, iX3_readItem_55, iX3_readItem_58, iX3_readItem_60, iX3_readItem_62, iX3_readItem_65, iX3_readItem_66, iX3_readItem_69, iX3_readItem_72, iX3_readItem_74, Nat.reduceAdd, Nat.reduceSub, Nat.reduceMul, Nat.reduceLeDiff, mm_rv_s, mm_rv_n, true_and, and_true, if_true, if_false, not_true_eq_false, not_false_eq_true, nI_add, nz_0, nz_lt0, nz_0le, nz_0lt, nz_le0, nz_lt, nz_le, nz_eq, nz_cl, nz_in, nz_sub, nz_m1, pk_mul, set_o, set_ne, up_ne, up_set, n1_1, true_or, or_true, n1_01, n0_01, bI_01, bI_01b, bI_0, isSc1, isSc3, isSc5, ln_2, ln_4, ln_6, ln_8, ln_10, ln_11, ln_12, ln_13, ln_14, ln_16, ln_17, ln_18, ln_19, ln_20, ln_21, ln_23, ln_24, ln_25, ln_27, ln_28, ln_29, hgp, bI, Bool.false_eq_true, p_readSign hR (show p + 2 ≤ 200 by omega) hcol (show b ≤ 48 by omega), p_spanOfO (rSign_lt (t := t) (c := c) (q := p + 1) (p := p + 2) hcol (show b ≤ 48 by omega))] at tl ⊢
      exact tl
  · simp (disch := first | assumption | exact isSc1 | exact isSc3 | exact isSc5 | decide | omega) only [iX3_readItem_9, iX3_readItem_12, iX3_readItem_13, Nat.reduceAdd, Nat.reduceSub, Nat.reduceMul, Nat.reduceLeDiff, mm_rv_s, mm_rv_n, true_and, and_true, if_true, if_false, not_true_eq_false, not_false_eq_true, nI_add, nz_0, nz_lt0, nz_0le, nz_0lt, nz_le0, nz_lt, nz_le, nz_eq, nz_cl, nz_in, nz_sub, nz_m1, pk_mul, set_o, set_ne, up_ne, up_set, n1_1, true_or, or_true, n1_01, n0_01, bI_01, bI_01b, bI_0, isSc1, isSc3, isSc5, ln_2, ln_4, ln_6, ln_8, ln_10, ln_11, ln_12, ln_13, ln_14, ln_16, ln_17, ln_18, ln_19, ln_20, ln_21, ln_23, ln_24, ln_25, ln_27, ln_28, ln_29, hcol, decide_false]
    exact hbad (fun z => hcol z.1.1) _
end IT2

