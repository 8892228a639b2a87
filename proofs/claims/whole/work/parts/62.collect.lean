/-! THE PHRASE, by the reference -/
def fE (d : Nat → Int32) (i : Nat) (s : Sg) : Prop := d i = nI (sC s) ∧ d (60 + i) = nI (sB s) ∧ d (120 + i) = nI (sK s) ∧ d (180 + i) = nI (sN s) ∧ d (240 + i) = iZ (sW s) ∧ d (300 + i) = nI (sV s)
def putE (d : Nat → Int32) (k : Nat) (a b c e w v : Int32) : Nat → Int32 := upd (upd (upd (upd (upd (upd d k a) (60 + k) b) (120 + k) c) (180 + k) e) (240 + k) w) (300 + k) v
theorem putE_ne {d : Nat → Int32} {k i : Nat} {a b c e w v : Int32} {s : Sg} (hik : i ≠ k) (hi : i < 60) (hk : k < 60) (h : fE d i s) : fE (putE d k a b c e w v) i s := by
  obtain ⟨h1, h2, h3, h4, h5, h6⟩ := h
  have key : ∀ f : Nat, (f = 0 ∨ f = 60 ∨ f = 120 ∨ f = 180 ∨ f = 240 ∨ f = 300) → putE d k a b c e w v (f + i) = d (f + i) := by
    intro f hf
    unfold putE
    rw [un _ _ _ _ (by omega), un _ _ _ _ (by omega), un _ _ _ _ (by omega), un _ _ _ _ (by omega), un _ _ _ _ (by omega), un _ _ _ _ (by omega)]
  have k0 := key 0 (by omega)
  rw [Nat.zero_add] at k0
  exact ⟨by rw [k0, h1], by rw [key 60 (by omega), h2], by rw [key 120 (by omega), h3], by rw [key 180 (by omega), h4], by rw [key 240 (by omega), h5], by rw [key 300 (by omega), h6]⟩
theorem putE_at {d : Nat → Int32} {k : Nat} (s : Sg) (hk : k < 60) : fE (putE d k (nI (sC s)) (nI (sB s)) (nI (sK s)) (nI (sN s)) (iZ (sW s)) (nI (sV s))) k s := by
  unfold putE
  refine ⟨?_, ?_, ?_, ?_, ?_, ?_⟩
  · rw [un _ _ _ _ (by omega), un _ _ _ _ (by omega), un _ _ _ _ (by omega), un _ _ _ _ (by omega), un _ _ _ _ (by omega), us]
  · rw [un _ _ _ _ (by omega), un _ _ _ _ (by omega), un _ _ _ _ (by omega), un _ _ _ _ (by omega), us]
  · rw [un _ _ _ _ (by omega), un _ _ _ _ (by omega), un _ _ _ _ (by omega), us]
  · rw [un _ _ _ _ (by omega), un _ _ _ _ (by omega), us]
  · rw [un _ _ _ _ (by omega), us]
  · rw [us]
section COL
variable {M : mm_M} {Q : mm_Q} {B L n : Nat} {g ph : Nat → Sg}
theorem m_ins {s : Sg} {m i : Nat} {r : Bool} {w : Int} {a1 a2 a3 a4 l9 l14x : Option mm_V} (hm : m < 60) (hi : i < 120) (hb : okB ph m) (hs : sC s ≤ 6 ∧ sB s ≤ 94) (hk3 : sK s ≤ 3) (e363 : M 31 (363 + i) = nI (sN s)) (e603 : M 31 (603 + i) = nI (sV s)) (hw : (if r = true ∧ sK s = 2 then -w else w) = sW s)
    (hQ : ∀ E2 l13 l14, (∀ j, j < m + 1 → fE E2 j (insG ph (pos (gtD ph s) m) s j)) → wp 119 402 [some (.inr 30), a1, a2, a3, a4, some (.inl (bI r)), some (.inl (nI m)), some (.inl (nI i)), some (.inl (nI (sK s))), l9, some (.inl (nI (sC s))), some (.inl (nI (sB s))), some (.inl (iZ w)), l13, l14] [] (mm_set M 36 E2) Q)
    {E : Nat → Int32} (hE : ∀ j, j < m → fE E j (ph j)) :
    wp 119 197 [some (.inr 30), a1, a2, a3, a4, some (.inl (bI r)), some (.inl (nI m)), some (.inl (nI i)), some (.inl (nI (sK s))), l9, some (.inl (nI (sC s))), some (.inl (nI (sB s))), some (.inl (iZ w)), some (.inl (nI m)), l14x] [] (mm_set M 36 E) Q := by
  have fin : ∀ k : Nat, k ≤ m → pos (gtD ph s) m = k → ∀ (d1 : Nat → Int32) (l14 : Option mm_V), (∀ j, j ≤ m → j ≠ k → fE d1 j (shG ph k j)) →
      wp 119 295 [some (.inr 30), a1, a2, a3, a4, some (.inl (bI r)), some (.inl (nI m)), some (.inl (nI i)), some (.inl (nI (sK s))), l9, some (.inl (nI (sC s))), some (.inl (nI (sB s))), some (.inl (iZ w)), some (.inl (nI k)), l14] [] (mm_set M 36 d1) Q := by
    intro k hk hp d1 l14 hM
    have last : wp 119 380 [some (.inr 30), a1, a2, a3, a4, some (.inl (bI r)), some (.inl (nI m)), some (.inl (nI i)), some (.inl (nI (sK s))), l9, some (.inl (nI (sC s))), some (.inl (nI (sB s))), some (.inl (iZ w)), some (.inl (nI k)), l14] [] (mm_set M 36 (upd (upd (upd (upd (upd d1 k (nI (sC s))) (60 + k) (nI (sB s))) (120 + k) (nI (sK s))) (180 + k) (nI (sN s))) (240 + k) (iZ (sW s)))) Q := by
      simp (disch := first | assumption | exact isSc1 | exact isSc3 | exact isSc5 | decide | omega) only [iX8_collects_380, iX8_collects_381, iX8_collects_384, iX8_collects_387, iX8_collects_389, iX8_collects_390, iX8_collects_391, iX8_collects_394, iX8_collects_397, iX8_collects_399, iX8_collects_400, iX8_collects_401, Nat.reduceAdd, Nat.reduceSub, Nat.reduceMul, Nat.reduceLeDiff, mm_rv_s, mm_rv_n, true_and, and_true, if_true, if_false, not_true_eq_false, not_false_eq_true, nI_add, nz_0, nz_lt0, nz_0le, nz_0lt, nz_le0, nz_lt, nz_le, nz_eq, nz_cl, nz_in, nz_sub, nz_m1, pk_mul, set_o, set_ne, up_ne, up_set, n1_1, true_or, or_true, n1_01, n0_01, bI_01, bI_01b, bI_0, isSc1, isSc3, isSc5, ln_2, ln_4, ln_6, ln_8, ln_10, ln_11, ln_12, ln_13, ln_14, ln_16, ln_17, ln_18, ln_19, ln_20, ln_21, ln_23, ln_24, ln_25, ln_27, ln_28, ln_29, ln_31, ln_32, ln_33, ln_35, ln_36, ln_37, e603]
      have e8 : upd (upd (upd (upd (upd (upd d1 k (nI (sC s))) (60 + k) (nI (sB s))) (120 + k) (nI (sK s))) (180 + k) (nI (sN s))) (240 + k) (iZ (sW s))) (300 + k) (nI (sV s)) = putE d1 k (nI (sC s)) (nI (sB s)) (nI (sK s)) (nI (sN s)) (iZ (sW s)) (nI (sV s)) := rfl
      rw [e8]
      refine hQ _ _ _ (fun j hj => ?_)
      rw [hp]
      unfold insG
      by_cases hjk : j = k
      · rw [if_pos hjk, hjk]
        exact putE_at s (by omega)
      · rw [if_neg hjk]
        exact putE_ne hjk (by omega) (by omega) (hM j (by omega) hjk)
    simp (disch := first | assumption | exact isSc1 | exact isSc3 | exact isSc5 | decide | omega) only [iX8_collects_295, iX8_collects_296, iX8_collects_299, iX8_collects_301, iX8_collects_303, iX8_collects_304, iX8_collects_305, iX8_collects_308, iX8_collects_310, iX8_collects_312, iX8_collects_313, iX8_collects_315, iX8_collects_316, iX8_collects_317, iX8_collects_320, iX8_collects_322, iX8_collects_324, iX8_collects_325, iX8_collects_327, iX8_collects_328, iX8_collects_329, iX8_collects_332, iX8_collects_335, iX8_collects_337, iX8_collects_338, iX8_collects_339, iX8_collects_342, iX8_collects_345, iX8_collects_347, iX8_collects_348, iX8_collects_349, iX8_collects_350, iX8_collects_351, iX8_collects_354, iX8_collects_357, iX8_collects_359, Nat.reduceAdd, Nat.reduceSub, Nat.reduceMul, Nat.reduceLeDiff, mm_rv_s, mm_rv_n, true_and, and_true, if_true, if_false, not_true_eq_false, not_false_eq_true, nI_add, nz_0, nz_lt0, nz_0le, nz_0lt, nz_le0, nz_lt, nz_le, nz_eq, nz_cl, nz_in, nz_sub, nz_m1, pk_mul, set_o, set_ne, up_ne, up_set, n1_1, true_or, or_true, n1_01, n0_01, bI_01, bI_01b, bI_0, isSc1, isSc3, isSc5, ln_2, ln_4, ln_6, ln_8, ln_10, ln_11, ln_12, ln_13, ln_14, ln_16, ln_17, ln_18, ln_19, ln_20, ln_21, ln_23, ln_24, ln_25, ln_27, ln_28, ln_29, ln_31, ln_32, ln_33, ln_35, ln_36, ln_37, e363]
    cases r
    · have ew : w = sW s := by
        rw [← hw, if_neg (by simp)]
      rw [← ew] at last
      simp (disch := first | assumption | exact isSc1 | exact isSc3 | exact isSc5 | decide | omega) only [iX8_collects_360, iX8_collects_362, iX8_collects_365, iX8_collects_367, iX8_collects_368, iX8_collects_371, iX8_collects_373, iX8_collects_374, iX8_collects_377, iX8_collects_379, Nat.reduceAdd, Nat.reduceSub, Nat.reduceMul, Nat.reduceLeDiff, mm_rv_s, mm_rv_n, true_and, and_true, if_true, if_false, not_true_eq_false, not_false_eq_true, nI_add, nz_0, nz_lt0, nz_0le, nz_0lt, nz_le0, nz_lt, nz_le, nz_eq, nz_cl, nz_in, nz_sub, nz_m1, pk_mul, set_o, set_ne, up_ne, up_set, n1_1, true_or, or_true, n1_01, n0_01, bI_01, bI_01b, bI_0, isSc1, isSc3, isSc5, ln_2, ln_4, ln_6, ln_8, ln_10, ln_11, ln_12, ln_13, ln_14, ln_16, ln_17, ln_18, ln_19, ln_20, ln_21, ln_23, ln_24, ln_25, ln_27, ln_28, ln_29, ln_31, ln_32, ln_33, ln_35, ln_36, ln_37, bI_0] at last ⊢
      exact last
    · by_cases k2 : sK s = 2
      · have ew : -w = sW s := by
          rw [← hw, if_pos ⟨rfl, k2⟩]
        rw [← ew] at last
        simp (disch := first | assumption | exact isSc1 | exact isSc3 | exact isSc5 | decide | omega) only [iX8_collects_360, iX8_collects_362, iX8_collects_365, iX8_collects_367, iX8_collects_368, iX8_collects_371, iX8_collects_373, iX8_collects_374, iX8_collects_377, iX8_collects_379, Nat.reduceAdd, Nat.reduceSub, Nat.reduceMul, Nat.reduceLeDiff, mm_rv_s, mm_rv_n, true_and, and_true, if_true, if_false, not_true_eq_false, not_false_eq_true, nI_add, nz_0, nz_lt0, nz_0le, nz_0lt, nz_le0, nz_lt, nz_le, nz_eq, nz_cl, nz_in, nz_sub, nz_m1, pk_mul, set_o, set_ne, up_ne, up_set, n1_1, true_or, or_true, n1_01, n0_01, bI_01, bI_01b, bI_0, isSc1, isSc3, isSc5, ln_2, ln_4, ln_6, ln_8, ln_10, ln_11, ln_12, ln_13, ln_14, ln_16, ln_17, ln_18, ln_19, ln_20, ln_21, ln_23, ln_24, ln_25, ln_27, ln_28, ln_29, ln_31, ln_32, ln_33, ln_35, ln_36, ln_37, bI_0, Bool.true_eq_false, k2, iZ_neg] at last ⊢
        exact last
      · have ew : w = sW s := by
          rw [← hw, if_neg (fun z => k2 z.2)]
        rw [← ew] at last
        simp (disch := first | assumption | exact isSc1 | exact isSc3 | exact isSc5 | decide | omega) only [iX8_collects_360, iX8_collects_362, iX8_collects_365, iX8_collects_367, iX8_collects_368, iX8_collects_371, iX8_collects_373, iX8_collects_374, iX8_collects_377, iX8_collects_379, Nat.reduceAdd, Nat.reduceSub, Nat.reduceMul, Nat.reduceLeDiff, mm_rv_s, mm_rv_n, true_and, and_true, if_true, if_false, not_true_eq_false, not_false_eq_true, nI_add, nz_0, nz_lt0, nz_0le, nz_0lt, nz_le0, nz_lt, nz_le, nz_eq, nz_cl, nz_in, nz_sub, nz_m1, pk_mul, set_o, set_ne, up_ne, up_set, n1_1, true_or, or_true, n1_01, n0_01, bI_01, bI_01b, bI_0, isSc1, isSc3, isSc5, ln_2, ln_4, ln_6, ln_8, ln_10, ln_11, ln_12, ln_13, ln_14, ln_16, ln_17, ln_18, ln_19, ln_20, ln_21, ln_23, ln_24, ln_25, ln_27, ln_28, ln_29, ln_31, ln_32, ln_33, ln_35, ln_36, ln_37, bI_0, Bool.true_eq_false, k2] at last ⊢
        exact last
  have loop : ∀ k : Nat, k ≤ m → pos (gtD ph s) m = pos (gtD ph s) k → ∀ (d1 : Nat → Int32) (l14 : Option mm_V), (∀ j, j ≤ m → j ≠ k → fE d1 j (shG ph k j)) →
      wp 119 197 [some (.inr 30), a1, a2, a3, a4, some (.inl (bI r)), some (.inl (nI m)), some (.inl (nI i)), some (.inl (nI (sK s))), l9, some (.inl (nI (sC s))), some (.inl (nI (sB s))), some (.inl (iZ w)), some (.inl (nI k)), l14] [] (mm_set M 36 d1) Q := by
    intro k
    induction k with
    | zero =>
      intro hk hp d1 l14 hM
      rw [iX8_collects_197]
      simp (disch := first | assumption | exact isSc1 | exact isSc3 | exact isSc5 | decide | omega) only [iX8_collects_199, Nat.reduceAdd, Nat.reduceSub, Nat.reduceMul, Nat.reduceLeDiff, mm_rv_s, mm_rv_n, true_and, and_true, if_true, if_false, not_true_eq_false, not_false_eq_true, nI_add, nz_0, nz_lt0, nz_0le, nz_0lt, nz_le0, nz_lt, nz_le, nz_eq, nz_cl, nz_in, nz_sub, nz_m1, pk_mul, set_o, set_ne, up_ne, up_set, n1_1, true_or, or_true, n1_01, n0_01, bI_01, bI_01b, bI_0, isSc1, isSc3, isSc5, ln_2, ln_4, ln_6, ln_8, ln_10, ln_11, ln_12, ln_13, ln_14, ln_16, ln_17, ln_18, ln_19, ln_20, ln_21, ln_23, ln_24, ln_25, ln_27, ln_28, ln_29, ln_31, ln_32, ln_33, ln_35, ln_36, ln_37]
      exact fin 0 hk (by rw [hp]; rfl) d1 l14 hM
    | succ k ih =>
      intro hk hp d1 l14 hM
      have hf := hM k (by omega) (by omega)
      have hsh : shG ph (k + 1) k = ph k := by unfold shG; rw [if_pos (by omega)]
      rw [hsh] at hf
      obtain ⟨f1, f2, f3, f4, f5, f6⟩ := hf
      have hgk := hb k (by omega)
      have e1 : 60 + (k + 1) - 1 = 60 + k := by omega
      have back : gtD ph s k = true → wp 119 250 [some (.inr 30), a1, a2, a3, a4, some (.inl (bI r)), some (.inl (nI m)), some (.inl (nI i)), some (.inl (nI (sK s))), l9, some (.inl (nI (sC s))), some (.inl (nI (sB s))), some (.inl (iZ w)), some (.inl (nI (k + 1))), l14] [] (mm_set M 36 d1) Q := by
        intro hgt
        have st : ∀ (f : Nat) (d : Nat → Int32) (v : Int32), (f = 0 ∨ f = 60 ∨ f = 120 ∨ f = 180 ∨ f = 240 ∨ f = 300) → d (f + k) = v → (wp 119 253 [some (.inr 30), a1, a2, a3, a4, some (.inl (bI r)), some (.inl (nI m)), some (.inl (nI i)), some (.inl (nI (sK s))), l9, some (.inl (nI (sC s))), some (.inl (nI (sB s))), some (.inl (iZ w)), some (.inl (nI (k + 1))), some (.inl (nI f))] [] (mm_set M 36 d) Q ↔
            wp 119 253 [some (.inr 30), a1, a2, a3, a4, some (.inl (bI r)), some (.inl (nI m)), some (.inl (nI i)), some (.inl (nI (sK s))), l9, some (.inl (nI (sC s))), some (.inl (nI (sB s))), some (.inl (iZ w)), some (.inl (nI (k + 1))), some (.inl (nI (f + 60)))] [] (mm_set M 36 (upd d (f + (k + 1)) v)) Q) := by
          intro f d v hf hv
          have b1 : f + (k + 1) - 1 = f + k := by omega
          rw [iX8_collects_253]
          simp (disch := first | assumption | exact isSc1 | exact isSc3 | exact isSc5 | decide | omega) only [iX8_collects_255, iX8_collects_258, iX8_collects_261, iX8_collects_262, iX8_collects_265, iX8_collects_267, iX8_collects_269, iX8_collects_270, iX8_collects_271, iX8_collects_274, iX8_collects_276, iX8_collects_278, iX8_collects_279, iX8_collects_280, iX8_collects_281, iX8_collects_282, iX8_collects_283, iX8_collects_286, Nat.reduceAdd, Nat.reduceSub, Nat.reduceMul, Nat.reduceLeDiff, mm_rv_s, mm_rv_n, true_and, and_true, if_true, if_false, not_true_eq_false, not_false_eq_true, nI_add, nz_0, nz_lt0, nz_0le, nz_0lt, nz_le0, nz_lt, nz_le, nz_eq, nz_cl, nz_in, nz_sub, nz_m1, pk_mul, set_o, set_ne, up_ne, up_set, n1_1, true_or, or_true, n1_01, n0_01, bI_01, bI_01b, bI_0, isSc1, isSc3, isSc5, ln_2, ln_4, ln_6, ln_8, ln_10, ln_11, ln_12, ln_13, ln_14, ln_16, ln_17, ln_18, ln_19, ln_20, ln_21, ln_23, ln_24, ln_25, ln_27, ln_28, ln_29, ln_31, ln_32, ln_33, ln_35, ln_36, ln_37, show ¬ 360 ≤ f by omega, b1, hv]
        simp (disch := first | assumption | exact isSc1 | exact isSc3 | exact isSc5 | decide | omega) only [iX8_collects_250, iX8_collects_251]
        rw [st 0 d1 (nI (sC (ph k))) (by omega) (by rw [Nat.zero_add]; exact f1), st (0 + 60) _ (nI (sB (ph k))) (by omega) (by rw [un _ _ _ _ (by omega)]; exact f2), st (0 + 60 + 60) _ (nI (sK (ph k))) (by omega) (by rw [un _ _ _ _ (by omega), un _ _ _ _ (by omega)]; exact f3), st (0 + 60 + 60 + 60) _ (nI (sN (ph k))) (by omega) (by rw [un _ _ _ _ (by omega), un _ _ _ _ (by omega), un _ _ _ _ (by omega)]; exact f4), st (0 + 60 + 60 + 60 + 60) _ (iZ (sW (ph k))) (by omega) (by rw [un _ _ _ _ (by omega), un _ _ _ _ (by omega), un _ _ _ _ (by omega), un _ _ _ _ (by omega)]; exact f5), st (0 + 60 + 60 + 60 + 60 + 60) _ (nI (sV (ph k))) (by omega) (by rw [un _ _ _ _ (by omega), un _ _ _ _ (by omega), un _ _ _ _ (by omega), un _ _ _ _ (by omega), un _ _ _ _ (by omega)]; exact f6)]
        rw [iX8_collects_253]
        simp (disch := first | assumption | exact isSc1 | exact isSc3 | exact isSc5 | decide | omega) only [iX8_collects_255, iX8_collects_258, iX8_collects_289, iX8_collects_292, Nat.reduceAdd, Nat.reduceSub, Nat.reduceMul, Nat.reduceLeDiff, mm_rv_s, mm_rv_n, true_and, and_true, if_true, if_false, not_true_eq_false, not_false_eq_true, nI_add, nz_0, nz_lt0, nz_0le, nz_0lt, nz_le0, nz_lt, nz_le, nz_eq, nz_cl, nz_in, nz_sub, nz_m1, pk_mul, set_o, set_ne, up_ne, up_set, n1_1, true_or, or_true, n1_01, n0_01, bI_01, bI_01b, bI_0, isSc1, isSc3, isSc5, ln_2, ln_4, ln_6, ln_8, ln_10, ln_11, ln_12, ln_13, ln_14, ln_16, ln_17, ln_18, ln_19, ln_20, ln_21, ln_23, ln_24, ln_25, ln_27, ln_28, ln_29, ln_31, ln_32, ln_33, ln_35, ln_36, ln_37, Nat.le_refl, Nat.add_sub_cancel, Nat.zero_add]
        have eD : upd (upd (upd (upd (upd (upd d1 (k + 1) (nI (sC (ph k)))) (60 + (k + 1)) (nI (sB (ph k)))) (120 + (k + 1)) (nI (sK (ph k)))) (180 + (k + 1)) (nI (sN (ph k)))) (240 + (k + 1)) (iZ (sW (ph k)))) (300 + (k + 1)) (nI (sV (ph k))) = putE d1 (k + 1) (nI (sC (ph k))) (nI (sB (ph k))) (nI (sK (ph k))) (nI (sN (ph k))) (iZ (sW (ph k))) (nI (sV (ph k))) := rfl
        rw [eD]
        refine ih (by omega) (by rw [hp, pos, if_pos hgt]) _ _ (fun j hj hjk => ?_)
        by_cases hj2 : j = k + 1
        · subst hj2
          have e : shG ph k (k + 1) = ph k := by unfold shG; rw [if_neg (by omega), Nat.add_sub_cancel]
          rw [e]
          exact putE_at (ph k) (by omega)
        · have e : shG ph k j = shG ph (k + 1) j := by
            unfold shG
            by_cases hlt : j < k
            · rw [if_pos hlt, if_pos (by omega)]
            · rw [if_neg hlt, if_neg (by omega)]
          rw [e]
          exact putE_ne hj2 (by omega) (by omega) (hM j hj hj2)
      have stay : gtD ph s k = false → wp 119 295 [some (.inr 30), a1, a2, a3, a4, some (.inl (bI r)), some (.inl (nI m)), some (.inl (nI i)), some (.inl (nI (sK s))), l9, some (.inl (nI (sC s))), some (.inl (nI (sB s))), some (.inl (iZ w)), some (.inl (nI (k + 1))), l14] [] (mm_set M 36 d1) Q := fun hgt => fin (k + 1) hk (by rw [hp, pos, if_neg (by rw [hgt]; decide)]) d1 l14 hM
      rw [iX8_collects_197]
      simp (disch := first | assumption | exact isSc1 | exact isSc3 | exact isSc5 | decide | omega) only [iX8_collects_199, iX8_collects_202, iX8_collects_203, iX8_collects_206, iX8_collects_208, iX8_collects_210, iX8_collects_211, iX8_collects_212, iX8_collects_213, iX8_collects_214, iX8_collects_216, Nat.reduceAdd, Nat.reduceSub, Nat.reduceMul, Nat.reduceLeDiff, mm_rv_s, mm_rv_n, true_and, and_true, if_true, if_false, not_true_eq_false, not_false_eq_true, nI_add, nz_0, nz_lt0, nz_0le, nz_0lt, nz_le0, nz_lt, nz_le, nz_eq, nz_cl, nz_in, nz_sub, nz_m1, pk_mul, set_o, set_ne, up_ne, up_set, n1_1, true_or, or_true, n1_01, n0_01, bI_01, bI_01b, bI_0, isSc1, isSc3, isSc5, ln_2, ln_4, ln_6, ln_8, ln_10, ln_11, ln_12, ln_13, ln_14, ln_16, ln_17, ln_18, ln_19, ln_20, ln_21, ln_23, ln_24, ln_25, ln_27, ln_28, ln_29, ln_31, ln_32, ln_33, ln_35, ln_36, ln_37, Nat.succ_ne_zero, e1, f2]
      by_cases g1 : sB s < sB (ph k)
      · simp (disch := first | assumption | exact isSc1 | exact isSc3 | exact isSc5 | decide | omega) only [Nat.reduceAdd, Nat.reduceSub, Nat.reduceMul, Nat.reduceLeDiff, mm_rv_s, mm_rv_n, true_and, and_true, if_true, if_false, not_true_eq_false, not_false_eq_true, nI_add, nz_0, nz_lt0, nz_0le, nz_0lt, nz_le0, nz_lt, nz_le, nz_eq, nz_cl, nz_in, nz_sub, nz_m1, pk_mul, set_o, set_ne, up_ne, up_set, n1_1, true_or, or_true, n1_01, n0_01, bI_01, bI_01b, bI_0, isSc1, isSc3, isSc5, ln_2, ln_4, ln_6, ln_8, ln_10, ln_11, ln_12, ln_13, ln_14, ln_16, ln_17, ln_18, ln_19, ln_20, ln_21, ln_23, ln_24, ln_25, ln_27, ln_28, ln_29, ln_31, ln_32, ln_33, ln_35, ln_36, ln_37, g1]
        exact back (by simp [gtD, g1])
      · simp (disch := first | assumption | exact isSc1 | exact isSc3 | exact isSc5 | decide | omega) only [iX8_collects_219, iX8_collects_220, iX8_collects_223, iX8_collects_225, iX8_collects_227, iX8_collects_228, iX8_collects_229, iX8_collects_230, iX8_collects_231, iX8_collects_233, Nat.reduceAdd, Nat.reduceSub, Nat.reduceMul, Nat.reduceLeDiff, mm_rv_s, mm_rv_n, true_and, and_true, if_true, if_false, not_true_eq_false, not_false_eq_true, nI_add, nz_0, nz_lt0, nz_0le, nz_0lt, nz_le0, nz_lt, nz_le, nz_eq, nz_cl, nz_in, nz_sub, nz_m1, pk_mul, set_o, set_ne, up_ne, up_set, n1_1, true_or, or_true, n1_01, n0_01, bI_01, bI_01b, bI_0, isSc1, isSc3, isSc5, ln_2, ln_4, ln_6, ln_8, ln_10, ln_11, ln_12, ln_13, ln_14, ln_16, ln_17, ln_18, ln_19, ln_20, ln_21, ln_23, ln_24, ln_25, ln_27, ln_28, ln_29, ln_31, ln_32, ln_33, ln_35, ln_36, ln_37, g1, e1, f2]
        by_cases g2 : sB (ph k) = sB s
        · simp (disch := first | assumption | exact isSc1 | exact isSc3 | exact isSc5 | decide | omega) only [iX8_collects_236, iX8_collects_237, iX8_collects_240, iX8_collects_242, iX8_collects_243, iX8_collects_244, iX8_collects_245, iX8_collects_247, Nat.reduceAdd, Nat.reduceSub, Nat.reduceMul, Nat.reduceLeDiff, mm_rv_s, mm_rv_n, true_and, and_true, if_true, if_false, not_true_eq_false, not_false_eq_true, nI_add, nz_0, nz_lt0, nz_0le, nz_0lt, nz_le0, nz_lt, nz_le, nz_eq, nz_cl, nz_in, nz_sub, nz_m1, pk_mul, set_o, set_ne, up_ne, up_set, n1_1, true_or, or_true, n1_01, n0_01, bI_01, bI_01b, bI_0, isSc1, isSc3, isSc5, ln_2, ln_4, ln_6, ln_8, ln_10, ln_11, ln_12, ln_13, ln_14, ln_16, ln_17, ln_18, ln_19, ln_20, ln_21, ln_23, ln_24, ln_25, ln_27, ln_28, ln_29, ln_31, ln_32, ln_33, ln_35, ln_36, ln_37, g2, Nat.add_sub_cancel, f1]
          by_cases g3 : sC (ph k) ≤ sC s
          · simp (disch := first | assumption | exact isSc1 | exact isSc3 | exact isSc5 | decide | omega) only [Nat.reduceAdd, Nat.reduceSub, Nat.reduceMul, Nat.reduceLeDiff, mm_rv_s, mm_rv_n, true_and, and_true, if_true, if_false, not_true_eq_false, not_false_eq_true, nI_add, nz_0, nz_lt0, nz_0le, nz_0lt, nz_le0, nz_lt, nz_le, nz_eq, nz_cl, nz_in, nz_sub, nz_m1, pk_mul, set_o, set_ne, up_ne, up_set, n1_1, true_or, or_true, n1_01, n0_01, bI_01, bI_01b, bI_0, isSc1, isSc3, isSc5, ln_2, ln_4, ln_6, ln_8, ln_10, ln_11, ln_12, ln_13, ln_14, ln_16, ln_17, ln_18, ln_19, ln_20, ln_21, ln_23, ln_24, ln_25, ln_27, ln_28, ln_29, ln_31, ln_32, ln_33, ln_35, ln_36, ln_37, g3]
            exact stay (by simp [gtD]; omega)
          · simp (disch := first | assumption | exact isSc1 | exact isSc3 | exact isSc5 | decide | omega) only [Nat.reduceAdd, Nat.reduceSub, Nat.reduceMul, Nat.reduceLeDiff, mm_rv_s, mm_rv_n, true_and, and_true, if_true, if_false, not_true_eq_false, not_false_eq_true, nI_add, nz_0, nz_lt0, nz_0le, nz_0lt, nz_le0, nz_lt, nz_le, nz_eq, nz_cl, nz_in, nz_sub, nz_m1, pk_mul, set_o, set_ne, up_ne, up_set, n1_1, true_or, or_true, n1_01, n0_01, bI_01, bI_01b, bI_0, isSc1, isSc3, isSc5, ln_2, ln_4, ln_6, ln_8, ln_10, ln_11, ln_12, ln_13, ln_14, ln_16, ln_17, ln_18, ln_19, ln_20, ln_21, ln_23, ln_24, ln_25, ln_27, ln_28, ln_29, ln_31, ln_32, ln_33, ln_35, ln_36, ln_37, g3]
            exact back (by simp [gtD]; omega)
        · simp (disch := first | assumption | exact isSc1 | exact isSc3 | exact isSc5 | decide | omega) only [Nat.reduceAdd, Nat.reduceSub, Nat.reduceMul, Nat.reduceLeDiff, mm_rv_s, mm_rv_n, true_and, and_true, if_true, if_false, not_true_eq_false, not_false_eq_true, nI_add, nz_0, nz_lt0, nz_0le, nz_0lt, nz_le0, nz_lt, nz_le, nz_eq, nz_cl, nz_in, nz_sub, nz_m1, pk_mul, set_o, set_ne, up_ne, up_set, n1_1, true_or, or_true, n1_01, n0_01, bI_01, bI_01b, bI_0, isSc1, isSc3, isSc5, ln_2, ln_4, ln_6, ln_8, ln_10, ln_11, ln_12, ln_13, ln_14, ln_16, ln_17, ln_18, ln_19, ln_20, ln_21, ln_23, ln_24, ln_25, ln_27, ln_28, ln_29, ln_31, ln_32, ln_33, ln_35, ln_36, ln_37, g2]
          exact stay (by simp [gtD]; omega)
  exact loop m (Nat.le_refl m) rfl E l14x (fun j hj hne => by
    have e : shG ph m j = ph j := by unfold shG; rw [if_pos (by omega)]
    rw [e]
    exact hE j (by omega))
end COL
