/-! CHANGES: setLeap, reset, undo -/
def TK (M M' : mm_M) : Prop := M' 26 0 = M 26 0 ∧ M' 27 = M 27 ∧ M' 16 0 = M 16 0 ∧ M' 17 0 = M 17 0 ∧ M' 18 0 = M 18 0 ∧ M' 42 = M 42 ∧ M' 43 = M 43
theorem Txt.tk {M M' : mm_M} {t : Nat} {c : Nat → Nat} (hh : Txt M t c) (k : TK M M') : Txt M' t c := by
  obtain ⟨a, b, d⟩ := hh
  obtain ⟨k1, k2, -⟩ := k
  exact ⟨a, by rw [k1, b], by rw [k2]; exact d⟩
theorem Wlk.tk {M M' : mm_M} (hh : Wlk M) (k : TK M M') : Wlk M' := by
  obtain ⟨a, b, c⟩ := hh
  obtain ⟨k1, k2, k5, k6, k7, -⟩ := k
  exact ⟨by rw [k5, a], by rw [k6, b], by rw [k7, c]⟩
theorem Kp.tk {M M' : mm_M} (k : Kp M M') : TK M M' := ⟨k.2.2.2.2.1, k.2.2.2.2.2.1, k.2.2.2.2.2.2⟩
/-- as it was, but for these objects -/
theorem TK.of {M M' : mm_M} (h : ∀ q, q ∈ [26, 27, 16, 17, 18, 42, 43] → M' q = M q) : TK M M' := by
  refine ⟨?_, h _ (by decide), ?_, ?_, ?_, h _ (by decide), h _ (by decide)⟩ <;> rw [h _ (by decide)]
theorem pushH_ok {h : Nat} {H : Nat → St} {S : St} (hh : ∀ k, k < h → okH (H k)) (hS : okH S) : ∀ k, k < pushN h → okH (pushH h H S k) := by
  intro k hk
  unfold pushN at hk
  unfold pushH
  by_cases h6 : h = 6
  · rw [if_pos h6] at hk ⊢
    by_cases h5 : k < 5
    · rw [if_pos h5]; exact hh _ (by omega)
    · rw [if_neg h5]; exact hS
  · rw [if_neg h6] at hk ⊢
    by_cases h5 : k < h
    · rw [if_pos h5]; exact hh _ h5
    · rw [if_neg h5]; exact hS
theorem pushN_le {h : Nat} (hh : h ≤ 6) : pushN h ≤ 6 := by unfold pushN; split <;> omega
theorem pushN_pos (h : Nat) (hh : h ≤ 6) : 1 ≤ pushN h ∧ (3 ≤ h → 3 ≤ pushN h) := by unfold pushN; split <;> omega
theorem change_ste {M M' : mm_M} {X V : Nat → Int32} {B L n h B' L' n' t : Nat} {g g' : Nat → Sg} {H : Nat → St} {c : Nat → Nat} (s : Ste M X V B L n g h H t c) (h7 : M' 7 0 = nI (pushN h))
    (h8 : ∀ k, k < pushN h → hC (M' 8) k (pushH h H (B, L, n, g) k)) (hcur' : Cur M' B' L' n' g') (hT : TK M M') : Ste M' X V B' L' n' g' (pushN h) (pushH h H (B, L, n, g)) t c := by
  obtain ⟨hcur, hh, ht, hw, h42, h43⟩ := s
  refine ⟨hcur', ⟨pushN_le hh.1, h7, fun k hk => ⟨h8 k hk, ?_⟩⟩, ht.tk hT, hw.tk hT, by rw [hT.2.2.2.2.2.1, h42], by rw [hT.2.2.2.2.2.2, h43]⟩
  exact pushH_ok (fun k hk => (hh.2.2 k hk).2) ⟨hcur.1, hcur.2.1, hcur.2.2.1⟩ k hk
section CHG
variable {M : mm_M} {Q : mm_Q} {B L n h : Nat} {g : Nat → Sg} {H : Nat → St}
/-- the class keeps the state -/
theorem x_keep (hcur : Cur M B L n g) (hh : Hst M h H) (hQ : ∀ f2, (∀ k, k < pushN h → hC f2 k (pushH h H (B, L, n, g) k)) → Q none (mm_up (mm_set M 8 f2) 7 0 (nI (pushN h)))) : wc 3 [.inr 7, .inr 1] M Q :=
  p_keep hcur.2.2.2 hcur.2.1 hh.2.1 hh.1 (fun k hk => (hh.2.2 k hk).1) (fun k hk => (hh.2.2 k hk).2.2.1) hQ
theorem p_setLeap (hcur : Cur M B L n g) (hh : Hst M h H) (v : Int32) (h1 : ¬ (nI 0 ≤ v ∧ v ≤ nI 8) → Q (some (-1001)) M)
    (h2 : (nI 0 ≤ v ∧ v ≤ nI 8) → ∀ f2, (∀ k, k < pushN h → hC f2 k (pushH h H (B, L, n, g) k)) → Q (some (nI L)) (mm_up (mm_up (mm_set M 8 f2) 7 0 (nI (pushN h))) 1 1 v)) : wc 69 [.inr 0, .inl v] M Q := by
  have x1 := hcur.2.2.2.2.1
  simp (disch := first | assumption | exact isSc1 | exact isSc3 | exact isSc5 | decide | omega) only [eX7_setLeap, iX7_setLeap_0, iX7_setLeap_1, iX7_setLeap_2, iX7_setLeap_4, iX7_setLeap_7, iX7_setLeap_10, iX7_setLeap_13, iX7_setLeap_14, iX7_setLeap_15, iX7_setLeap_18, iX7_setLeap_21, iX7_setLeap_22, iX7_setLeap_23, iX7_setLeap_26, iX7_setLeap_27, iX7_setLeap_30, iX7_setLeap_33, iX7_setLeap_34, iX7_setLeap_37, iX7_setLeap_38, iX7_setLeap_41, iX7_setLeap_42, Nat.reduceAdd, Nat.reduceSub, Nat.reduceMul, Nat.reduceLeDiff, mm_rv_s, mm_rv_n, true_and, and_true, if_true, if_false, not_true_eq_false, not_false_eq_true, nI_add, nz_0, nz_lt0, nz_0le, nz_0lt, nz_le0, nz_lt, nz_le, nz_eq, nz_cl, nz_in, nz_sub, nz_m1, pk_mul, set_o, set_ne, up_ne, up_set, n1_1, true_or, or_true, n1_01, n0_01, bI_01, bI_01b, bI_0, isSc1, isSc3, isSc5, ln_2, ln_4, ln_6, ln_8, ln_10, ln_11, ln_12, ln_13, ln_14, ln_16, ln_17, ln_18, ln_19, ln_20, ln_21, ln_23, ln_24, ln_25, ln_27, ln_28, ln_29, p_isWithin, x1]
  by_cases hr : nI 0 ≤ v ∧ v ≤ nI 8
  · simp only [hr, and_self, decide_true, Bool.true_eq_false, not_false_eq_true, if_true]
    refine x_keep hcur hh (fun f2 hf => ?_)
    simp (disch := first | assumption | exact isSc1 | exact isSc3 | exact isSc5 | decide | omega) only [iX7_setLeap_0, iX7_setLeap_1, iX7_setLeap_2, iX7_setLeap_4, iX7_setLeap_7, iX7_setLeap_10, iX7_setLeap_13, iX7_setLeap_14, iX7_setLeap_15, iX7_setLeap_18, iX7_setLeap_21, iX7_setLeap_22, iX7_setLeap_23, iX7_setLeap_26, iX7_setLeap_27, iX7_setLeap_30, iX7_setLeap_33, iX7_setLeap_34, iX7_setLeap_37, iX7_setLeap_38, iX7_setLeap_41, iX7_setLeap_42, Nat.reduceAdd, Nat.reduceSub, Nat.reduceMul, Nat.reduceLeDiff, mm_rv_s, mm_rv_n, true_and, and_true, if_true, if_false, not_true_eq_false, not_false_eq_true, nI_add, nz_0, nz_lt0, nz_0le, nz_0lt, nz_le0, nz_lt, nz_le, nz_eq, nz_cl, nz_in, nz_sub, nz_m1, pk_mul, set_o, set_ne, up_ne, up_set, n1_1, true_or, or_true, n1_01, n0_01, bI_01, bI_01b, bI_0, isSc1, isSc3, isSc5, ln_2, ln_4, ln_6, ln_8, ln_10, ln_11, ln_12, ln_13, ln_14, ln_16, ln_17, ln_18, ln_19, ln_20, ln_21, ln_23, ln_24, ln_25, ln_27, ln_28, ln_29]
    exact h2 hr f2 hf
  · simp only [hr, decide_false, not_true_eq_false, if_false]
    exact h1 hr
theorem z_setLeap {X V : Nat → Int32} {t : Nat} {c : Nat → Nat} (s : Ste M X V B L n g h H t c) {k : Nat} (hk : k ≤ 8) (hQ : ∀ M', Ste M' X V B k n g (pushN h) (pushH h H (B, L, n, g)) t c → Q (some (nI L)) M') : wc 69 [.inr 0, .inl (nI k)] M Q := by
  obtain ⟨hcur, hh, ht, hw, h42, h43⟩ := id s
  obtain ⟨hv, hn, hL, x0, x1, x2, x3⟩ := id hcur
  have h1 : nI 0 ≤ nI k ∧ nI k ≤ nI 8 := by
    rw [nz_le _ _ (by omega) (by omega), nz_le _ _ (by omega) (by omega)]; omega
  refine p_setLeap hcur hh (nI k) (fun hr => absurd h1 hr) (fun hr f2 hf => hQ _ ?_)
  have ne : ∀ q, q ∉ [1, 7, 8] → mm_up (mm_up (mm_set M 8 f2) 7 0 (nI (pushN h))) 1 1 (nI k) q = M q := by
    intro q hq
    simp only [List.mem_cons, List.not_mem_nil, or_false, not_or] at hq
    rw [up_ne _ _ _ (by omega), up_ne _ _ _ (by omega), set_ne _ _ (by omega)]
  refine change_ste s ?_ ?_ ⟨hv, hn, hk, ⟨?_, ?_, ?_, ?_⟩⟩ (TK.of (fun q hq => ne q ?_))
  · rw [up_ne _ _ _ (by decide), up_o, us]
  · have e : mm_up (mm_up (mm_set M 8 f2) 7 0 (nI (pushN h))) 1 1 (nI k) 8 = f2 := by rw [up_ne _ _ _ (by decide), up_ne _ _ _ (by decide), set_o]
    rw [e]; exact hf
  · rw [up_o, un _ _ _ _ (by decide), up_ne _ _ _ (by decide), set_ne _ _ (by decide), x0]
  · rw [up_o, us]
  · rw [up_o, un _ _ _ _ (by decide), up_ne _ _ _ (by decide), set_ne _ _ (by decide), x2]
  · intro i hi
    rw [ne _ (by decide), x3 i hi]
  · simp only [List.mem_cons, List.not_mem_nil, or_false] at hq
    rcases hq with rfl | rfl | rfl | rfl | rfl | rfl | rfl <;> decide
theorem p_reset (hcur : Cur M B L n g) (hh : Hst M h H) (v : Int32) (h1 : ¬ (nI 4 ≤ v ∧ v ≤ nI 48) → Q (some (-1001)) M)
    (h2 : (nI 4 ≤ v ∧ v ≤ nI 48) → ∀ f2, (∀ k, k < pushN h → hC f2 k (pushH h H (B, L, n, g) k)) → Q (some (nI B)) (mm_up (mm_up (mm_up (mm_set M 8 f2) 7 0 (nI (pushN h))) 1 0 v) 1 2 (nI 0))) : wc 62 [.inr 0, .inl v] M Q := by
  have x0 := hcur.2.2.2.1
  simp (disch := first | assumption | exact isSc1 | exact isSc3 | exact isSc5 | decide | omega) only [eX7_reset, iX7_reset_0, iX7_reset_1, iX7_reset_2, iX7_reset_4, iX7_reset_7, iX7_reset_10, iX7_reset_13, iX7_reset_14, iX7_reset_15, iX7_reset_18, iX7_reset_21, iX7_reset_22, iX7_reset_23, iX7_reset_26, iX7_reset_27, iX7_reset_30, iX7_reset_33, iX7_reset_34, iX7_reset_37, iX7_reset_38, iX7_reset_41, iX7_reset_42, Nat.reduceAdd, Nat.reduceSub, Nat.reduceMul, Nat.reduceLeDiff, mm_rv_s, mm_rv_n, true_and, and_true, if_true, if_false, not_true_eq_false, not_false_eq_true, nI_add, nz_0, nz_lt0, nz_0le, nz_0lt, nz_le0, nz_lt, nz_le, nz_eq, nz_cl, nz_in, nz_sub, nz_m1, pk_mul, set_o, set_ne, up_ne, up_set, n1_1, true_or, or_true, n1_01, n0_01, bI_01, bI_01b, bI_0, isSc1, isSc3, isSc5, ln_2, ln_4, ln_6, ln_8, ln_10, ln_11, ln_12, ln_13, ln_14, ln_16, ln_17, ln_18, ln_19, ln_20, ln_21, ln_23, ln_24, ln_25, ln_27, ln_28, ln_29, p_isWithin, x0]
  by_cases hr : nI 4 ≤ v ∧ v ≤ nI 48
  · simp only [hr, and_self, decide_true, Bool.true_eq_false, not_false_eq_true, if_true]
    refine x_keep hcur hh (fun f2 hf => ?_)
    simp (disch := first | assumption | exact isSc1 | exact isSc3 | exact isSc5 | decide | omega) only [iX7_reset_0, iX7_reset_1, iX7_reset_2, iX7_reset_4, iX7_reset_7, iX7_reset_10, iX7_reset_13, iX7_reset_14, iX7_reset_15, iX7_reset_18, iX7_reset_21, iX7_reset_22, iX7_reset_23, iX7_reset_26, iX7_reset_27, iX7_reset_30, iX7_reset_33, iX7_reset_34, iX7_reset_37, iX7_reset_38, iX7_reset_41, iX7_reset_42, Nat.reduceAdd, Nat.reduceSub, Nat.reduceMul, Nat.reduceLeDiff, mm_rv_s, mm_rv_n, true_and, and_true, if_true, if_false, not_true_eq_false, not_false_eq_true, nI_add, nz_0, nz_lt0, nz_0le, nz_0lt, nz_le0, nz_lt, nz_le, nz_eq, nz_cl, nz_in, nz_sub, nz_m1, pk_mul, set_o, set_ne, up_ne, up_set, n1_1, true_or, or_true, n1_01, n0_01, bI_01, bI_01b, bI_0, isSc1, isSc3, isSc5, ln_2, ln_4, ln_6, ln_8, ln_10, ln_11, ln_12, ln_13, ln_14, ln_16, ln_17, ln_18, ln_19, ln_20, ln_21, ln_23, ln_24, ln_25, ln_27, ln_28, ln_29, p_empty isSc1]
    exact h2 hr f2 hf
  · simp only [hr, decide_false, not_true_eq_false, if_false]
    exact h1 hr
theorem val_0 {B k n : Nat} {g : Nat → Sg} (h1 : 4 ≤ k) (h2 : k ≤ 48) : Val k 0 g := ⟨h1, h2, by omega, fun i hi => absurd hi (by omega), fun i j _ hj => absurd hj (by omega), fun i j _ hj => absurd hj (by omega)⟩
theorem z_reset {X V : Nat → Int32} {t : Nat} {c : Nat → Nat} (s : Ste M X V B L n g h H t c) {k : Nat} (hk1 : 4 ≤ k) (hk2 : k ≤ 48) (hQ : ∀ M', Ste M' X V k L 0 g (pushN h) (pushH h H (B, L, n, g)) t c → Q (some (nI B)) M') : wc 62 [.inr 0, .inl (nI k)] M Q := by
  obtain ⟨hcur, hh, ht, hw, h42, h43⟩ := id s
  obtain ⟨hv, hn, hL, x0, x1, x2, x3⟩ := id hcur
  have h1 : nI 4 ≤ nI k ∧ nI k ≤ nI 48 := by
    rw [nz_le _ _ (by omega) (by omega), nz_le _ _ (by omega) (by omega)]; omega
  refine p_reset hcur hh (nI k) (fun hr => absurd h1 hr) (fun hr f2 hf => hQ _ ?_)
  have ne : ∀ q, q ∉ [1, 7, 8] → mm_up (mm_up (mm_up (mm_set M 8 f2) 7 0 (nI (pushN h))) 1 0 (nI k)) 1 2 (nI 0) q = M q := fun q hq => by
    simp only [List.mem_cons, List.not_mem_nil, or_false, not_or] at hq
    rw [up_ne _ _ _ (by omega), up_ne _ _ _ (by omega), up_ne _ _ _ (by omega), set_ne _ _ (by omega)]
  refine change_ste s ?_ ?_ ⟨val_0 (B := B) (n := n) hk1 hk2, by omega, hL, ⟨?_, ?_, ?_, fun i hi => absurd hi (by omega)⟩⟩ (TK.of (fun q hq => ne q ?_))
  · simp [mm_up, mm_set, upd]
  · have e : mm_up (mm_up (mm_up (mm_set M 8 f2) 7 0 (nI (pushN h))) 1 0 (nI k)) 1 2 (nI 0) 8 = f2 := by simp [mm_up, mm_set]
    rw [e]; exact hf
  · simp [mm_up, mm_set, upd]
  · rw [← x1]; simp [mm_up, mm_set, upd]
  · simp [mm_up, mm_set, upd]
  · simp only [List.mem_cons, List.not_mem_nil, or_false] at hq
    rcases hq with rfl | rfl | rfl | rfl | rfl | rfl | rfl <;> decide
theorem z_undo {X V : Nat → Int32} {t : Nat} {c : Nat → Nat} {B' L' n' : Nat} {g' : Nat → Sg} (s : Ste M X V B L n g (h + 1) H t c) (hS : H h = (B', L', n', g')) (hQ : ∀ M', Ste M' X V B' L' n' g' h H t c → Q (some (nI h)) M') : wc 71 [.inr 0] M Q := by
  obtain ⟨hcur, hh, ht, hw, h42, h43⟩ := id s
  obtain ⟨hh6, z1, z3⟩ := id hh
  obtain ⟨hC1, hk⟩ := z3 h (by omega)
  rw [hS] at hC1 hk
  simp (disch := first | assumption | exact isSc1 | exact isSc3 | exact isSc5 | decide | omega) only [eX7_undo, iX7_undo_0, iX7_undo_1, iX7_undo_4, iX7_undo_7, iX7_undo_10, iX7_undo_13, iX7_undo_14, iX7_undo_15, iX7_undo_18, iX7_undo_19, iX7_undo_22, Nat.reduceAdd, Nat.reduceSub, Nat.reduceMul, Nat.reduceLeDiff, mm_rv_s, mm_rv_n, true_and, and_true, if_true, if_false, not_true_eq_false, not_false_eq_true, nI_add, nz_0, nz_lt0, nz_0le, nz_0lt, nz_le0, nz_lt, nz_le, nz_eq, nz_cl, nz_in, nz_sub, nz_m1, pk_mul, set_o, set_ne, up_ne, up_set, n1_1, true_or, or_true, n1_01, n0_01, bI_01, bI_01b, bI_0, isSc1, isSc3, isSc5, ln_2, ln_4, ln_6, ln_8, ln_10, ln_11, ln_12, ln_13, ln_14, ln_16, ln_17, ln_18, ln_19, ln_20, ln_21, ln_23, ln_24, ln_25, ln_27, ln_28, ln_29, z1, Nat.succ_ne_zero]
  refine p_restore z1 (by omega) hC1 hk.2.1 (fun f2 hf => ?_)
  have e7 : mm_set (mm_up (mm_up (mm_up (mm_up M 7 0 (nI h)) 1 0 (nI B')) 1 1 (nI L')) 1 2 (nI n')) 2 f2 7 0 = nI h := by simp [mm_up, mm_set, upd]
  simp (disch := first | assumption | exact isSc1 | exact isSc3 | exact isSc5 | decide | omega) only [iX7_undo_25, iX7_undo_26, iX7_undo_29, iX7_undo_32, Nat.reduceAdd, Nat.reduceSub, Nat.reduceMul, Nat.reduceLeDiff, mm_rv_s, mm_rv_n, true_and, and_true, if_true, if_false, not_true_eq_false, not_false_eq_true, nI_add, nz_0, nz_lt0, nz_0le, nz_0lt, nz_le0, nz_lt, nz_le, nz_eq, nz_cl, nz_in, nz_sub, nz_m1, pk_mul, set_o, set_ne, up_ne, up_set, n1_1, true_or, or_true, n1_01, n0_01, bI_01, bI_01b, bI_0, isSc1, isSc3, isSc5, ln_2, ln_4, ln_6, ln_8, ln_10, ln_11, ln_12, ln_13, ln_14, ln_16, ln_17, ln_18, ln_19, ln_20, ln_21, ln_23, ln_24, ln_25, ln_27, ln_28, ln_29, e7]
  refine hQ _ ?_
  have sm : ∀ q, q ∉ [1, 2, 7] → mm_set (mm_up (mm_up (mm_up (mm_up M 7 0 (nI h)) 1 0 (nI B')) 1 1 (nI L')) 1 2 (nI n')) 2 f2 q = M q := fun q hq => by
    simp only [List.mem_cons, List.not_mem_nil, or_false, not_or] at hq
    rw [set_ne _ _ (by omega), up_ne _ _ _ (by omega), up_ne _ _ _ (by omega), up_ne _ _ _ (by omega), up_ne _ _ _ (by omega)]
  have sC : isC (mm_set (mm_up (mm_up (mm_up (mm_up M 7 0 (nI h)) 1 0 (nI B')) 1 1 (nI L')) 1 2 (nI n')) 2 f2) 1 B' L' n' g' := by
    refine ⟨by simp [mm_up, mm_set, upd], by simp [mm_up, mm_set, upd], by simp [mm_up, mm_set, upd], fun i hi => ?_⟩
    rw [← hf i hi]
    simp [mm_set]
  generalize mm_set (mm_up (mm_up (mm_up (mm_up M 7 0 (nI h)) 1 0 (nI B')) 1 1 (nI L')) 1 2 (nI n')) 2 f2 = M1 at sm e7 sC
  have tk : TK M M1 := TK.of (fun q hq => sm q (by
    simp only [List.mem_cons, List.not_mem_nil, or_false] at hq
    rcases hq with rfl | rfl | rfl | rfl | rfl | rfl | rfl <;> decide))
  exact ⟨⟨hk.1, hk.2.1, hk.2.2, sC⟩, ⟨by omega, e7, fun k hk2 => by rw [sm 8 (by decide)]; exact z3 k (by omega)⟩, ht.tk tk, hw.tk tk, by rw [sm 42 (by decide), h42], by rw [sm 43 (by decide), h43]⟩
end CHG
