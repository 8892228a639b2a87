/-! PAIRS: setLeap, reset, undo -/
def TK (M M' : mm_M) : Prop := M' 26 0 = M 26 0 ∧ M' 30 5 = M 30 5 ∧ M' 27 = M 27 ∧ M' 34 = M 34 ∧ M' 16 0 = M 16 0 ∧ M' 17 0 = M 17 0 ∧ M' 18 0 = M 18 0
theorem Txt.tk {M M' : mm_M} {t : Nat} {c : Nat → Nat} (hh : Txt M t c) (k : TK M M') : Txt M' t c := by
  obtain ⟨a, b, e, d⟩ := hh
  obtain ⟨k1, k2, k3, k4, k5, k6, k7⟩ := k
  exact ⟨a, by rw [k1, b], by rw [k2, e], by rw [k3, k4]; exact d⟩
theorem Wlk.tk {M M' : mm_M} (hh : Wlk M) (k : TK M M') : Wlk M' := by
  obtain ⟨a, b, c⟩ := hh
  obtain ⟨k1, k2, k3, k4, k5, k6, k7⟩ := k
  exact ⟨by rw [k5, a], by rw [k6, b], by rw [k7, c]⟩
theorem Kp.tk {M M' : mm_M} (k : Kp M M') : TK M M' := ⟨k.2.2.2.2.2.2.2.1, k.2.2.2.2.2.2.2.2.1, k.2.2.2.2.2.2.2.2.2.1, k.2.2.2.2.2.2.2.2.2.2.1, k.2.2.2.2.2.2.2.2.2.2.2⟩
theorem TK.tr {M M1 M2 : mm_M} (h : TK M M1) (h2 : TK M1 M2) : TK M M2 := by
  obtain ⟨a1, a2, a3, a4, a5, a6, a7⟩ := h
  obtain ⟨b1, b2, b3, b4, b5, b6, b7⟩ := h2
  exact ⟨b1.trans a1, b2.trans a2, b3.trans a3, b4.trans a4, b5.trans a5, b6.trans a6, b7.trans a7⟩
theorem TK.rf (M : mm_M) : TK M M := ⟨rfl, rfl, rfl, rfl, rfl, rfl, rfl⟩
/-- as it was, but for these objects (and of 30 the place 2) -/
theorem TK.of {M M' : mm_M} (h : ∀ q, q ∈ [26, 27, 34, 16, 17, 18] → M' q = M q) (h30 : M' 30 5 = M 30 5) : TK M M' := by
  refine ⟨?_, h30, h _ (by decide), h _ (by decide), ?_, ?_, ?_⟩ <;> rw [h _ (by decide)]
theorem pushH_ok {h : Nat} {H : Nat → St} {S : St} (hh : ∀ k, k < h → okH (H k)) (hS : okH S) : ∀ k, k < pushN h → okH (pushH h H S k) := by
  intro k hk
  unfold pushN at hk
  unfold pushH
  by_cases h6 : h = 6
  · rw [if_pos h6] at hk ⊢
    by_cases h5 : k < 5
    · rw [if_pos h5]; exact hh _ (by omega)
    · rw [if_neg h5]; exact hS
  · rw [if_neg h6] at hk ⊢
    by_cases h5 : k < h
    · rw [if_pos h5]; exact hh _ h5
    · rw [if_neg h5]; exact hS
theorem pushN_le {h : Nat} (hh : h ≤ 6) : pushN h ≤ 6 := by unfold pushN; split <;> omega
theorem change_inv {M M' : mm_M} {B L n h B' L' n' : Nat} {g g' : Nat → Sg} {H : Nat → St} (hcur : Cur M B L n g) (hh : Hst M h H) (ht : ∃ t c, Txt M t c) (hw : Wlk M) (h7 : M' 7 0 = nI (pushN h)) (h30 : M' 30 2 = nI (pushN h))
    (h8 : ∀ k, k < pushN h → hC (M' 8) k (pushH h H (B, L, n, g) k)) (h32 : ∀ k, k < pushN h → hD (M' 32) k (pushH h H (B, L, n, g) k)) (hcur' : Cur M' B' L' n' g') (hT : TK M M') : Inv M' := by
  obtain ⟨t, c, ht⟩ := ht
  refine ⟨⟨B', L', n', g', hcur'⟩, ⟨pushN h, pushH h H (B, L, n, g), pushN_le hh.1, h7, h30, fun k hk => ⟨h8 k hk, h32 k hk, ?_⟩⟩, ⟨t, c, ht.tk hT⟩, hw.tk hT⟩
  exact pushH_ok (fun k hk => (hh.2.2.2 k hk).2.2) ⟨hcur.1, hcur.2.1, hcur.2.2.1⟩ k hk
section CHG
variable {M : mm_M} {Q : mm_Q} {B L n h : Nat} {g : Nat → Sg} {H : Nat → St}
/-- the class keeps the state -/
theorem x_keep (hcur : Cur M B L n g) (hh : Hst M h H) (hQ : ∀ f2, (∀ k, k < pushN h → hC f2 k (pushH h H (B, L, n, g) k)) → Q none (mm_up (mm_set M 8 f2) 7 0 (nI (pushN h)))) : wc 3 [.inr 7, .inr 1] M Q :=
  p_keep hcur.2.2.2.1 hcur.2.1 hh.2.1 hh.1 (fun k hk => (hh.2.2.2 k hk).1) (fun k hk => (hh.2.2.2 k hk).2.2.2.1) hQ
theorem x_records {M1 : mm_M} (hd : isD (M1 31) B L n g) (hn : n ≤ 60) (hh : Hst M h H) (h30 : M1 30 2 = M 30 2) (h32 : M1 32 = M 32) (hQ : ∀ w2, (∀ k, k < pushN h → hD w2 k (pushH h H (B, L, n, g) k)) → Q none (mm_up (mm_set M1 32 w2) 30 2 (nI (pushN h)))) : wc 103 [.inr 30] M1 Q :=
  m_records hd hn (by rw [h30]; exact hh.2.2.1) hh.1 (fun k hk => by rw [h32]; exact (hh.2.2.2 k hk).2.1) (fun k hk => (hh.2.2.2 k hk).2.2.2.1) hQ
theorem p_setLeap (hcur : Cur M B L n g) (hh : Hst M h H) (v : Int32) (h1 : ¬ (nI 0 ≤ v ∧ v ≤ nI 8) → Q (some (-1001)) M)
    (h2 : (nI 0 ≤ v ∧ v ≤ nI 8) → ∀ f2, (∀ k, k < pushN h → hC f2 k (pushH h H (B, L, n, g) k)) → Q (some (nI L)) (mm_up (mm_up (mm_set M 8 f2) 7 0 (nI (pushN h))) 1 1 v)) : wc 69 [.inr 0, .inl v] M Q := by
  have x1 := hcur.2.2.2.1.2.1
  simp (disch := first | assumption | exact isSc1 | exact isSc3 | exact isSc5 | decide | omega) only [eX7_setLeap, iX7_setLeap_0, iX7_setLeap_1, iX7_setLeap_2, iX7_setLeap_4, iX7_setLeap_7, iX7_setLeap_10, iX7_setLeap_13, iX7_setLeap_14, iX7_setLeap_15, iX7_setLeap_18, iX7_setLeap_21, iX7_setLeap_22, iX7_setLeap_23, iX7_setLeap_26, iX7_setLeap_27, iX7_setLeap_30, iX7_setLeap_33, iX7_setLeap_34, iX7_setLeap_37, iX7_setLeap_38, iX7_setLeap_41, iX7_setLeap_42, Nat.reduceAdd, Nat.reduceSub, Nat.reduceMul, Nat.reduceLeDiff, mm_rv_s, mm_rv_n, true_and, and_true, if_true, if_false, not_true_eq_false, not_false_eq_true, nI_add, nz_0, nz_lt0, nz_0le, nz_0lt, nz_le0, nz_lt, nz_le, nz_eq, nz_cl, nz_in, nz_sub, nz_m1, pk_mul, set_o, set_ne, up_ne, up_set, n1_1, true_or, or_true, n1_01, n0_01, bI_01, bI_01b, bI_0, isSc1, isSc3, isSc5, ln_2, ln_4, ln_6, ln_8, ln_10, ln_11, ln_12, ln_13, ln_14, ln_16, ln_17, ln_18, ln_19, ln_20, ln_21, ln_23, ln_24, ln_25, ln_27, ln_28, ln_29, ln_31, ln_32, ln_33, ln_35, ln_36, ln_37, p_isWithin, x1]
  by_cases hr : nI 0 ≤ v ∧ v ≤ nI 8
  · simp only [hr, and_self, decide_true, Bool.true_eq_false, not_false_eq_true, if_true]
    refine x_keep hcur hh (fun f2 hf => ?_)
    simp (disch := first | assumption | exact isSc1 | exact isSc3 | exact isSc5 | decide | omega) only [iX7_setLeap_0, iX7_setLeap_1, iX7_setLeap_2, iX7_setLeap_4, iX7_setLeap_7, iX7_setLeap_10, iX7_setLeap_13, iX7_setLeap_14, iX7_setLeap_15, iX7_setLeap_18, iX7_setLeap_21, iX7_setLeap_22, iX7_setLeap_23, iX7_setLeap_26, iX7_setLeap_27, iX7_setLeap_30, iX7_setLeap_33, iX7_setLeap_34, iX7_setLeap_37, iX7_setLeap_38, iX7_setLeap_41, iX7_setLeap_42, Nat.reduceAdd, Nat.reduceSub, Nat.reduceMul, Nat.reduceLeDiff, mm_rv_s, mm_rv_n, true_and, and_true, if_true, if_false, not_true_eq_false, not_false_eq_true, nI_add, nz_0, nz_lt0, nz_0le, nz_0lt, nz_le0, nz_lt, nz_le, nz_eq, nz_cl, nz_in, nz_sub, nz_m1, pk_mul, set_o, set_ne, up_ne, up_set, n1_1, true_or, or_true, n1_01, n0_01, bI_01, bI_01b, bI_0, isSc1, isSc3, isSc5, ln_2, ln_4, ln_6, ln_8, ln_10, ln_11, ln_12, ln_13, ln_14, ln_16, ln_17, ln_18, ln_19, ln_20, ln_21, ln_23, ln_24, ln_25, ln_27, ln_28, ln_29, ln_31, ln_32, ln_33, ln_35, ln_36, ln_37]
    exact h2 hr f2 hf
  · simp only [hr, decide_false, not_true_eq_false, if_false]
    exact h1 hr
theorem m_setLeap {M1 : mm_M} (hd : isD (M1 31) B L n g) (hn : n ≤ 60) (hh : Hst M h H) (h30 : M1 30 2 = M 30 2) (h32 : M1 32 = M 32) (v : Int32) (h1 : ¬ (nI 0 ≤ v ∧ v ≤ nI 8) → Q (some (-1001)) M1)
    (h2 : (nI 0 ≤ v ∧ v ≤ nI 8) → ∀ w2, (∀ k, k < pushN h → hD w2 k (pushH h H (B, L, n, g) k)) → Q (some (nI L)) (mm_up (mm_up (mm_set M1 32 w2) 30 2 (nI (pushN h))) 31 1 v)) : wc 121 [.inr 30, .inl v] M1 Q := by
  have x1 := hd.2.1
  simp (disch := first | assumption | exact isSc1 | exact isSc3 | exact isSc5 | decide | omega) only [eX8_setLeap, iX8_setLeap_0, iX8_setLeap_1, iX8_setLeap_2, iX8_setLeap_4, iX8_setLeap_7, iX8_setLeap_10, iX8_setLeap_13, iX8_setLeap_14, iX8_setLeap_15, iX8_setLeap_18, iX8_setLeap_19, iX8_setLeap_22, iX8_setLeap_23, iX8_setLeap_24, iX8_setLeap_25, iX8_setLeap_26, iX8_setLeap_29, iX8_setLeap_30, iX8_setLeap_31, iX8_setLeap_32, iX8_setLeap_33, Nat.reduceAdd, Nat.reduceSub, Nat.reduceMul, Nat.reduceLeDiff, mm_rv_s, mm_rv_n, true_and, and_true, if_true, if_false, not_true_eq_false, not_false_eq_true, nI_add, nz_0, nz_lt0, nz_0le, nz_0lt, nz_le0, nz_lt, nz_le, nz_eq, nz_cl, nz_in, nz_sub, nz_m1, pk_mul, set_o, set_ne, up_ne, up_set, n1_1, true_or, or_true, n1_01, n0_01, bI_01, bI_01b, bI_0, isSc1, isSc3, isSc5, ln_2, ln_4, ln_6, ln_8, ln_10, ln_11, ln_12, ln_13, ln_14, ln_16, ln_17, ln_18, ln_19, ln_20, ln_21, ln_23, ln_24, ln_25, ln_27, ln_28, ln_29, ln_31, ln_32, ln_33, ln_35, ln_36, ln_37, p_in]
  by_cases hr : nI 0 ≤ v ∧ v ≤ nI 8
  · simp only [hr, and_self, decide_true, Bool.true_eq_false, not_false_eq_true, if_true]
    refine x_records hd hn hh h30 h32 (fun w2 hw => ?_)
    simp (disch := first | assumption | exact isSc1 | exact isSc3 | exact isSc5 | decide | omega) only [iX8_setLeap_0, iX8_setLeap_1, iX8_setLeap_2, iX8_setLeap_4, iX8_setLeap_7, iX8_setLeap_10, iX8_setLeap_13, iX8_setLeap_14, iX8_setLeap_15, iX8_setLeap_18, iX8_setLeap_19, iX8_setLeap_22, iX8_setLeap_23, iX8_setLeap_24, iX8_setLeap_25, iX8_setLeap_26, iX8_setLeap_29, iX8_setLeap_30, iX8_setLeap_31, iX8_setLeap_32, iX8_setLeap_33, Nat.reduceAdd, Nat.reduceSub, Nat.reduceMul, Nat.reduceLeDiff, mm_rv_s, mm_rv_n, true_and, and_true, if_true, if_false, not_true_eq_false, not_false_eq_true, nI_add, nz_0, nz_lt0, nz_0le, nz_0lt, nz_le0, nz_lt, nz_le, nz_eq, nz_cl, nz_in, nz_sub, nz_m1, pk_mul, set_o, set_ne, up_ne, up_set, n1_1, true_or, or_true, n1_01, n0_01, bI_01, bI_01b, bI_0, isSc1, isSc3, isSc5, ln_2, ln_4, ln_6, ln_8, ln_10, ln_11, ln_12, ln_13, ln_14, ln_16, ln_17, ln_18, ln_19, ln_20, ln_21, ln_23, ln_24, ln_25, ln_27, ln_28, ln_29, ln_31, ln_32, ln_33, ln_35, ln_36, ln_37, x1]
    exact h2 hr w2 hw
  · simp only [hr, decide_false, not_true_eq_false, if_false]
    exact h1 hr
theorem pr_setLeap (hI : Inv M) (a1 : Int32) : lw_pair Inv M 69 121 [.inl a1] := by
  obtain ⟨⟨B, L, n, g, hc⟩, ⟨h, H, hh⟩, ht, hw⟩ := id hI
  obtain ⟨hv, hn, hL, ⟨x0, x1, x2, x3⟩, hd⟩ := id hc
  refine p_setLeap hc hh a1 (fun hr => ⟨_, rfl, ?_⟩) (fun hr f2 hf => ⟨_, rfl, ?_⟩)
  · exact m_setLeap hd hn hh rfl rfl a1 (fun _ => ⟨rfl, hI⟩) (fun hr2 => absurd hr2 hr)
  · refine m_setLeap (B := B) (n := n) (g := g) (by rw [up_ne _ _ _ (by decide), up_ne _ _ _ (by decide), set_ne _ _ (by decide)]; exact hd) hn hh (by rw [up_ne _ _ _ (by decide), up_ne _ _ _ (by decide), set_ne _ _ (by decide)]) (by rw [up_ne _ _ _ (by decide), up_ne _ _ _ (by decide), set_ne _ _ (by decide)]) a1 (fun hr2 => absurd hr hr2) (fun _ w2 hw2 => ⟨rfl, ?_⟩)
    obtain ⟨k, rfl, hk1, hk2⟩ := in_nat hr.1 hr.2 (by decide) (by decide)
    have ne : ∀ q, q ∉ [1, 7, 8, 30, 31, 32] → mm_up (mm_up (mm_set (mm_up (mm_up (mm_set M 8 f2) 7 0 (nI (pushN h))) 1 1 (nI k)) 32 w2) 30 2 (nI (pushN h))) 31 1 (nI k) q = M q := by
      intro q hq
      simp only [List.mem_cons, List.not_mem_nil, or_false, not_or] at hq
      rw [up_ne _ _ _ (by omega), up_ne _ _ _ (by omega), set_ne _ _ (by omega), up_ne _ _ _ (by omega), up_ne _ _ _ (by omega), set_ne _ _ (by omega)]
    refine change_inv hc hh ht hw (B' := B) (L' := k) (n' := n) (g' := g) ?_ ?_ ?_ ?_ ⟨hv, hn, by omega, ⟨?_, ?_, ?_, ?_⟩, ?_⟩ (TK.of (fun q hq => ne q ?_) ?_)
    · rw [up_ne _ _ _ (by decide), up_ne _ _ _ (by decide), set_ne _ _ (by decide), up_ne _ _ _ (by decide), up_o, us]
    · rw [up_ne _ _ _ (by decide), up_o, us]
    · have e : mm_up (mm_up (mm_set (mm_up (mm_up (mm_set M 8 f2) 7 0 (nI (pushN h))) 1 1 (nI k)) 32 w2) 30 2 (nI (pushN h))) 31 1 (nI k) 8 = f2 := by rw [up_ne _ _ _ (by decide), up_ne _ _ _ (by decide), set_ne _ _ (by decide), up_ne _ _ _ (by decide), up_ne _ _ _ (by decide), set_o]
      rw [e]; exact hf
    · have e : mm_up (mm_up (mm_set (mm_up (mm_up (mm_set M 8 f2) 7 0 (nI (pushN h))) 1 1 (nI k)) 32 w2) 30 2 (nI (pushN h))) 31 1 (nI k) 32 = w2 := by rw [up_ne _ _ _ (by decide), up_ne _ _ _ (by decide), set_o]
      rw [e]; exact hw2
    · rw [up_ne _ _ _ (by decide), up_ne _ _ _ (by decide), set_ne _ _ (by decide), up_o, un _ _ _ _ (by decide), up_ne _ _ _ (by decide), set_ne _ _ (by decide), x0]
    · rw [up_ne _ _ _ (by decide), up_ne _ _ _ (by decide), set_ne _ _ (by decide), up_o, us]
    · rw [up_ne _ _ _ (by decide), up_ne _ _ _ (by decide), set_ne _ _ (by decide), up_o, un _ _ _ _ (by decide), up_ne _ _ _ (by decide), set_ne _ _ (by decide), x2]
    · intro i hi
      rw [ne _ (by decide), x3 i hi]
    · have e : mm_up (mm_up (mm_set (mm_up (mm_up (mm_set M 8 f2) 7 0 (nI (pushN h))) 1 1 (nI k)) 32 w2) 30 2 (nI (pushN h))) 31 1 (nI k) 31 = upd (M 31) 1 (nI k) := by rw [up_o, up_ne _ _ _ (by decide), set_ne _ _ (by decide), up_ne _ _ _ (by decide), up_ne _ _ _ (by decide), set_ne _ _ (by decide)]
      rw [e]
      obtain ⟨d0, d1, d2, d3⟩ := hd
      refine ⟨by rw [un _ _ _ _ (by decide), d0], us _ _ _, by rw [un _ _ _ _ (by decide), d2], fun i hi => ?_⟩
      obtain ⟨b1, b2, b3, b4, b5, b6⟩ := d3 i hi
      exact ⟨by rw [un _ _ _ _ (by omega), b1], by rw [un _ _ _ _ (by omega), b2], by rw [un _ _ _ _ (by omega), b3], by rw [un _ _ _ _ (by omega), b4], by rw [un _ _ _ _ (by omega), b5], by rw [un _ _ _ _ (by omega), b6]⟩
    · simp only [List.mem_cons, List.not_mem_nil, or_false] at hq
      rcases hq with rfl | rfl | rfl | rfl | rfl | rfl <;> decide
    · rw [up_ne _ _ _ (by decide), up_o, un _ _ _ _ (by decide), set_ne _ _ (by decide), up_ne _ _ _ (by decide), up_ne _ _ _ (by decide), set_ne _ _ (by decide)]
end CHG
