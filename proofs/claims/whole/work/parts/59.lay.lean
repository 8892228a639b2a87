/-! PAIRS: fault, lay -/
section LAY
variable {M : mm_M} {Q : mm_Q} {t B L n h : Nat} {c nb : Nat → Nat} {g : Nat → Sg} {H : Nat → St}
theorem m_keeps (hQ : ∀ f, (∀ x, x < 723 → f x = M 31 x) → Q none (mm_set M 33 f)) : wc 160 [.inr 30] M Q := by
  have loop : ∀ d i : Nat, i + d = 723 → ∀ f : Nat → Int32, (∀ x, x < i → f x = M 31 x) → wp 160 2 [some (.inr 30), some (.inl (nI i))] [] (mm_set M 33 f) Q := by
    intro d
    induction d with
    | zero =>
      intro i hi f hf
      have hi : i = 723 := by omega
      subst hi
      rw [iX8_keeps_2]
      simp (disch := first | assumption | exact isSc1 | exact isSc3 | exact isSc5 | decide | omega) only [iX8_keeps_3, iX8_keeps_6, iX8_keeps_27, Nat.reduceAdd, Nat.reduceSub, Nat.reduceMul, Nat.reduceLeDiff, mm_rv_s, mm_rv_n, true_and, and_true, if_true, if_false, not_true_eq_false, not_false_eq_true, nI_add, nz_0, nz_lt0, nz_0le, nz_0lt, nz_le0, nz_lt, nz_le, nz_eq, nz_cl, nz_in, nz_sub, nz_m1, pk_mul, set_o, set_ne, up_ne, up_set, n1_1, true_or, or_true, n1_01, n0_01, bI_01, bI_01b, bI_0, isSc1, isSc3, isSc5, ln_2, ln_4, ln_6, ln_8, ln_10, ln_11, ln_12, ln_13, ln_14, ln_16, ln_17, ln_18, ln_19, ln_20, ln_21, ln_23, ln_24, ln_25, ln_27, ln_28, ln_29, ln_31, ln_32, ln_33, ln_35, ln_36, ln_37, Nat.le_refl]
      exact hQ f hf
    | succ d ih =>
      intro i hi f hf
      rw [iX8_keeps_2]
      simp (disch := first | assumption | exact isSc1 | exact isSc3 | exact isSc5 | decide | omega) only [iX8_keeps_3, iX8_keeps_6, iX8_keeps_9, iX8_keeps_10, iX8_keeps_13, iX8_keeps_14, iX8_keeps_15, iX8_keeps_18, iX8_keeps_19, iX8_keeps_20, iX8_keeps_21, iX8_keeps_24, Nat.reduceAdd, Nat.reduceSub, Nat.reduceMul, Nat.reduceLeDiff, mm_rv_s, mm_rv_n, true_and, and_true, if_true, if_false, not_true_eq_false, not_false_eq_true, nI_add, nz_0, nz_lt0, nz_0le, nz_0lt, nz_le0, nz_lt, nz_le, nz_eq, nz_cl, nz_in, nz_sub, nz_m1, pk_mul, set_o, set_ne, up_ne, up_set, n1_1, true_or, or_true, n1_01, n0_01, bI_01, bI_01b, bI_0, isSc1, isSc3, isSc5, ln_2, ln_4, ln_6, ln_8, ln_10, ln_11, ln_12, ln_13, ln_14, ln_16, ln_17, ln_18, ln_19, ln_20, ln_21, ln_23, ln_24, ln_25, ln_27, ln_28, ln_29, ln_31, ln_32, ln_33, ln_35, ln_36, ln_37, show ¬ 723 ≤ i by omega]
      refine ih (i + 1) (by omega) _ (fun x hx => ?_)
      by_cases e : x = i
      · rw [e, us]
      · rw [un _ _ _ _ e]; exact hf x (by omega)
  simp (disch := first | assumption | exact isSc1 | exact isSc3 | exact isSc5 | decide | omega) only [eX8_keeps, iX8_keeps_0, iX8_keeps_1]
  have := loop 723 0 (by omega) (M 33) (fun x hx => absurd hx (by omega))
  rw [set_id] at this
  exact this
theorem m_swaps (hQ : ∀ M', Same [31, 33] M M' → (∀ x, x < 723 → M' 31 x = M 33 x) → (∀ x, x < 723 → M' 33 x = M 31 x) → Q none M') : wc 161 [.inr 30] M Q := by
  have loop : ∀ d i : Nat, i + d = 723 → ∀ (M' : mm_M) (l2 : Option mm_V), Same [31, 33] M M' → (∀ x, x < i → M' 31 x = M 33 x) → (∀ x, x < i → M' 33 x = M 31 x) → (∀ x, i ≤ x → M' 31 x = M 31 x) → (∀ x, i ≤ x → M' 33 x = M 33 x) → wp 161 2 [some (.inr 30), some (.inl (nI i)), l2] [] M' Q := by
    intro d
    induction d with
    | zero =>
      intro i hi M' l2 hS h1 h2 h3 h4
      have hi : i = 723 := by omega
      subst hi
      rw [iX8_swaps_2]
      simp (disch := first | assumption | exact isSc1 | exact isSc3 | exact isSc5 | decide | omega) only [iX8_swaps_3, iX8_swaps_6, iX8_swaps_41, Nat.reduceAdd, Nat.reduceSub, Nat.reduceMul, Nat.reduceLeDiff, mm_rv_s, mm_rv_n, true_and, and_true, if_true, if_false, not_true_eq_false, not_false_eq_true, nI_add, nz_0, nz_lt0, nz_0le, nz_0lt, nz_le0, nz_lt, nz_le, nz_eq, nz_cl, nz_in, nz_sub, nz_m1, pk_mul, set_o, set_ne, up_ne, up_set, n1_1, true_or, or_true, n1_01, n0_01, bI_01, bI_01b, bI_0, isSc1, isSc3, isSc5, ln_2, ln_4, ln_6, ln_8, ln_10, ln_11, ln_12, ln_13, ln_14, ln_16, ln_17, ln_18, ln_19, ln_20, ln_21, ln_23, ln_24, ln_25, ln_27, ln_28, ln_29, ln_31, ln_32, ln_33, ln_35, ln_36, ln_37, Nat.le_refl]
      exact hQ M' hS h1 h2
    | succ d ih =>
      intro i hi M' l2 hS h1 h2 h3 h4
      have e3 := h3 i (Nat.le_refl i)
      have e4 := h4 i (Nat.le_refl i)
      have l33 : mm_ln 33 = 723 := ln_33
      rw [iX8_swaps_2]
      simp (disch := first | assumption | exact isSc1 | exact isSc3 | exact isSc5 | decide | omega) only [iX8_swaps_3, iX8_swaps_6, iX8_swaps_9, iX8_swaps_10, iX8_swaps_13, iX8_swaps_14, iX8_swaps_15, iX8_swaps_16, iX8_swaps_17, iX8_swaps_20, iX8_swaps_21, iX8_swaps_22, iX8_swaps_25, iX8_swaps_26, iX8_swaps_27, iX8_swaps_28, iX8_swaps_29, iX8_swaps_32, iX8_swaps_33, iX8_swaps_34, iX8_swaps_35, iX8_swaps_38, Nat.reduceAdd, Nat.reduceSub, Nat.reduceMul, Nat.reduceLeDiff, mm_rv_s, mm_rv_n, true_and, and_true, if_true, if_false, not_true_eq_false, not_false_eq_true, nI_add, nz_0, nz_lt0, nz_0le, nz_0lt, nz_le0, nz_lt, nz_le, nz_eq, nz_cl, nz_in, nz_sub, nz_m1, pk_mul, set_o, set_ne, up_ne, up_set, n1_1, true_or, or_true, n1_01, n0_01, bI_01, bI_01b, bI_0, isSc1, isSc3, isSc5, ln_2, ln_4, ln_6, ln_8, ln_10, ln_11, ln_12, ln_13, ln_14, ln_16, ln_17, ln_18, ln_19, ln_20, ln_21, ln_23, ln_24, ln_25, ln_27, ln_28, ln_29, ln_31, ln_32, ln_33, ln_35, ln_36, ln_37, show ¬ 723 ≤ i by omega, e3, e4]
      refine ih (i + 1) (by omega) _ _ ((hS.up (by decide) _ _).up (by decide) _ _) (fun x hx => ?_) (fun x hx => ?_) (fun x hx => ?_) (fun x hx => ?_)
      · rw [up_ne _ _ _ (by decide), up_o]
        by_cases e : x = i
        · rw [e, us]
        · rw [un _ _ _ _ e]; exact h1 x (by omega)
      · rw [up_o]
        by_cases e : x = i
        · rw [e, us]
        · rw [un _ _ _ _ e, up_ne _ _ _ (by decide)]; exact h2 x (by omega)
      · rw [up_ne _ _ _ (by decide), up_o, un _ _ _ _ (by omega)]; exact h3 x (by omega)
      · rw [up_o, un _ _ _ _ (by omega), up_ne _ _ _ (by decide)]; exact h4 x (by omega)
  simp (disch := first | assumption | exact isSc1 | exact isSc3 | exact isSc5 | decide | omega) only [eX8_swaps, iX8_swaps_0, iX8_swaps_1]
  exact loop 723 0 (by omega) M none (Same.rf _ _) (fun x hx => absurd hx (by omega)) (fun x hx => absurd hx (by omega)) (fun _ _ => rfl) (fun _ _ => rfl)
/-- what a trial reading leaves -/
def Kf (M M' : mm_M) : Prop := (∀ q, q ∉ [30, 31, 33, 35] → M' q = M q) ∧ (∀ k, k ≠ 6 → M' 30 k = M 30 k) ∧ ∀ x, x < 723 → M' 31 x = M 31 x
theorem m_fault (hR : Rm M t c) (hD : isD (M 31) B L n g) (hB : 4 ≤ B) (hB2 : B ≤ 48) (hQ1 : ∀ q, rdR t c B 120 0 gZ (fun _ => 0) 0 = .inl q → q ≤ 120 → ∀ M', Kf M M' → Q (some (nI q)) M')
    (hQ2 : ∀ n' g', rdR t c B 120 0 gZ (fun _ => 0) 0 = .inr (n', g') → ∀ M', Kf M M' → isD (M' 33) B L n' g' → Val B n' g' → n' ≤ 60 → Q (some (-1004)) M') : wc 162 [.inr 30] M Q := by
  simp (disch := first | assumption | exact isSc1 | exact isSc3 | exact isSc5 | decide | omega) only [eX8_fault, iX8_fault_0, iX8_fault_1]
  refine m_keeps (fun f hf => ?_)
  simp (disch := first | assumption | exact isSc1 | exact isSc3 | exact isSc5 | decide | omega) only [iX8_fault_4, iX8_fault_5, mm_rv_n]
  have sw : ∀ (v : Int32) (M2 : mm_M), Ko (mm_set M 33 f) M2 → (∀ M3, Kf M M3 → (∀ x, x < 723 → M3 33 x = M2 31 x) → Q (some v) M3) → wp 162 8 [some (.inr 30), none] [.inl v] M2 Q := by
    intro v M2 hK hq
    simp (disch := first | assumption | exact isSc1 | exact isSc3 | exact isSc5 | decide | omega) only [iX8_fault_8, iX8_fault_9, iX8_fault_10]
    refine m_swaps (fun M3 hS h1 h2 => ?_)
    simp (disch := first | assumption | exact isSc1 | exact isSc3 | exact isSc5 | decide | omega) only [iX8_fault_13, iX8_fault_14, mm_rv_n]
    refine hq M3 ⟨fun q hq => ?_, fun k hk => ?_, fun x hx => ?_⟩ h2
    · simp only [List.mem_cons, List.not_mem_nil, or_false, not_or] at hq
      rw [hS q (by simp only [List.mem_cons, List.not_mem_nil, or_false, not_or]; omega), hK.1 q (by simp only [List.mem_cons, List.not_mem_nil, or_false, not_or]; omega), set_ne _ _ (by omega)]
    · rw [hS 30 (by decide), hK.2 k hk, set_ne _ _ (by decide)]
    · rw [h1 x hx, hK.1 33 (by decide), set_o, hf x hx]
  obtain ⟨r1, r2, r3⟩ := hR
  refine m_reads (t := t) (c := c) (B := B) (L := L) (n0 := n) (g0 := g) ⟨by rw [set_ne _ _ (by decide), r1], r2, fun i hi => by rw [set_ne _ _ (by decide), r3 i hi]⟩ (by rw [set_ne _ _ (by decide)]; exact hD) hB hB2 (fun q hq M2 hK hq2 => ?_) (fun n' g' hq M2 hK hD2 hv2 hn2 => ?_)
  · rw [mm_rv_s]
    exact sw _ M2 hK (fun M3 hK3 _ => hQ1 q hq hq2 M3 hK3)
  · rw [mm_rv_s]
    refine sw _ M2 hK (fun M3 hK3 h33 => hQ2 n' g' hq M3 hK3 ?_ hv2 hn2)
    have hn3 : n' ≤ 120 := by omega
    obtain ⟨d0, d1, d2, d3⟩ := hD2
    refine ⟨by rw [h33 _ (by decide), d0], by rw [h33 _ (by decide), d1], by rw [h33 _ (by decide), d2], fun i hi => ?_⟩
    obtain ⟨b1, b2, b3, b4, b5, b6⟩ := d3 i hi
    exact ⟨by rw [h33 _ (by omega), b1], by rw [h33 _ (by omega), b2], by rw [h33 _ (by omega), b3], by rw [h33 _ (by omega), b4], by rw [h33 _ (by omega), b5], by rw [h33 _ (by omega), b6]⟩
theorem Cur.kf {M' : mm_M} (hc : Cur M B L n g) (k : Kf M M') : Cur M' B L n g := by
  obtain ⟨hv, hn, hL, hx, hd⟩ := hc
  refine ⟨hv, hn, hL, isC_cong (k.1 1 (by decide)) (k.1 2 (by decide)) hx, ?_⟩
  obtain ⟨d0, d1, d2, d3⟩ := hd
  refine ⟨by rw [k.2.2 _ (by decide), d0], by rw [k.2.2 _ (by decide), d1], by rw [k.2.2 _ (by decide), d2], fun i hi => ?_⟩
  obtain ⟨b1, b2, b3, b4, b5, b6⟩ := d3 i hi
  exact ⟨by rw [k.2.2 _ (by omega), b1], by rw [k.2.2 _ (by omega), b2], by rw [k.2.2 _ (by omega), b3], by rw [k.2.2 _ (by omega), b4], by rw [k.2.2 _ (by omega), b5], by rw [k.2.2 _ (by omega), b6]⟩
theorem Hst.kf {M' : mm_M} (hh : Hst M h H) (k : Kf M M') : Hst M' h H := by
  obtain ⟨a, b, c, d⟩ := hh
  exact ⟨a, by rw [k.1 7 (by decide), b], by rw [k.2.1 2 (by decide), c], by rw [k.1 8 (by decide), k.1 32 (by decide)]; exact d⟩
theorem Kf.tk {M' : mm_M} (k : Kf M M') : TK M M' := TK.of (fun q hq => k.1 q (by
  simp only [List.mem_cons, List.not_mem_nil, or_false] at hq
  rcases hq with rfl | rfl | rfl | rfl | rfl | rfl <;> decide)) (k.2.1 5 (by decide))
theorem Inv.kf {M' : mm_M} (hI : Inv M) (k : Kf M M') : Inv M' := by
  obtain ⟨⟨B, L, n, g, hc⟩, ⟨h, H, hh⟩, ⟨t, c, ht⟩, hw⟩ := hI
  exact ⟨⟨B, L, n, g, hc.kf k⟩, ⟨h, H, hh.kf k⟩, ⟨t, c, ht.tk k.tk⟩, hw.tk k.tk⟩
theorem Kp.rd {M' : mm_M} (hS : Same [5, 6, 26, 28] M M') (h0 : M' 26 0 = M 26 0) : Kp M M' := by
  refine ⟨hS _ (by decide), hS _ (by decide), hS _ (by decide), ?_, ?_, hS _ (by decide), hS _ (by decide), h0, ?_, hS _ (by decide), hS _ (by decide), ?_, ?_, ?_⟩ <;> rw [hS _ (by decide)]
theorem Txt.rx (h : Txt M t c) : Rx M t c := ⟨h.2.1, ⟨h.1, fun i hi => (h.2.2.2 i hi).2.2⟩, fun i hi => (h.2.2.2 i hi).1⟩
theorem Txt.rm (h : Txt M t c) : Rm M t c := ⟨h.2.2.1, ⟨h.1, fun i hi => (h.2.2.2 i hi).2.2⟩, fun i hi => (h.2.2.2 i hi).2.1⟩
theorem pr_fault (hI : Inv M) : lw_pair Inv M 88 162 [] := by
  obtain ⟨⟨B, L, n, g, hc⟩, ⟨h, H, hh⟩, ⟨t, c, ht⟩, hw⟩ := id hI
  obtain ⟨hv, hn, hL, hx, hd⟩ := id hc
  have w1 := hv.1
  have w2 := hv.2.1
  simp (disch := first | assumption | exact isSc1 | exact isSc3 | exact isSc5 | decide | omega) only [lw_pair, eX7_fault, iX7_fault_0, iX7_fault_1, iX7_fault_4, iX7_fault_5, iX7_fault_8, iX7_fault_9, iX7_fault_12]
  refine p_readFor ht.rx hx w1 w2 (fun q hq M1 hS h0 hq2 => ?_) (fun n' g' hq M1 hS h0 hC5 hv' hn' => ?_)
  · have kp := Kp.rd hS h0
    simp (disch := first | assumption | exact isSc1 | exact isSc3 | exact isSc5 | decide | omega) only [iX7_fault_15, iX7_fault_16, iX7_fault_17, iX7_fault_18, iX7_fault_21, iX7_fault_24, iX7_fault_27, iX7_fault_28, Nat.reduceAdd, Nat.reduceSub, Nat.reduceMul, Nat.reduceLeDiff, mm_rv_s, mm_rv_n, true_and, and_true, if_true, if_false, not_true_eq_false, not_false_eq_true, nI_add, nz_0, nz_lt0, nz_0le, nz_0lt, nz_le0, nz_lt, nz_le, nz_eq, nz_cl, nz_in, nz_sub, nz_m1, pk_mul, set_o, set_ne, up_ne, up_set, n1_1, true_or, or_true, n1_01, n0_01, bI_01, bI_01b, bI_0, isSc1, isSc3, isSc5, ln_2, ln_4, ln_6, ln_8, ln_10, ln_11, ln_12, ln_13, ln_14, ln_16, ln_17, ln_18, ln_19, ln_20, ln_21, ln_23, ln_24, ln_25, ln_27, ln_28, ln_29, ln_31, ln_32, ln_33, ln_35, ln_36, ln_37, nz_ne1]
    refine ⟨_, rfl, m_fault (ht.kp kp).rm (hc.kp kp).2.2.2.2 w1 w2 (fun q2 hq3 _ M2 hK => ⟨?_, (hI.kp kp).kf hK⟩) (fun n2 g2 hq3 => ?_)⟩
    · rw [hq] at hq3
      cases hq3
      rfl
    · rw [hq] at hq3
      cases hq3
  · have kp := Kp.rd hS h0
    simp (disch := first | assumption | exact isSc1 | exact isSc3 | exact isSc5 | decide | omega) only [iX7_fault_15, iX7_fault_16, iX7_fault_17, iX7_fault_18, iX7_fault_21, iX7_fault_24, iX7_fault_27, iX7_fault_28, Nat.reduceAdd, Nat.reduceSub, Nat.reduceMul, Nat.reduceLeDiff, mm_rv_s, mm_rv_n, true_and, and_true, if_true, if_false, not_true_eq_false, not_false_eq_true, nI_add, nz_0, nz_lt0, nz_0le, nz_0lt, nz_le0, nz_lt, nz_le, nz_eq, nz_cl, nz_in, nz_sub, nz_m1, pk_mul, set_o, set_ne, up_ne, up_set, n1_1, true_or, or_true, n1_01, n0_01, bI_01, bI_01b, bI_0, isSc1, isSc3, isSc5, ln_2, ln_4, ln_6, ln_8, ln_10, ln_11, ln_12, ln_13, ln_14, ln_16, ln_17, ln_18, ln_19, ln_20, ln_21, ln_23, ln_24, ln_25, ln_27, ln_28, ln_29, ln_31, ln_32, ln_33, ln_35, ln_36, ln_37]
    refine ⟨_, rfl, m_fault (ht.kp kp).rm (hc.kp kp).2.2.2.2 w1 w2 (fun q2 hq3 => ?_) (fun n2 g2 hq3 M2 hK _ _ _ => ⟨rfl, (hI.kp kp).kf hK⟩)⟩
    rw [hq] at hq3
    cases hq3
theorem p_lay (hR : Rx M t c) (hcur : Cur M B L n g) (hh : Hst M h H) (hQ1 : ∀ q, rdR t c B 120 0 gZ (fun _ => 0) 0 = .inl q → ∀ M', Kp M M' → Q (some (-1002)) M')
    (hQ2 : ∀ n' g', rdR t c B 120 0 gZ (fun _ => 0) 0 = .inr (n', g') → Val B n' g' → n' ≤ 60 → ∀ M' f2, (∀ q, q ∉ [1, 2, 5, 6, 7, 8, 26, 28] → M' q = M q) → M' 26 0 = M 26 0 → M' 7 0 = nI (pushN h) → M' 8 = f2 → (∀ k, k < pushN h → hC f2 k (pushH h H (B, L, n, g) k)) → isC M' 1 B L n' g' → Q (some (nI n')) M') : wc 70 [.inr 0] M Q := by
  obtain ⟨hv, hn, hL, hx, hd⟩ := id hcur
  have w1 := hv.1
  have w2 := hv.2.1
  simp (disch := first | assumption | exact isSc1 | exact isSc3 | exact isSc5 | decide | omega) only [eX7_lay, iX7_lay_0, iX7_lay_1, iX7_lay_4, iX7_lay_5, iX7_lay_8, iX7_lay_9, iX7_lay_12]
  refine p_readFor hR hx w1 w2 (fun q hq M1 hS h0 hq2 => ?_) (fun n' g' hq M1 hS h0 hC5 hv' hn' => ?_)
  · simp (disch := first | assumption | exact isSc1 | exact isSc3 | exact isSc5 | decide | omega) only [iX7_lay_15, iX7_lay_16, iX7_lay_19, iX7_lay_22, Nat.reduceAdd, Nat.reduceSub, Nat.reduceMul, Nat.reduceLeDiff, mm_rv_s, mm_rv_n, true_and, and_true, if_true, if_false, not_true_eq_false, not_false_eq_true, nI_add, nz_0, nz_lt0, nz_0le, nz_0lt, nz_le0, nz_lt, nz_le, nz_eq, nz_cl, nz_in, nz_sub, nz_m1, pk_mul, set_o, set_ne, up_ne, up_set, n1_1, true_or, or_true, n1_01, n0_01, bI_01, bI_01b, bI_0, isSc1, isSc3, isSc5, ln_2, ln_4, ln_6, ln_8, ln_10, ln_11, ln_12, ln_13, ln_14, ln_16, ln_17, ln_18, ln_19, ln_20, ln_21, ln_23, ln_24, ln_25, ln_27, ln_28, ln_29, ln_31, ln_32, ln_33, ln_35, ln_36, ln_37, nz_ne1]
    exact hQ1 q hq M1 (Kp.rd hS h0)
  · have kp := Kp.rd hS h0
    simp (disch := first | assumption | exact isSc1 | exact isSc3 | exact isSc5 | decide | omega) only [iX7_lay_15, iX7_lay_16, iX7_lay_19, iX7_lay_22, iX7_lay_23, iX7_lay_24, iX7_lay_27, iX7_lay_28, iX7_lay_31, Nat.reduceAdd, Nat.reduceSub, Nat.reduceMul, Nat.reduceLeDiff, mm_rv_s, mm_rv_n, true_and, and_true, if_true, if_false, not_true_eq_false, not_false_eq_true, nI_add, nz_0, nz_lt0, nz_0le, nz_0lt, nz_le0, nz_lt, nz_le, nz_eq, nz_cl, nz_in, nz_sub, nz_m1, pk_mul, set_o, set_ne, up_ne, up_set, n1_1, true_or, or_true, n1_01, n0_01, bI_01, bI_01b, bI_0, isSc1, isSc3, isSc5, ln_2, ln_4, ln_6, ln_8, ln_10, ln_11, ln_12, ln_13, ln_14, ln_16, ln_17, ln_18, ln_19, ln_20, ln_21, ln_23, ln_24, ln_25, ln_27, ln_28, ln_29, ln_31, ln_32, ln_33, ln_35, ln_36, ln_37]
    refine x_keep (hcur.kp kp) (hh.kp kp) (fun f2 hf => ?_)
    have u2 : mm_up (mm_set M1 8 f2) 7 0 (nI (pushN h)) 5 2 = nI n' := by rw [up_ne _ _ _ (by decide), set_ne _ _ (by decide)]; exact hC5.2.2.1
    simp (disch := first | assumption | exact isSc1 | exact isSc3 | exact isSc5 | decide | omega) only [iX7_lay_34, iX7_lay_35, iX7_lay_38, iX7_lay_39, iX7_lay_42, Nat.reduceAdd, Nat.reduceSub, Nat.reduceMul, Nat.reduceLeDiff, mm_rv_s, mm_rv_n, true_and, and_true, if_true, if_false, not_true_eq_false, not_false_eq_true, nI_add, nz_0, nz_lt0, nz_0le, nz_0lt, nz_le0, nz_lt, nz_le, nz_eq, nz_cl, nz_in, nz_sub, nz_m1, pk_mul, set_o, set_ne, up_ne, up_set, n1_1, true_or, or_true, n1_01, n0_01, bI_01, bI_01b, bI_0, isSc1, isSc3, isSc5, ln_2, ln_4, ln_6, ln_8, ln_10, ln_11, ln_12, ln_13, ln_14, ln_16, ln_17, ln_18, ln_19, ln_20, ln_21, ln_23, ln_24, ln_25, ln_27, ln_28, ln_29, ln_31, ln_32, ln_33, ln_35, ln_36, ln_37, p_become isSc1 isSc5 (show (5 : Nat) ≠ 1 by decide) u2 (show n' ≤ 120 by omega)]
    have uC : isC (mm_up (mm_set M1 8 f2) 7 0 (nI (pushN h))) 5 B L n' g' := isC_cong (M := M1) (by rw [up_ne _ _ _ (by decide), set_ne _ _ (by decide)]) (by rw [up_ne _ _ _ (by decide), set_ne _ _ (by decide)]) hC5
    have uS : ∀ q, q ∉ [5, 6, 7, 8, 26, 28] → mm_up (mm_set M1 8 f2) 7 0 (nI (pushN h)) q = M q := fun q hq => by
      simp only [List.mem_cons, List.not_mem_nil, or_false, not_or] at hq
      rw [up_ne _ _ _ (by omega), set_ne _ _ (by omega), hS q (by simp only [List.mem_cons, List.not_mem_nil, or_false, not_or]; omega)]
    have u26 : mm_up (mm_set M1 8 f2) 7 0 (nI (pushN h)) 26 0 = M 26 0 := by rw [up_ne _ _ _ (by decide), set_ne _ _ (by decide), h0]
    have u7 : mm_up (mm_set M1 8 f2) 7 0 (nI (pushN h)) 7 0 = nI (pushN h) := by rw [up_o, us]
    have u8 : mm_up (mm_set M1 8 f2) 7 0 (nI (pushN h)) 8 = f2 := by rw [up_ne _ _ _ (by decide), set_o]
    generalize mm_up (mm_set M1 8 f2) 7 0 (nI (pushN h)) = M3 at u2 uC uS u26 u7 u8 ⊢
    obtain ⟨c0, c1, c2, c3⟩ := uC
    have e12 : mm_set (mm_up (mm_up (mm_up M3 1 0 (M3 5 0)) 1 1 (M3 5 1)) 1 2 (nI n')) 2 (va_cpy (M3 6) (M3 2) 0 0 n') 1 2 = nI n' := by simp [mm_up, mm_set, upd]
    simp (disch := first | assumption | exact isSc1 | exact isSc3 | exact isSc5 | decide | omega) only [iX7_lay_45, iX7_lay_46, iX7_lay_49, iX7_lay_52, Nat.reduceAdd, Nat.reduceSub, Nat.reduceMul, Nat.reduceLeDiff, mm_rv_s, mm_rv_n, true_and, and_true, if_true, if_false, not_true_eq_false, not_false_eq_true, nI_add, nz_0, nz_lt0, nz_0le, nz_0lt, nz_le0, nz_lt, nz_le, nz_eq, nz_cl, nz_in, nz_sub, nz_m1, pk_mul, set_o, set_ne, up_ne, up_set, n1_1, true_or, or_true, n1_01, n0_01, bI_01, bI_01b, bI_0, isSc1, isSc3, isSc5, ln_2, ln_4, ln_6, ln_8, ln_10, ln_11, ln_12, ln_13, ln_14, ln_16, ln_17, ln_18, ln_19, ln_20, ln_21, ln_23, ln_24, ln_25, ln_27, ln_28, ln_29, ln_31, ln_32, ln_33, ln_35, ln_36, ln_37, e12]
    refine hQ2 n' g' hq hv' hn' _ f2 (fun q hq => ?_) ?_ ?_ ?_ hf ⟨?_, ?_, e12, fun i hi => ?_⟩
    · simp only [List.mem_cons, List.not_mem_nil, or_false, not_or] at hq
      rw [set_ne _ _ (by omega), up_ne _ _ _ (by omega), up_ne _ _ _ (by omega), up_ne _ _ _ (by omega), uS q (by simp only [List.mem_cons, List.not_mem_nil, or_false, not_or]; omega)]
    · rw [set_ne _ _ (by decide), up_ne _ _ _ (by decide), up_ne _ _ _ (by decide), up_ne _ _ _ (by decide), u26]
    · rw [set_ne _ _ (by decide), up_ne _ _ _ (by decide), up_ne _ _ _ (by decide), up_ne _ _ _ (by decide), u7]
    · rw [set_ne _ _ (by decide), up_ne _ _ _ (by decide), up_ne _ _ _ (by decide), up_ne _ _ _ (by decide), u8]
    · first | (rw [← hC5.1]; simp [mm_up, mm_set, upd]; done) | (rw [← c0]; simp [mm_up, mm_set, upd]; done)
    · first | (rw [← hC5.2.1]; simp [mm_up, mm_set, upd]; done) | (rw [← c1]; simp [mm_up, mm_set, upd]; done)
    · first | (rw [← hC5.2.2.2 i hi, set_o, pk_cpy_in (by omega) (by omega)]; simp; done) | (rw [← c3 i hi, set_o, pk_cpy_in (by omega) (by omega)]; simp; done)
theorem m_lay {M0 : mm_M} (hR : Rm M t c) (hcur : Cur M0 B L n g) (hd : isD (M 31) B L n g) (hh : Hst M0 h H) (h30 : M 30 2 = M0 30 2) (h32 : M 32 = M0 32) (hQ1 : ∀ q, rdR t c B 120 0 gZ (fun _ => 0) 0 = .inl q → ∀ M', Kf M M' → Q (some (-1002)) M')
    (hQ2 : ∀ n' g', rdR t c B 120 0 gZ (fun _ => 0) 0 = .inr (n', g') → Val B n' g' → n' ≤ 60 → ∀ M', (∀ q, q ∉ [30, 31, 32, 33, 35] → M' q = M q) → M' 30 5 = M 30 5 → M' 30 2 = nI (pushN h) → (∀ k, k < pushN h → hD (M' 32) k (pushH h H (B, L, n, g) k)) → isD (M' 31) B L n' g' → Q (some (nI n')) M') : wc 163 [.inr 30] M Q := by
  obtain ⟨hv, hn, hL, hx, hd0⟩ := id hcur
  have w1 := hv.1
  have w2 := hv.2.1
  simp (disch := first | assumption | exact isSc1 | exact isSc3 | exact isSc5 | decide | omega) only [eX8_lay, iX8_lay_0, iX8_lay_1]
  refine m_fault hR hd w1 w2 (fun q hq hq2 M1 hK => ?_) (fun n' g' hq M1 hK h33 hv' hn' => ?_)
  · have ne : ¬ nI q = -1004 := by
      intro e
      have a := nI_toInt (show q < 2 ^ 31 by omega)
      rw [e] at a
      have b : (-1004 : Int32).toInt = -1004 := by decide
      omega
    simp (disch := first | assumption | exact isSc1 | exact isSc3 | exact isSc5 | decide | omega) only [iX8_lay_4, iX8_lay_7, iX8_lay_10, iX8_lay_13, Nat.reduceAdd, Nat.reduceSub, Nat.reduceMul, Nat.reduceLeDiff, mm_rv_s, mm_rv_n, true_and, and_true, if_true, if_false, not_true_eq_false, not_false_eq_true, nI_add, nz_0, nz_lt0, nz_0le, nz_0lt, nz_le0, nz_lt, nz_le, nz_eq, nz_cl, nz_in, nz_sub, nz_m1, pk_mul, set_o, set_ne, up_ne, up_set, n1_1, true_or, or_true, n1_01, n0_01, bI_01, bI_01b, bI_0, isSc1, isSc3, isSc5, ln_2, ln_4, ln_6, ln_8, ln_10, ln_11, ln_12, ln_13, ln_14, ln_16, ln_17, ln_18, ln_19, ln_20, ln_21, ln_23, ln_24, ln_25, ln_27, ln_28, ln_29, ln_31, ln_32, ln_33, ln_35, ln_36, ln_37, ne]
    exact hQ1 q hq M1 hK
  · simp (disch := first | assumption | exact isSc1 | exact isSc3 | exact isSc5 | decide | omega) only [iX8_lay_4, iX8_lay_7, iX8_lay_10, iX8_lay_13, iX8_lay_14, iX8_lay_15, Nat.reduceAdd, Nat.reduceSub, Nat.reduceMul, Nat.reduceLeDiff, mm_rv_s, mm_rv_n, true_and, and_true, if_true, if_false, not_true_eq_false, not_false_eq_true, nI_add, nz_0, nz_lt0, nz_0le, nz_0lt, nz_le0, nz_lt, nz_le, nz_eq, nz_cl, nz_in, nz_sub, nz_m1, pk_mul, set_o, set_ne, up_ne, up_set, n1_1, true_or, or_true, n1_01, n0_01, bI_01, bI_01b, bI_0, isSc1, isSc3, isSc5, ln_2, ln_4, ln_6, ln_8, ln_10, ln_11, ln_12, ln_13, ln_14, ln_16, ln_17, ln_18, ln_19, ln_20, ln_21, ln_23, ln_24, ln_25, ln_27, ln_28, ln_29, ln_31, ln_32, ln_33, ln_35, ln_36, ln_37]
    refine x_records (M := M0) (M1 := M1) (B := B) (L := L) (n := n) (g := g) (isD_cong (by omega) hK.2.2 hd) hn hh (by rw [hK.2.1 2 (by decide), h30]) (by rw [hK.1 32 (by decide), h32]) (fun w2' hw => ?_)
    simp (disch := first | assumption | exact isSc1 | exact isSc3 | exact isSc5 | decide | omega) only [iX8_lay_18, iX8_lay_19, Nat.reduceAdd, Nat.reduceSub, Nat.reduceMul, Nat.reduceLeDiff, mm_rv_s, mm_rv_n, true_and, and_true, if_true, if_false, not_true_eq_false, not_false_eq_true, nI_add, nz_0, nz_lt0, nz_0le, nz_0lt, nz_le0, nz_lt, nz_le, nz_eq, nz_cl, nz_in, nz_sub, nz_m1, pk_mul, set_o, set_ne, up_ne, up_set, n1_1, true_or, or_true, n1_01, n0_01, bI_01, bI_01b, bI_0, isSc1, isSc3, isSc5, ln_2, ln_4, ln_6, ln_8, ln_10, ln_11, ln_12, ln_13, ln_14, ln_16, ln_17, ln_18, ln_19, ln_20, ln_21, ln_23, ln_24, ln_25, ln_27, ln_28, ln_29, ln_31, ln_32, ln_33, ln_35, ln_36, ln_37]
    refine m_swaps (fun M3 hS h1 h2 => ?_)
    have u33 : mm_up (mm_set M1 32 w2') 30 2 (nI (pushN h)) 33 = M1 33 := by rw [up_ne _ _ _ (by decide), set_ne _ _ (by decide)]
    have dD : isD (M3 31) B L n' g' := isD_cong (by omega) (fun x hx => by rw [h1 x hx, u33]) h33
    have d2 := dD.2.2.1
    simp (disch := first | assumption | exact isSc1 | exact isSc3 | exact isSc5 | decide | omega) only [iX8_lay_22, iX8_lay_23, iX8_lay_26, iX8_lay_27, iX8_lay_28, Nat.reduceAdd, Nat.reduceSub, Nat.reduceMul, Nat.reduceLeDiff, mm_rv_s, mm_rv_n, true_and, and_true, if_true, if_false, not_true_eq_false, not_false_eq_true, nI_add, nz_0, nz_lt0, nz_0le, nz_0lt, nz_le0, nz_lt, nz_le, nz_eq, nz_cl, nz_in, nz_sub, nz_m1, pk_mul, set_o, set_ne, up_ne, up_set, n1_1, true_or, or_true, n1_01, n0_01, bI_01, bI_01b, bI_0, isSc1, isSc3, isSc5, ln_2, ln_4, ln_6, ln_8, ln_10, ln_11, ln_12, ln_13, ln_14, ln_16, ln_17, ln_18, ln_19, ln_20, ln_21, ln_23, ln_24, ln_25, ln_27, ln_28, ln_29, ln_31, ln_32, ln_33, ln_35, ln_36, ln_37, d2]
    refine hQ2 n' g' hq hv' hn' M3 (fun q hq => ?_) ?_ ?_ ?_ dD
    · simp only [List.mem_cons, List.not_mem_nil, or_false, not_or] at hq
      rw [hS q (by simp only [List.mem_cons, List.not_mem_nil, or_false, not_or]; omega), up_ne _ _ _ (by omega), set_ne _ _ (by omega), hK.1 q (by simp only [List.mem_cons, List.not_mem_nil, or_false, not_or]; omega)]
    · rw [hS 30 (by decide), up_o, un _ _ _ _ (by decide), set_ne _ _ (by decide), hK.2.1 5 (by decide)]
    · rw [hS 30 (by decide), up_o, us]
    · have e : M3 32 = w2' := by rw [hS 32 (by decide), up_ne _ _ _ (by decide), set_o]
      rw [e]; exact hw
theorem pr_lay (hI : Inv M) : lw_pair Inv M 70 163 [] := by
  obtain ⟨⟨B, L, n, g, hc⟩, ⟨h, H, hh⟩, ⟨t, c, ht⟩, hw⟩ := id hI
  obtain ⟨hv, hn, hL, hx, hd⟩ := id hc
  refine p_lay ht.rx hc hh (fun q hq M1 kp => ⟨_, rfl, ?_⟩) (fun n' g' hq hv' hn' M1 f2 s1 s26 s7 s8 hf hC1 => ⟨_, rfl, ?_⟩)
  · refine m_lay (ht.kp kp).rm hc (hc.kp kp).2.2.2.2 hh kp.2.2.2.2.1 kp.2.2.2.2.2.2.1 (fun q2 hq2 M2 hK => ⟨rfl, (hI.kp kp).kf hK⟩) (fun n2 g2 hq2 => ?_)
    rw [hq] at hq2
    cases hq2
  · have rm := ht.rm
    refine m_lay (M := M1) (t := t) (c := c) ⟨by rw [s1 30 (by decide)]; exact rm.1, rm.2.1, by rw [s1 34 (by decide)]; exact rm.2.2⟩ hc (by rw [s1 31 (by decide)]; exact hd) hh (by rw [s1 30 (by decide)]) (s1 32 (by decide)) (fun q2 hq2 => ?_) (fun n2 g2 hq2 _ _ M2 z1 z5 z2 z32 zD => ?_)
    · rw [hq] at hq2
      cases hq2
    · rw [hq] at hq2
      cases hq2
      refine ⟨rfl, change_inv hc hh ⟨t, c, ht⟩ hw (B' := B) (L' := L) (n' := n') (g' := g') ?_ z2 ?_ z32 ⟨hv', hn', hL, isC_cong (z1 1 (by decide)) (z1 2 (by decide)) hC1, zD⟩ ⟨?_, ?_, ?_, ?_, ?_, ?_, ?_⟩⟩
      · rw [z1 7 (by decide), s7]
      · rw [z1 8 (by decide), s8]; exact hf
      · rw [z1 26 (by decide), s26]
      · rw [z5, s1 30 (by decide)]
      · rw [z1 27 (by decide), s1 27 (by decide)]
      · rw [z1 34 (by decide), s1 34 (by decide)]
      · rw [z1 16 (by decide), s1 16 (by decide)]
      · rw [z1 17 (by decide), s1 17 (by decide)]
      · rw [z1 18 (by decide), s1 18 (by decide)]
end LAY
