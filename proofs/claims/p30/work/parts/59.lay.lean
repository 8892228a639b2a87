/-! fault, lay -/
section LAY
variable {M : mm_M} {Q : mm_Q} {t B L n h : Nat} {c nb : Nat → Nat} {g : Nat → Sg} {H : Nat → St}
theorem Kp.rd {M' : mm_M} (hS : Same [5, 6, 26, 28] M M') (h0 : M' 26 0 = M 26 0) : Kp M M' := by
  refine ⟨hS _ (by decide), hS _ (by decide), ?_, hS _ (by decide), h0, hS _ (by decide), ?_, ?_, ?_, hS _ (by decide), hS _ (by decide)⟩ <;> rw [hS _ (by decide)]
theorem Txt.rx (h : Txt M t c) : Rx M t c := ⟨h.2.1, ⟨h.1, fun i hi => (h.2.2 i hi).2⟩, fun i hi => (h.2.2 i hi).1⟩
theorem p_lay (hR : Rx M t c) (hcur : Cur M B L n g) (hh : Hst M h H) (hQ1 : ∀ q, rdR t c B 120 0 gZ (fun _ => 0) 0 = .inl q → ∀ M', Kp M M' → Q (some (-1002)) M')
    (hQ2 : ∀ n' g', rdR t c B 120 0 gZ (fun _ => 0) 0 = .inr (n', g') → Val B n' g' → n' ≤ 60 → ∀ M' f2, (∀ q, q ∉ [1, 2, 5, 6, 7, 8, 26, 28] → M' q = M q) → M' 26 0 = M 26 0 → M' 7 0 = nI (pushN h) → M' 8 = f2 → (∀ k, k < pushN h → hC f2 k (pushH h H (B, L, n, g) k)) → isC M' 1 B L n' g' → Q (some (nI n')) M') : wc 70 [.inr 0] M Q := by
  obtain ⟨hv, hn, hL, hx⟩ := id hcur
  have w1 := hv.1
  have w2 := hv.2.1
  simp (disch := first | assumption | exact isSc1 | exact isSc3 | exact isSc5 | decide | omega) only [eX7_lay, iX7_lay_0, iX7_lay_1, iX7_lay_4, iX7_lay_5, iX7_lay_8, iX7_lay_9, iX7_lay_12]
  refine p_readFor hR hx w1 w2 (fun q hq M1 hS h0 hq2 => ?_) (fun n' g' hq M1 hS h0 hC5 hv' hn' => ?_)
  · simp (disch := first | assumption | exact isSc1 | exact isSc3 | exact isSc5 | decide | omega) only [iX7_lay_15, iX7_lay_16, iX7_lay_19, iX7_lay_22, Nat.reduceAdd, Nat.reduceSub, Nat.reduceMul, Nat.reduceLeDiff, mm_rv_s, mm_rv_n, true_and, and_true, if_true, if_false, not_true_eq_false, not_false_eq_true, nI_add, nz_0, nz_lt0, nz_0le, nz_0lt, nz_le0, nz_lt, nz_le, nz_eq, nz_cl, nz_in, nz_sub, nz_m1, pk_mul, set_o, set_ne, up_ne, up_set, n1_1, true_or, or_true, n1_01, n0_01, bI_01, bI_01b, bI_0, isSc1, isSc3, isSc5, ln_2, ln_4, ln_6, ln_8, ln_10, ln_11, ln_12, ln_13, ln_14, ln_16, ln_17, ln_18, ln_19, ln_20, ln_21, ln_23, ln_24, ln_25, ln_27, ln_28, ln_29, nz_ne1]
    exact hQ1 q hq M1 (Kp.rd hS h0)
  · have kp := Kp.rd hS h0
    simp (disch := first | assumption | exact isSc1 | exact isSc3 | exact isSc5 | decide | omega) only [iX7_lay_15, iX7_lay_16, iX7_lay_19, iX7_lay_22, iX7_lay_23, iX7_lay_24, iX7_lay_27, iX7_lay_28, iX7_lay_31, Nat.reduceAdd, Nat.reduceSub, Nat.reduceMul, Nat.reduceLeDiff, mm_rv_s, mm_rv_n, true_and, and_true, if_true, if_false, not_true_eq_false, not_false_eq_true, nI_add, nz_0, nz_lt0, nz_0le, nz_0lt, nz_le0, nz_lt, nz_le, nz_eq, nz_cl, nz_in, nz_sub, nz_m1, pk_mul, set_o, set_ne, up_ne, up_set, n1_1, true_or, or_true, n1_01, n0_01, bI_01, bI_01b, bI_0, isSc1, isSc3, isSc5, ln_2, ln_4, ln_6, ln_8, ln_10, ln_11, ln_12, ln_13, ln_14, ln_16, ln_17, ln_18, ln_19, ln_20, ln_21, ln_23, ln_24, ln_25, ln_27, ln_28, ln_29]
    refine x_keep (hcur.kp kp) (hh.kp kp) (fun f2 hf => ?_)
    have u2 : mm_up (mm_set M1 8 f2) 7 0 (nI (pushN h)) 5 2 = nI n' := by rw [up_ne _ _ _ (by decide), set_ne _ _ (by decide)]; exact hC5.2.2.1
    simp (disch := first | assumption | exact isSc1 | exact isSc3 | exact isSc5 | decide | omega) only [iX7_lay_34, iX7_lay_35, iX7_lay_38, iX7_lay_39, iX7_lay_42, Nat.reduceAdd, Nat.reduceSub, Nat.reduceMul, Nat.reduceLeDiff, mm_rv_s, mm_rv_n, true_and, and_true, if_true, if_false, not_true_eq_false, not_false_eq_true, nI_add, nz_0, nz_lt0, nz_0le, nz_0lt, nz_le0, nz_lt, nz_le, nz_eq, nz_cl, nz_in, nz_sub, nz_m1, pk_mul, set_o, set_ne, up_ne, up_set, n1_1, true_or, or_true, n1_01, n0_01, bI_01, bI_01b, bI_0, isSc1, isSc3, isSc5, ln_2, ln_4, ln_6, ln_8, ln_10, ln_11, ln_12, ln_13, ln_14, ln_16, ln_17, ln_18, ln_19, ln_20, ln_21, ln_23, ln_24, ln_25, ln_27, ln_28, ln_29, p_become isSc1 isSc5 (show (5 : Nat) ≠ 1 by decide) u2 (show n' ≤ 120 by omega)]
    have uC : isC (mm_up (mm_set M1 8 f2) 7 0 (nI (pushN h))) 5 B L n' g' := isC_cong (M := M1) (by rw [up_ne _ _ _ (by decide), set_ne _ _ (by decide)]) (by rw [up_ne _ _ _ (by decide), set_ne _ _ (by decide)]) hC5
    have uS : ∀ q, q ∉ [5, 6, 7, 8, 26, 28] → mm_up (mm_set M1 8 f2) 7 0 (nI (pushN h)) q = M q := fun q hq => by
      simp only [List.mem_cons, List.not_mem_nil, or_false, not_or] at hq
      rw [up_ne _ _ _ (by omega), set_ne _ _ (by omega), hS q (by simp only [List.mem_cons, List.not_mem_nil, or_false, not_or]; omega)]
    have u26 : mm_up (mm_set M1 8 f2) 7 0 (nI (pushN h)) 26 0 = M 26 0 := by rw [up_ne _ _ _ (by decide), set_ne _ _ (by decide), h0]
    have u7 : mm_up (mm_set M1 8 f2) 7 0 (nI (pushN h)) 7 0 = nI (pushN h) := by rw [up_o, us]
    have u8 : mm_up (mm_set M1 8 f2) 7 0 (nI (pushN h)) 8 = f2 := by rw [up_ne _ _ _ (by decide), set_o]
    generalize mm_up (mm_set M1 8 f2) 7 0 (nI (pushN h)) = M3 at u2 uC uS u26 u7 u8 ⊢
    obtain ⟨c0, c1, c2, c3⟩ := uC
    have e12 : mm_set (mm_up (mm_up (mm_up M3 1 0 (M3 5 0)) 1 1 (M3 5 1)) 1 2 (nI n')) 2 (va_cpy (M3 6) (M3 2) 0 0 n') 1 2 = nI n' := by simp [mm_up, mm_set, upd]
    simp (disch := first | assumption | exact isSc1 | exact isSc3 | exact isSc5 | decide | omega) only [iX7_lay_45, iX7_lay_46, iX7_lay_49, iX7_lay_52, Nat.reduceAdd, Nat.reduceSub, Nat.reduceMul, Nat.reduceLeDiff, mm_rv_s, mm_rv_n, true_and, and_true, if_true, if_false, not_true_eq_false, not_false_eq_true, nI_add, nz_0, nz_lt0, nz_0le, nz_0lt, nz_le0, nz_lt, nz_le, nz_eq, nz_cl, nz_in, nz_sub, nz_m1, pk_mul, set_o, set_ne, up_ne, up_set, n1_1, true_or, or_true, n1_01, n0_01, bI_01, bI_01b, bI_0, isSc1, isSc3, isSc5, ln_2, ln_4, ln_6, ln_8, ln_10, ln_11, ln_12, ln_13, ln_14, ln_16, ln_17, ln_18, ln_19, ln_20, ln_21, ln_23, ln_24, ln_25, ln_27, ln_28, ln_29, e12]
    refine hQ2 n' g' hq hv' hn' _ f2 (fun q hq => ?_) ?_ ?_ ?_ hf ⟨?_, ?_, e12, fun i hi => ?_⟩
    · simp only [List.mem_cons, List.not_mem_nil, or_false, not_or] at hq
      rw [set_ne _ _ (by omega), up_ne _ _ _ (by omega), up_ne _ _ _ (by omega), up_ne _ _ _ (by omega), uS q (by simp only [List.mem_cons, List.not_mem_nil, or_false, not_or]; omega)]
    · rw [set_ne _ _ (by decide), up_ne _ _ _ (by decide), up_ne _ _ _ (by decide), up_ne _ _ _ (by decide), u26]
    · rw [set_ne _ _ (by decide), up_ne _ _ _ (by decide), up_ne _ _ _ (by decide), up_ne _ _ _ (by decide), u7]
    · rw [set_ne _ _ (by decide), up_ne _ _ _ (by decide), up_ne _ _ _ (by decide), up_ne _ _ _ (by decide), u8]
    · first | (rw [← hC5.1]; simp [mm_up, mm_set, upd]; done) | (rw [← c0]; simp [mm_up, mm_set, upd]; done)
    · first | (rw [← hC5.2.1]; simp [mm_up, mm_set, upd]; done) | (rw [← c1]; simp [mm_up, mm_set, upd]; done)
    · first | (rw [← hC5.2.2.2 i hi, set_o, pk_cpy_in (by omega) (by omega)]; simp; done) | (rw [← c3 i hi, set_o, pk_cpy_in (by omega) (by omega)]; simp; done)
theorem z_fault {X V : Nat → Int32} (s : Ste M X V B L n g h H t c) (hQ1 : ∀ q, rdR t c B 120 0 gZ (fun _ => 0) 0 = .inl q → q ≤ 120 → ∀ M', Ste M' X V B L n g h H t c → Q (some (nI q)) M')
    (hQ2 : ∀ n' g', rdR t c B 120 0 gZ (fun _ => 0) 0 = .inr (n', g') → ∀ M', Ste M' X V B L n g h H t c → Q (some (-1004)) M') : wc 88 [.inr 0] M Q := by
  obtain ⟨hcur, hh, ht, hw, h42, h43⟩ := id s
  obtain ⟨hv, hn, hL, hx⟩ := id hcur
  simp (disch := first | assumption | exact isSc1 | exact isSc3 | exact isSc5 | decide | omega) only [eX7_fault, iX7_fault_0, iX7_fault_1, iX7_fault_4, iX7_fault_5, iX7_fault_8, iX7_fault_9, iX7_fault_12]
  refine p_readFor ht.rx hx hv.1 hv.2.1 (fun q hq M1 hS h0 hq2 => ?_) (fun n' g' hq M1 hS h0 hC5 hv' hn' => ?_)
  · have kp := Kp.rd hS h0
    simp (disch := first | assumption | exact isSc1 | exact isSc3 | exact isSc5 | decide | omega) only [iX7_fault_15, iX7_fault_16, iX7_fault_17, iX7_fault_18, iX7_fault_21, iX7_fault_24, iX7_fault_27, iX7_fault_28, Nat.reduceAdd, Nat.reduceSub, Nat.reduceMul, Nat.reduceLeDiff, mm_rv_s, mm_rv_n, true_and, and_true, if_true, if_false, not_true_eq_false, not_false_eq_true, nI_add, nz_0, nz_lt0, nz_0le, nz_0lt, nz_le0, nz_lt, nz_le, nz_eq, nz_cl, nz_in, nz_sub, nz_m1, pk_mul, set_o, set_ne, up_ne, up_set, n1_1, true_or, or_true, n1_01, n0_01, bI_01, bI_01b, bI_0, isSc1, isSc3, isSc5, ln_2, ln_4, ln_6, ln_8, ln_10, ln_11, ln_12, ln_13, ln_14, ln_16, ln_17, ln_18, ln_19, ln_20, ln_21, ln_23, ln_24, ln_25, ln_27, ln_28, ln_29, nz_ne1]
    exact hQ1 q hq hq2 M1 (s.kp kp)
  · have kp := Kp.rd hS h0
    simp (disch := first | assumption | exact isSc1 | exact isSc3 | exact isSc5 | decide | omega) only [iX7_fault_15, iX7_fault_16, iX7_fault_17, iX7_fault_18, iX7_fault_21, iX7_fault_24, iX7_fault_27, iX7_fault_28, Nat.reduceAdd, Nat.reduceSub, Nat.reduceMul, Nat.reduceLeDiff, mm_rv_s, mm_rv_n, true_and, and_true, if_true, if_false, not_true_eq_false, not_false_eq_true, nI_add, nz_0, nz_lt0, nz_0le, nz_0lt, nz_le0, nz_lt, nz_le, nz_eq, nz_cl, nz_in, nz_sub, nz_m1, pk_mul, set_o, set_ne, up_ne, up_set, n1_1, true_or, or_true, n1_01, n0_01, bI_01, bI_01b, bI_0, isSc1, isSc3, isSc5, ln_2, ln_4, ln_6, ln_8, ln_10, ln_11, ln_12, ln_13, ln_14, ln_16, ln_17, ln_18, ln_19, ln_20, ln_21, ln_23, ln_24, ln_25, ln_27, ln_28, ln_29]
    exact hQ2 n' g' hq M1 (s.kp kp)
theorem z_lay {X V : Nat → Int32} (s : Ste M X V B L n g h H t c) (hQ1 : ∀ q, rdR t c B 120 0 gZ (fun _ => 0) 0 = .inl q → ∀ M', Ste M' X V B L n g h H t c → Q (some (-1002)) M')
    (hQ2 : ∀ n' g', rdR t c B 120 0 gZ (fun _ => 0) 0 = .inr (n', g') → ∀ M', Ste M' X V B L n' g' (pushN h) (pushH h H (B, L, n, g)) t c → Q (some (nI n')) M') : wc 70 [.inr 0] M Q := by
  obtain ⟨hcur, hh, ht, hw, h42, h43⟩ := id s
  obtain ⟨hv, hn, hL, hx⟩ := id hcur
  refine p_lay ht.rx hcur hh (fun q hq M1 kp => hQ1 q hq M1 (s.kp kp)) (fun n' g' hq hv' hn' M1 f2 s1 s26 s7 s8 hf hC1 => hQ2 n' g' hq M1 ?_)
  refine change_ste s s7 (by rw [s8]; exact hf) ⟨hv', hn', hL, hC1⟩ ⟨s26, s1 27 (by decide), ?_, ?_, ?_, s1 42 (by decide), s1 43 (by decide)⟩ <;> rw [s1 _ (by decide)]
end LAY
