/-! THE WALK, by the class -/
def stV (b : Bool) (g : Nat → Sg) (n : Nat) (x y : Option Nat) : Int := match x with
  | none => 0
  | some i => if sW (g i) = 0 then 0 else (if y = none then 2 else 1) * unI b ((fcN g n (sB (g i)) + (sW (g i)).toNat - 1) % 8)
def plI (b : Bool) (g : Nat → Sg) (n : Nat) : Nat → Int
  | 0 => 0
  | t + 1 => plI b g n t + stV b g n (lst g n 0 (t + 1)) (lst g n 1 (t + 1)) + stV b g n (lst g n 1 (t + 1)) (lst g n 0 (t + 1))
section FL
variable {B L n : Nat} {g : Nat → Sg} {M : mm_M} {Q : mm_Q}
theorem p_floorModN {k : Nat} (h : k ≤ 15) : wc 164 [.inl (nI k), .inl (nI 8)] M Q ↔ Q (some (nI (k % 8))) M := by
  have := p_floorMod (M := M) (Q := Q) (z := (k : Int)) (by omega) (by omega)
  have e : ((k : Int) % 8).toNat = k % 8 := by omega
  rw [e] at this
  exact this
theorem p_step {b : Nat} {x y : Option Nat} (hb : b ≤ 48) (hx : ∀ i, x = some i → okS (g i) ∧ sK (g i) = 0 ∧ sB (g i) ≤ 48 ∧ M 18 (sB (g i)) = nI (fcN g n (sB (g i)))) (hy : ∀ i, y = some i → okS (g i) ∧ sB (g i) ≤ 48)
    (hQ : ∀ M', Same [16, 17] M M' → (∀ t, t ≠ b → M' 16 t = M 16 t) → (∀ t, t ≠ b → M' 17 t = M 17 t) → M' 16 b = M 16 b + iZ (stV true g n x y) → M' 17 b = M 17 b + iZ (stV false g n x y) → Q none M') : wc 50 [.inr 15, .inl (nI b), .inl (oP g x), .inl (oP g y)] M Q := by
  have z0 : ∀ v : Int32, v + iZ 0 = v := fun v => by
    have : iZ 0 = 0 := by decide
    rw [this]; exact Int32.add_zero v
  cases x with
  | none =>
    simp (disch := first | assumption | exact isSc1 | exact isSc3 | exact isSc5 | decide | omega) only [eX5_step, iX5_step_0, iX5_step_1, iX5_step_2, iX5_step_12, oP, Nat.reduceAdd, Nat.reduceSub, Nat.reduceMul, Nat.reduceLeDiff, mm_rv_s, mm_rv_n, true_and, and_true, if_true, if_false, not_true_eq_false, not_false_eq_true, nI_add, nz_0, nz_lt0, nz_0le, nz_0lt, nz_le0, nz_lt, nz_le, nz_eq, nz_cl, nz_in, nz_sub, nz_m1, pk_mul, set_o, set_ne, up_ne, up_set, n1_1, true_or, or_true, n1_01, n0_01, bI_01, bI_01b, bI_0, isSc1, isSc3, isSc5, ln_2, ln_4, ln_6, ln_8, ln_10, ln_11, ln_12, ln_13, ln_14, ln_16, ln_17, ln_18, ln_19, ln_20, ln_21, ln_23, ln_24, ln_25, ln_27, ln_28, ln_29]
    exact hQ M (Same.rf _ _) (fun _ _ => rfl) (fun _ _ => rfl) (by simp only [stV, z0]) (by simp only [stV, z0])
  | some i =>
    obtain ⟨o1, k0, b48, e18⟩ := hx i rfl
    have hb2 : sB (g i) < 128 := by omega
    have hl := (sgp_f o1 hb2).2.2.2.2.2.2.2
    have hw := o1.2.2.2.1 k0
    have eD : sD (g i) = (sW (g i)).toNat := by unfold sD; rw [if_pos k0]
    simp (disch := first | assumption | exact isSc1 | exact isSc3 | exact isSc5 | decide | omega) only [eX5_step, iX5_step_0, iX5_step_1, iX5_step_2, iX5_step_5, iX5_step_6, iX5_step_9, oP, Nat.reduceAdd, Nat.reduceSub, Nat.reduceMul, Nat.reduceLeDiff, mm_rv_s, mm_rv_n, true_and, and_true, if_true, if_false, not_true_eq_false, not_false_eq_true, nI_add, nz_0, nz_lt0, nz_0le, nz_0lt, nz_le0, nz_lt, nz_le, nz_eq, nz_cl, nz_in, nz_sub, nz_m1, pk_mul, set_o, set_ne, up_ne, up_set, n1_1, true_or, or_true, n1_01, n0_01, bI_01, bI_01b, bI_0, isSc1, isSc3, isSc5, ln_2, ln_4, ln_6, ln_8, ln_10, ln_11, ln_12, ln_13, ln_14, ln_16, ln_17, ln_18, ln_19, ln_20, ln_21, ln_23, ln_24, ln_25, ln_27, ln_28, ln_29, nz_ne1, g_directionOf o1 hb2, eD]
    by_cases w0 : sW (g i) = 0
    · simp (disch := first | assumption | exact isSc1 | exact isSc3 | exact isSc5 | decide | omega) only [iX5_step_12, w0, Int.toNat_zero, Nat.reduceAdd, Nat.reduceSub, Nat.reduceMul, Nat.reduceLeDiff, mm_rv_s, mm_rv_n, true_and, and_true, if_true, if_false, not_true_eq_false, not_false_eq_true, nI_add, nz_0, nz_lt0, nz_0le, nz_0lt, nz_le0, nz_lt, nz_le, nz_eq, nz_cl, nz_in, nz_sub, nz_m1, pk_mul, set_o, set_ne, up_ne, up_set, n1_1, true_or, or_true, n1_01, n0_01, bI_01, bI_01b, bI_0, isSc1, isSc3, isSc5, ln_2, ln_4, ln_6, ln_8, ln_10, ln_11, ln_12, ln_13, ln_14, ln_16, ln_17, ln_18, ln_19, ln_20, ln_21, ln_23, ln_24, ln_25, ln_27, ln_28, ln_29]
      exact hQ M (Same.rf _ _) (fun _ _ => rfl) (fun _ _ => rfl) (by simp only [stV, w0, if_true, z0]) (by simp only [stV, w0, if_true, z0])
    · have w1 : ¬ (sW (g i)).toNat = 0 := by omega
      have hf := fcN_lt g n (sB (g i))
      have w2 : ¬ fcN g n (sB (g i)) + (sW (g i)).toNat = 0 := by omega
      have tail : ∀ u : Nat, (u = if y = none then 2 else 1) → wp 50 25 [some (.inr 15), some (.inl (nI b)), some (.inl (nI (pk (g i)))), some (.inl (oP g y)), some (.inl (nI u)), none] [] M Q := by
        intro u hu
        simp (disch := first | assumption | exact isSc1 | exact isSc3 | exact isSc5 | decide | omega) only [iX5_step_25, iX5_step_26, iX5_step_29, iX5_step_30, iX5_step_33, iX5_step_34, iX5_step_35, iX5_step_38, iX5_step_39, iX5_step_40, iX5_step_41, iX5_step_43, Nat.reduceAdd, Nat.reduceSub, Nat.reduceMul, Nat.reduceLeDiff, mm_rv_s, mm_rv_n, true_and, and_true, if_true, if_false, not_true_eq_false, not_false_eq_true, nI_add, nz_0, nz_lt0, nz_0le, nz_0lt, nz_le0, nz_lt, nz_le, nz_eq, nz_cl, nz_in, nz_sub, nz_m1, pk_mul, set_o, set_ne, up_ne, up_set, n1_1, true_or, or_true, n1_01, n0_01, bI_01, bI_01b, bI_0, isSc1, isSc3, isSc5, ln_2, ln_4, ln_6, ln_8, ln_10, ln_11, ln_12, ln_13, ln_14, ln_16, ln_17, ln_18, ln_19, ln_20, ln_21, ln_23, ln_24, ln_25, ln_27, ln_28, ln_29, g_beginOf o1 hb2, e18, g_directionOf o1 hb2, eD, p_floorModN (k := fcN g n (sB (g i)) + (sW (g i)).toNat - 1) (show fcN g n (sB (g i)) + (sW (g i)).toNat - 1 ≤ 15 by omega)]
        have h8 : (fcN g n (sB (g i)) + (sW (g i)).toNat - 1) % 8 < 8 := Nat.mod_lt _ (by decide)
        have ex := ux_eq _ h8
        have ey := uy_eq _ h8
        have est : ∀ b', iZ (stV b' g n (some i) y) = nI u * iZ (unI b' ((fcN g n (sB (g i)) + (sW (g i)).toNat - 1) % 8)) := by
          intro b'
          rw [← iZ_nat u, iZ_mul]
          congr 1
          simp only [stV, w0, if_false]
          rw [hu]
          split <;> rfl
        generalize (fcN g n (sB (g i)) + (sW (g i)).toNat - 1) % 8 = hd at h8 ex ey est
        simp (disch := first | assumption | exact isSc1 | exact isSc3 | exact isSc5 | decide | omega) only [iX5_step_46, iX5_step_48, iX5_step_49, iX5_step_52, iX5_step_53, iX5_step_54, iX5_step_55, iX5_step_57, iX5_step_60, iX5_step_62, iX5_step_63, iX5_step_64, iX5_step_65, iX5_step_66, iX5_step_67, iX5_step_70, iX5_step_71, iX5_step_72, iX5_step_73, iX5_step_75, iX5_step_78, iX5_step_80, iX5_step_81, iX5_step_82, iX5_step_83, iX5_step_84, Nat.reduceAdd, Nat.reduceSub, Nat.reduceMul, Nat.reduceLeDiff, mm_rv_s, mm_rv_n, true_and, and_true, if_true, if_false, not_true_eq_false, not_false_eq_true, nI_add, nz_0, nz_lt0, nz_0le, nz_0lt, nz_le0, nz_lt, nz_le, nz_eq, nz_cl, nz_in, nz_sub, nz_m1, pk_mul, set_o, set_ne, up_ne, up_set, n1_1, true_or, or_true, n1_01, n0_01, bI_01, bI_01b, bI_0, isSc1, isSc3, isSc5, ln_2, ln_4, ln_6, ln_8, ln_10, ln_11, ln_12, ln_13, ln_14, ln_16, ln_17, ln_18, ln_19, ln_20, ln_21, ln_23, ln_24, ln_25, ln_27, ln_28, ln_29, ex, ey]
        refine hQ _ (((Same.rf [16, 17] M).up (by decide) _ _).up (by decide) _ _) (fun t ht => ?_) (fun t ht => ?_) ?_ ?_
        · rw [up_ne _ _ _ (by decide), up_o, un _ _ _ _ ht]
        · rw [up_o, un _ _ _ _ ht, up_ne _ _ _ (by decide)]
        · rw [up_ne _ _ _ (by decide), up_o, us, est]
        · rw [up_o, us, est]
      cases y with
      | none =>
        have t2 := tail 2 rfl
        simp (disch := first | assumption | exact isSc1 | exact isSc3 | exact isSc5 | decide | omega) only [iX5_step_13, iX5_step_14, iX5_step_15, iX5_step_18, iX5_step_19, iX5_step_22, iX5_step_23, oP, w1, Nat.reduceAdd, Nat.reduceSub, Nat.reduceMul, Nat.reduceLeDiff, mm_rv_s, mm_rv_n, true_and, and_true, if_true, if_false, not_true_eq_false, not_false_eq_true, nI_add, nz_0, nz_lt0, nz_0le, nz_0lt, nz_le0, nz_lt, nz_le, nz_eq, nz_cl, nz_in, nz_sub, nz_m1, pk_mul, set_o, set_ne, up_ne, up_set, n1_1, true_or, or_true, n1_01, n0_01, bI_01, bI_01b, bI_0, isSc1, isSc3, isSc5, ln_2, ln_4, ln_6, ln_8, ln_10, ln_11, ln_12, ln_13, ln_14, ln_16, ln_17, ln_18, ln_19, ln_20, ln_21, ln_23, ln_24, ln_25, ln_27, ln_28, ln_29] at t2 ⊢
        exact t2
      | some j =>
        obtain ⟨o3, b3⟩ := hy j rfl
        have hl2 := (sgp_f o3 (show sB (g j) < 128 by omega)).2.2.2.2.2.2.2
        have t2 := tail 1 (by simp)
        simp (disch := first | assumption | exact isSc1 | exact isSc3 | exact isSc5 | decide | omega) only [iX5_step_13, iX5_step_14, iX5_step_15, iX5_step_18, iX5_step_19, iX5_step_22, iX5_step_23, oP, w1, Nat.reduceAdd, Nat.reduceSub, Nat.reduceMul, Nat.reduceLeDiff, mm_rv_s, mm_rv_n, true_and, and_true, if_true, if_false, not_true_eq_false, not_false_eq_true, nI_add, nz_0, nz_lt0, nz_0le, nz_0lt, nz_le0, nz_lt, nz_le, nz_eq, nz_cl, nz_in, nz_sub, nz_m1, pk_mul, set_o, set_ne, up_ne, up_set, n1_1, true_or, or_true, n1_01, n0_01, bI_01, bI_01b, bI_0, isSc1, isSc3, isSc5, ln_2, ln_4, ln_6, ln_8, ln_10, ln_11, ln_12, ln_13, ln_14, ln_16, ln_17, ln_18, ln_19, ln_20, ln_21, ln_23, ln_24, ln_25, ln_27, ln_28, ln_29, nz_ne1] at t2 ⊢
        exact t2
theorem lst_ok (hv : Val B n g) {c t i : Nat} (h : lst g n c t = some i) : i < n ∧ okS (g i) ∧ sK (g i) = 0 ∧ sC (g i) = c ∧ seN (g i) = t ∧ sB (g i) < t := by
  obtain ⟨h1, h2, h3⟩ := lastF_some h
  unfold mvP at h2
  simp only [decide_eq_true_eq] at h2
  have o := (hv.2.2.2.1 i h1).1
  have := (okS_b o).2.2.1
  refine ⟨h1, o, h2.1, h2.2.1, h2.2.2, ?_⟩
  have := h2.2.2
  unfold seN at this
  omega
/-- the class's walk -/
def Wkd (M : mm_M) (B n : Nat) (g : Nat → Sg) : Prop := (∀ t, t ≤ B → M 18 t = nI (fcN g n t)) ∧ (∀ t, t ≤ B → M 16 t = iZ (plI true g n t)) ∧ (∀ t, t ≤ B → M 17 t = iZ (plI false g n t))
theorem p_follow (hC : isC M 1 B L n g) (hv : Val B n g) (hn : n ≤ 60) (hw : Wlk M) (hQ : ∀ M', Same [16, 17, 18, 19, 20, 21] M M' → Wlk M' → Wkd M' B n g → Q none M') : wc 47 [.inr 15, .inr 1] M Q := by
  obtain ⟨x0, x1, x2, x3⟩ := id hC
  have w1 := hv.1
  have w2 := hv.2.1
  have v1 := hv.2.2.2.1
  have hse : ∀ i, i < n → seN (g i) ≤ B := fun i hi => (v1 i hi).2
  -- the second loop
  have second : ∀ M2 : mm_M, Same [19, 20, 21] M M2 → (∀ t, t ≤ 48 → M2 19 t = iZ (tnV g n t)) → (∀ t, t ≤ 48 → M2 20 t = oP g (lst g n 0 t)) → (∀ t, t ≤ 48 → M2 21 t = oP g (lst g n 1 t)) → ∀ d b : Nat, b + d = B + 1 → 1 ≤ b → ∀ M3 : mm_M, Same [16, 17, 18] M2 M3 → (∀ t, t < b → M3 18 t = nI (fcN g n t)) → (∀ t, t < b → M3 16 t = iZ (plI true g n t)) → (∀ t, t < b → M3 17 t = iZ (plI false g n t)) →
      wp 47 51 [some (.inr 15), some (.inr 1), some (.inl (nI b))] [] M3 Q := by
    intro M2 hS2 t19 t20 t21 d
    induction d with
    | zero =>
      intro b hb hb1 M3 hS3 a1 a2 a3
      have e1 : M3 1 0 = nI B := by rw [hS3 1 (by decide), hS2 1 (by decide), x0]
      rw [iX5_follow_51]
      simp (disch := first | assumption | exact isSc1 | exact isSc3 | exact isSc5 | decide | omega) only [iX5_follow_52, iX5_follow_53, iX5_follow_56, iX5_follow_153, Nat.reduceAdd, Nat.reduceSub, Nat.reduceMul, Nat.reduceLeDiff, mm_rv_s, mm_rv_n, true_and, and_true, if_true, if_false, not_true_eq_false, not_false_eq_true, nI_add, nz_0, nz_lt0, nz_0le, nz_0lt, nz_le0, nz_lt, nz_le, nz_eq, nz_cl, nz_in, nz_sub, nz_m1, pk_mul, set_o, set_ne, up_ne, up_set, n1_1, true_or, or_true, n1_01, n0_01, bI_01, bI_01b, bI_0, isSc1, isSc3, isSc5, ln_2, ln_4, ln_6, ln_8, ln_10, ln_11, ln_12, ln_13, ln_14, ln_16, ln_17, ln_18, ln_19, ln_20, ln_21, ln_23, ln_24, ln_25, ln_27, ln_28, ln_29, e1, show B < b by omega]
      refine hQ M3 ((hS2.wk (by decide)).tr (hS3.wk (by decide))) ⟨?_, ?_, ?_⟩ ⟨fun t ht => a1 t (by omega), fun t ht => a2 t (by omega), fun t ht => a3 t (by omega)⟩
      · exact a2 0 (by omega)
      · exact a3 0 (by omega)
      · have := a1 0 (by omega)
        unfold fcN at this
        rw [facI_0 hv] at this
        exact this
    | succ d ih =>
      intro b hb hb1 M3 hS3 a1 a2 a3
      have hbB : b ≤ B := by omega
      have e1 : M3 1 0 = nI B := by rw [hS3 1 (by decide), hS2 1 (by decide), x0]
      have e18 := a1 (b - 1) (by omega)
      have e16 := a2 (b - 1) (by omega)
      have e17 := a3 (b - 1) (by omega)
      have e19 : M3 19 b = iZ (tnV g n b) := by rw [hS3 19 (by decide), t19 b (by omega)]
      have e20 : M3 20 b = oP g (lst g n 0 b) := by rw [hS3 20 (by decide), t20 b (by omega)]
      have e21 : M3 21 b = oP g (lst g n 1 b) := by rw [hS3 21 (by decide), t21 b (by omega)]
      obtain ⟨c, rfl⟩ : ∃ c, b = c + 1 := ⟨b - 1, by omega⟩
      rw [Nat.add_sub_cancel] at e18 e16 e17
      have hfc : fcN g n (c + 1) = ((((fcN g n c : Nat) : Int) + tnV g n (c + 1)) % 8).toNat := by
        unfold fcN
        rw [facI_s hv]
        omega
      have htn := tnV_le hv (c + 1)
      have hf8 := fcN_lt g n c
      have esum : nI (fcN g n c) + iZ (tnV g n (c + 1)) = iZ (((fcN g n c : Nat) : Int) + tnV g n (c + 1)) := by rw [← iZ_nat, iZ_add]
      rw [iX5_follow_51]
      simp (disch := first | assumption | exact isSc1 | exact isSc3 | exact isSc5 | decide | omega) only [iX5_follow_52, iX5_follow_53, iX5_follow_56, iX5_follow_59, iX5_follow_60, iX5_follow_63, iX5_follow_64, iX5_follow_65, iX5_follow_68, iX5_follow_69, iX5_follow_70, iX5_follow_71, iX5_follow_72, iX5_follow_73, iX5_follow_76, iX5_follow_77, iX5_follow_78, iX5_follow_79, iX5_follow_81, Nat.reduceAdd, Nat.reduceSub, Nat.reduceMul, Nat.reduceLeDiff, mm_rv_s, mm_rv_n, true_and, and_true, if_true, if_false, not_true_eq_false, not_false_eq_true, nI_add, nz_0, nz_lt0, nz_0le, nz_0lt, nz_le0, nz_lt, nz_le, nz_eq, nz_cl, nz_in, nz_sub, nz_m1, pk_mul, set_o, set_ne, up_ne, up_set, n1_1, true_or, or_true, n1_01, n0_01, bI_01, bI_01b, bI_0, isSc1, isSc3, isSc5, ln_2, ln_4, ln_6, ln_8, ln_10, ln_11, ln_12, ln_13, ln_14, ln_16, ln_17, ln_18, ln_19, ln_20, ln_21, ln_23, ln_24, ln_25, ln_27, ln_28, ln_29, e1, show ¬ B < c + 1 by omega, Nat.add_sub_cancel, e18, e19, esum, p_floorMod (z := ((fcN g n c : Nat) : Int) + tnV g n (c + 1)) (by omega) (by omega)]
      rw [← hfc]
      simp (disch := first | assumption | exact isSc1 | exact isSc3 | exact isSc5 | decide | omega) only [iX5_follow_84, iX5_follow_85, iX5_follow_86, iX5_follow_89, iX5_follow_90, iX5_follow_91, iX5_follow_94, iX5_follow_95, iX5_follow_96, iX5_follow_97, iX5_follow_98, iX5_follow_99, iX5_follow_100, iX5_follow_103, iX5_follow_104, iX5_follow_105, iX5_follow_108, iX5_follow_109, iX5_follow_110, iX5_follow_111, iX5_follow_112, Nat.reduceAdd, Nat.reduceSub, Nat.reduceMul, Nat.reduceLeDiff, mm_rv_s, mm_rv_n, true_and, and_true, if_true, if_false, not_true_eq_false, not_false_eq_true, nI_add, nz_0, nz_lt0, nz_0le, nz_0lt, nz_le0, nz_lt, nz_le, nz_eq, nz_cl, nz_in, nz_sub, nz_m1, pk_mul, set_o, set_ne, up_ne, up_set, n1_1, true_or, or_true, n1_01, n0_01, bI_01, bI_01b, bI_0, isSc1, isSc3, isSc5, ln_2, ln_4, ln_6, ln_8, ln_10, ln_11, ln_12, ln_13, ln_14, ln_16, ln_17, ln_18, ln_19, ln_20, ln_21, ln_23, ln_24, ln_25, ln_27, ln_28, ln_29, Nat.add_sub_cancel, e16, e17]
      have f18 : ∀ t, t < c + 1 + 1 → mm_up (mm_up (mm_up M3 18 (c + 1) (nI (fcN g n (c + 1)))) 16 (c + 1) (iZ (plI true g n c))) 17 (c + 1) (iZ (plI false g n c)) 18 t = nI (fcN g n t) := by
        intro t ht
        rw [up_ne _ _ _ (by decide), up_ne _ _ _ (by decide), up_o]
        by_cases e : t = c + 1
        · rw [e, us]
        · rw [un _ _ _ _ e]; exact a1 t (by omega)
      have f16 : ∀ t, t < c + 1 → mm_up (mm_up (mm_up M3 18 (c + 1) (nI (fcN g n (c + 1)))) 16 (c + 1) (iZ (plI true g n c))) 17 (c + 1) (iZ (plI false g n c)) 16 t = iZ (plI true g n t) := by
        intro t ht
        rw [up_ne _ _ _ (by decide), up_o, un _ _ _ _ (by omega), up_ne _ _ _ (by decide)]
        exact a2 t ht
      have f16b : mm_up (mm_up (mm_up M3 18 (c + 1) (nI (fcN g n (c + 1)))) 16 (c + 1) (iZ (plI true g n c))) 17 (c + 1) (iZ (plI false g n c)) 16 (c + 1) = iZ (plI true g n c) := by
        rw [up_ne _ _ _ (by decide), up_o, us]
      have f17 : ∀ t, t < c + 1 → mm_up (mm_up (mm_up M3 18 (c + 1) (nI (fcN g n (c + 1)))) 16 (c + 1) (iZ (plI true g n c))) 17 (c + 1) (iZ (plI false g n c)) 17 t = iZ (plI false g n t) := by
        intro t ht
        rw [up_o, un _ _ _ _ (by omega), up_ne _ _ _ (by decide), up_ne _ _ _ (by decide)]
        exact a3 t ht
      have f17b : mm_up (mm_up (mm_up M3 18 (c + 1) (nI (fcN g n (c + 1)))) 16 (c + 1) (iZ (plI true g n c))) 17 (c + 1) (iZ (plI false g n c)) 17 (c + 1) = iZ (plI false g n c) := by
        rw [up_o, us]
      have f20 : mm_up (mm_up (mm_up M3 18 (c + 1) (nI (fcN g n (c + 1)))) 16 (c + 1) (iZ (plI true g n c))) 17 (c + 1) (iZ (plI false g n c)) 20 (c + 1) = oP g (lst g n 0 (c + 1)) := by
        rw [up_ne _ _ _ (by decide), up_ne _ _ _ (by decide), up_ne _ _ _ (by decide), e20]
      have f21 : mm_up (mm_up (mm_up M3 18 (c + 1) (nI (fcN g n (c + 1)))) 16 (c + 1) (iZ (plI true g n c))) 17 (c + 1) (iZ (plI false g n c)) 21 (c + 1) = oP g (lst g n 1 (c + 1)) := by
        rw [up_ne _ _ _ (by decide), up_ne _ _ _ (by decide), up_ne _ _ _ (by decide), e21]
      have hS4 : Same [16, 17, 18] M2 (mm_up (mm_up (mm_up M3 18 (c + 1) (nI (fcN g n (c + 1)))) 16 (c + 1) (iZ (plI true g n c))) 17 (c + 1) (iZ (plI false g n c))) := ((hS3.up (by decide) _ _).up (by decide) _ _).up (by decide) _ _
      generalize mm_up (mm_up (mm_up M3 18 (c + 1) (nI (fcN g n (c + 1)))) 16 (c + 1) (iZ (plI true g n c))) 17 (c + 1) (iZ (plI false g n c)) = M4 at f18 f16 f16b f17 f17b f20 f21 hS4 ⊢
      simp (disch := first | assumption | exact isSc1 | exact isSc3 | exact isSc5 | decide | omega) only [iX5_follow_113, iX5_follow_114, iX5_follow_115, iX5_follow_116, iX5_follow_119, iX5_follow_120, iX5_follow_121, iX5_follow_122, iX5_follow_125, iX5_follow_126, iX5_follow_127, Nat.reduceAdd, Nat.reduceSub, Nat.reduceMul, Nat.reduceLeDiff, mm_rv_s, mm_rv_n, true_and, and_true, if_true, if_false, not_true_eq_false, not_false_eq_true, nI_add, nz_0, nz_lt0, nz_0le, nz_0lt, nz_le0, nz_lt, nz_le, nz_eq, nz_cl, nz_in, nz_sub, nz_m1, pk_mul, set_o, set_ne, up_ne, up_set, n1_1, true_or, or_true, n1_01, n0_01, bI_01, bI_01b, bI_0, isSc1, isSc3, isSc5, ln_2, ln_4, ln_6, ln_8, ln_10, ln_11, ln_12, ln_13, ln_14, ln_16, ln_17, ln_18, ln_19, ln_20, ln_21, ln_23, ln_24, ln_25, ln_27, ln_28, ln_29, f20, f21]
      have okx : ∀ (cc : Nat) (M5 : mm_M), M5 18 = M4 18 → ∀ i, lst g n cc (c + 1) = some i → okS (g i) ∧ sK (g i) = 0 ∧ sB (g i) ≤ 48 ∧ M5 18 (sB (g i)) = nI (fcN g n (sB (g i))) := fun cc M5 e5 i hi => by
        obtain ⟨i1, i2, i3, i4, i5, i6⟩ := lst_ok hv hi
        exact ⟨i2, i3, by omega, by rw [e5]; exact f18 _ (by omega)⟩
      have oky : ∀ (cc : Nat) i, lst g n cc (c + 1) = some i → okS (g i) ∧ sB (g i) ≤ 48 := fun cc i hi => by
        obtain ⟨i1, i2, i3, i4, i5, i6⟩ := lst_ok hv hi
        exact ⟨i2, by omega⟩
      refine p_step (by omega) (okx 0 M4 rfl) (oky 1) (fun M5 hS5 g16 g17 g16b g17b => ?_)
      have h20 : M5 20 (c + 1) = oP g (lst g n 0 (c + 1)) := by rw [hS5 20 (by decide), f20]
      have h21 : M5 21 (c + 1) = oP g (lst g n 1 (c + 1)) := by rw [hS5 21 (by decide), f21]
      simp (disch := first | assumption | exact isSc1 | exact isSc3 | exact isSc5 | decide | omega) only [iX5_follow_130, iX5_follow_131, iX5_follow_132, iX5_follow_133, iX5_follow_136, iX5_follow_137, iX5_follow_138, iX5_follow_139, iX5_follow_142, iX5_follow_143, iX5_follow_144, Nat.reduceAdd, Nat.reduceSub, Nat.reduceMul, Nat.reduceLeDiff, mm_rv_s, mm_rv_n, true_and, and_true, if_true, if_false, not_true_eq_false, not_false_eq_true, nI_add, nz_0, nz_lt0, nz_0le, nz_0lt, nz_le0, nz_lt, nz_le, nz_eq, nz_cl, nz_in, nz_sub, nz_m1, pk_mul, set_o, set_ne, up_ne, up_set, n1_1, true_or, or_true, n1_01, n0_01, bI_01, bI_01b, bI_0, isSc1, isSc3, isSc5, ln_2, ln_4, ln_6, ln_8, ln_10, ln_11, ln_12, ln_13, ln_14, ln_16, ln_17, ln_18, ln_19, ln_20, ln_21, ln_23, ln_24, ln_25, ln_27, ln_28, ln_29, h20, h21]
      refine p_step (by omega) (okx 1 M5 (hS5 18 (by decide))) (oky 0) (fun M6 hS6 k16 k17 k16b k17b => ?_)
      simp (disch := first | assumption | exact isSc1 | exact isSc3 | exact isSc5 | decide | omega) only [iX5_follow_147, iX5_follow_150, Nat.reduceAdd, Nat.reduceSub, Nat.reduceMul, Nat.reduceLeDiff, mm_rv_s, mm_rv_n, true_and, and_true, if_true, if_false, not_true_eq_false, not_false_eq_true, nI_add, nz_0, nz_lt0, nz_0le, nz_0lt, nz_le0, nz_lt, nz_le, nz_eq, nz_cl, nz_in, nz_sub, nz_m1, pk_mul, set_o, set_ne, up_ne, up_set, n1_1, true_or, or_true, n1_01, n0_01, bI_01, bI_01b, bI_0, isSc1, isSc3, isSc5, ln_2, ln_4, ln_6, ln_8, ln_10, ln_11, ln_12, ln_13, ln_14, ln_16, ln_17, ln_18, ln_19, ln_20, ln_21, ln_23, ln_24, ln_25, ln_27, ln_28, ln_29]
      refine ih (c + 1 + 1) (by omega) (by omega) M6 ((hS4.tr (hS5.wk (by decide))).tr (hS6.wk (by decide))) (fun t ht => ?_) (fun t ht => ?_) (fun t ht => ?_)
      · rw [hS6 18 (by decide), hS5 18 (by decide)]; exact f18 t ht
      · by_cases e : t = c + 1
        · rw [e, k16b, g16b, f16b, iZ_add, iZ_add]; rfl
        · rw [k16 t e, g16 t e]; exact f16 t (by omega)
      · by_cases e : t = c + 1
        · rw [e, k17b, g17b, f17b, iZ_add, iZ_add]; rfl
        · rw [k17 t e, g17 t e]; exact f17 t (by omega)
  -- the first loop
  have first : ∀ d i : Nat, i + d = n → ∀ M2 : mm_M, Same [19, 20, 21] M M2 → (∀ t, t ≤ 48 → M2 19 t = iZ (tnV g i t)) → (∀ t, t ≤ 48 → M2 20 t = oP g (lst g i 0 t)) → (∀ t, t ≤ 48 → M2 21 t = oP g (lst g i 1 t)) → wp 47 26 [some (.inr 15), some (.inr 1), some (.inl (nI i))] [] M2 Q := by
    intro d
    induction d with
    | zero =>
      intro i hi M2 hS2 t19 t20 t21
      have hi : i = n := by omega
      subst hi
      have e12 : M2 1 2 = nI i := by rw [hS2 1 (by decide), x2]
      rw [iX5_follow_26]
      simp (disch := first | assumption | exact isSc1 | exact isSc3 | exact isSc5 | decide | omega) only [iX5_follow_27, iX5_follow_28, iX5_follow_31, iX5_follow_49, iX5_follow_50, Nat.reduceAdd, Nat.reduceSub, Nat.reduceMul, Nat.reduceLeDiff, mm_rv_s, mm_rv_n, true_and, and_true, if_true, if_false, not_true_eq_false, not_false_eq_true, nI_add, nz_0, nz_lt0, nz_0le, nz_0lt, nz_le0, nz_lt, nz_le, nz_eq, nz_cl, nz_in, nz_sub, nz_m1, pk_mul, set_o, set_ne, up_ne, up_set, n1_1, true_or, or_true, n1_01, n0_01, bI_01, bI_01b, bI_0, isSc1, isSc3, isSc5, ln_2, ln_4, ln_6, ln_8, ln_10, ln_11, ln_12, ln_13, ln_14, ln_16, ln_17, ln_18, ln_19, ln_20, ln_21, ln_23, ln_24, ln_25, ln_27, ln_28, ln_29, e12, Nat.le_refl]
      refine second M2 hS2 t19 t20 t21 B 1 (by omega) (by omega) M2 (Same.rf _ _) (fun t ht => ?_) (fun t ht => ?_) (fun t ht => ?_)
      · have : t = 0 := by omega
        subst this
        rw [hS2 18 (by decide), hw.2.2]
        unfold fcN
        rw [facI_0 hv]
        rfl
      · have : t = 0 := by omega
        subst this
        rw [hS2 16 (by decide), hw.1]
        rfl
      · have : t = 0 := by omega
        subst this
        rw [hS2 17 (by decide), hw.2.1]
        rfl
    | succ d ih =>
      intro i hi M2 hS2 t19 t20 t21
      have hin : i < n := by omega
      have e12 : M2 1 2 = nI n := by rw [hS2 1 (by decide), x2]
      have e2 : M2 2 i = nI (pk (g i)) := by rw [hS2 2 (by decide), x3 i hin]
      obtain ⟨o1, o2⟩ := v1 i hin
      have hs := hse i hin
      rw [iX5_follow_26]
      simp (disch := first | assumption | exact isSc1 | exact isSc3 | exact isSc5 | decide | omega) only [iX5_follow_27, iX5_follow_28, iX5_follow_31, iX5_follow_34, iX5_follow_35, iX5_follow_36, iX5_follow_37, iX5_follow_40, Nat.reduceAdd, Nat.reduceSub, Nat.reduceMul, Nat.reduceLeDiff, mm_rv_s, mm_rv_n, true_and, and_true, if_true, if_false, not_true_eq_false, not_false_eq_true, nI_add, nz_0, nz_lt0, nz_0le, nz_0lt, nz_le0, nz_lt, nz_le, nz_eq, nz_cl, nz_in, nz_sub, nz_m1, pk_mul, set_o, set_ne, up_ne, up_set, n1_1, true_or, or_true, n1_01, n0_01, bI_01, bI_01b, bI_0, isSc1, isSc3, isSc5, ln_2, ln_4, ln_6, ln_8, ln_10, ln_11, ln_12, ln_13, ln_14, ln_16, ln_17, ln_18, ln_19, ln_20, ln_21, ln_23, ln_24, ln_25, ln_27, ln_28, ln_29, e12, show ¬ n ≤ i by omega, p_at isSc1 e12, e2, p_noteEnd o1 (show seN (g i) ≤ 48 by omega)]
      simp (disch := first | assumption | exact isSc1 | exact isSc3 | exact isSc5 | decide | omega) only [iX5_follow_43, iX5_follow_46, Nat.reduceAdd, Nat.reduceSub, Nat.reduceMul, Nat.reduceLeDiff, mm_rv_s, mm_rv_n, true_and, and_true, if_true, if_false, not_true_eq_false, not_false_eq_true, nI_add, nz_0, nz_lt0, nz_0le, nz_0lt, nz_le0, nz_lt, nz_le, nz_eq, nz_cl, nz_in, nz_sub, nz_m1, pk_mul, set_o, set_ne, up_ne, up_set, n1_1, true_or, or_true, n1_01, n0_01, bI_01, bI_01b, bI_0, isSc1, isSc3, isSc5, ln_2, ln_4, ln_6, ln_8, ln_10, ln_11, ln_12, ln_13, ln_14, ln_16, ln_17, ln_18, ln_19, ln_20, ln_21, ln_23, ln_24, ln_25, ln_27, ln_28, ln_29]
      have l19 : ∀ t, tnV g (i + 1) t = if sK (g i) = 2 ∧ seN (g i) = t then sW (g i) else tnV g i t := by
        intro t
        unfold tnV
        simp only [lastF, tnP, decide_eq_true_eq]
        split <;> rfl
      have l20 : ∀ c t, lst g (i + 1) c t = if sK (g i) = 0 ∧ sC (g i) = c ∧ seN (g i) = t then some i else lst g i c t := by
        intro c t
        unfold lst
        simp only [lastF, mvP, decide_eq_true_eq]
      unfold nEnd
      by_cases k2 : sK (g i) = 2
      · rw [if_pos k2]
        refine ih (i + 1) (by omega) _ (hS2.up (by decide) _ _) (fun t ht => ?_) (fun t ht => ?_) (fun t ht => ?_)
        · rw [up_o, l19]
          by_cases e : t = seN (g i)
          · rw [e, us, if_pos ⟨k2, rfl⟩]
          · rw [un _ _ _ _ e, if_neg (fun z => e z.2.symm)]; exact t19 t ht
        · rw [up_ne _ _ _ (by decide), l20, if_neg (by omega)]; exact t20 t ht
        · rw [up_ne _ _ _ (by decide), l20, if_neg (by omega)]; exact t21 t ht
      · rw [if_neg k2]
        have keep19 : ∀ t, tnV g (i + 1) t = tnV g i t := fun t => by rw [l19, if_neg (fun z => k2 z.1)]
        by_cases a0 : sK (g i) = 0 ∧ sC (g i) = 0
        · rw [if_pos a0]
          refine ih (i + 1) (by omega) _ (hS2.up (by decide) _ _) (fun t ht => ?_) (fun t ht => ?_) (fun t ht => ?_)
          · rw [up_ne _ _ _ (by decide), keep19]; exact t19 t ht
          · rw [up_o, l20]
            by_cases e : t = seN (g i)
            · rw [e, us, if_pos ⟨a0.1, a0.2, rfl⟩]; rfl
            · rw [un _ _ _ _ e, if_neg (fun z => e z.2.2.symm)]; exact t20 t ht
          · rw [up_ne _ _ _ (by decide), l20, if_neg (by omega)]; exact t21 t ht
        · rw [if_neg a0]
          by_cases a1 : sK (g i) = 0 ∧ sC (g i) = 1
          · rw [if_pos a1]
            refine ih (i + 1) (by omega) _ (hS2.up (by decide) _ _) (fun t ht => ?_) (fun t ht => ?_) (fun t ht => ?_)
            · rw [up_ne _ _ _ (by decide), keep19]; exact t19 t ht
            · rw [up_ne _ _ _ (by decide), l20, if_neg (by omega)]; exact t20 t ht
            · rw [up_o, l20]
              by_cases e : t = seN (g i)
              · rw [e, us, if_pos ⟨a1.1, a1.2, rfl⟩]; rfl
              · rw [un _ _ _ _ e, if_neg (fun z => e z.2.2.symm)]; exact t21 t ht
          · rw [if_neg a1]
            refine ih (i + 1) (by omega) _ hS2 (fun t ht => ?_) (fun t ht => ?_) (fun t ht => ?_)
            · rw [keep19]; exact t19 t ht
            · rw [l20, if_neg (fun z => a0 ⟨z.1, z.2.1⟩)]; exact t20 t ht
            · rw [l20, if_neg (fun z => a1 ⟨z.1, z.2.1⟩)]; exact t21 t ht
  simp (disch := first | assumption | exact isSc1 | exact isSc3 | exact isSc5 | decide | omega) only [eX5_follow, iX5_follow_0, iX5_follow_1, iX5_follow_4, iX5_follow_5, iX5_follow_8, iX5_follow_9, iX5_follow_12, iX5_follow_13, iX5_follow_16, iX5_follow_17, iX5_follow_20, iX5_follow_21, iX5_follow_24, iX5_follow_25, Nat.reduceAdd, Nat.reduceSub, Nat.reduceMul, Nat.reduceLeDiff, mm_rv_s, mm_rv_n, true_and, and_true, if_true, if_false, not_true_eq_false, not_false_eq_true, nI_add, nz_0, nz_lt0, nz_0le, nz_0lt, nz_le0, nz_lt, nz_le, nz_eq, nz_cl, nz_in, nz_sub, nz_m1, pk_mul, set_o, set_ne, up_ne, up_set, n1_1, true_or, or_true, n1_01, n0_01, bI_01, bI_01b, bI_0, isSc1, isSc3, isSc5, ln_2, ln_4, ln_6, ln_8, ln_10, ln_11, ln_12, ln_13, ln_14, ln_16, ln_17, ln_18, ln_19, ln_20, ln_21, ln_23, ln_24, ln_25, ln_27, ln_28, ln_29, p_fill]
  refine first n 0 (by omega) _ ((((Same.rf [19, 20, 21] M).set (by decide) _).set (by decide) _).set (by decide) _) (fun t ht => ?_) (fun t ht => ?_) (fun t ht => ?_)
  · rw [set_ne _ _ (by decide), set_ne _ _ (by decide), set_o]
    unfold fillA
    rw [if_pos (by omega)]
    rfl
  · rw [set_ne _ _ (by decide), set_o]
    unfold fillA
    rw [if_pos (by omega)]
    rfl
  · rw [set_o]
    unfold fillA
    rw [if_pos (by omega)]
    rfl
end FL

