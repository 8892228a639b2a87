/-! THE REFERENCE PUTS A SIGN IN ITS PLACE -/
theorem un (f : Nat → Int32) (k j : Nat) (x : Int32) (h : j ≠ k) : upd f k x j = f j := pk_un h
theorem us (f : Nat → Int32) (k : Nat) (x : Int32) : upd f k x k = x := pk_us
def putD (d : Nat → Int32) (k : Nat) (a b c e w v : Int32) : Nat → Int32 := upd (upd (upd (upd (upd (upd d (3 + k) a) (123 + k) b) (243 + k) c) (363 + k) e) (483 + k) w) (603 + k) v
theorem putD_lo {d : Nat → Int32} {k x : Nat} {a b c e w v : Int32} (hx : x < 3) : putD d k a b c e w v x = d x := by
  unfold putD
  rw [un _ _ _ _ (by omega), un _ _ _ _ (by omega), un _ _ _ _ (by omega), un _ _ _ _ (by omega), un _ _ _ _ (by omega), un _ _ _ _ (by omega)]
theorem putD_ne {d : Nat → Int32} {k i : Nat} {a b c e w v : Int32} {s : Sg} (hik : i ≠ k) (hi : i < 120) (hk : k < 120) (h : fD d i s) : fD (putD d k a b c e w v) i s := by
  obtain ⟨h1, h2, h3, h4, h5, h6⟩ := h
  have key : ∀ f : Nat, (f = 3 ∨ f = 123 ∨ f = 243 ∨ f = 363 ∨ f = 483 ∨ f = 603) → putD d k a b c e w v (f + i) = d (f + i) := by
    intro f hf
    unfold putD
    rw [un _ _ _ _ (by omega), un _ _ _ _ (by omega), un _ _ _ _ (by omega), un _ _ _ _ (by omega), un _ _ _ _ (by omega), un _ _ _ _ (by omega)]
  refine ⟨?_, ?_, ?_, ?_, ?_, ?_⟩
  · rw [key 3 (by omega), h1]
  · rw [key 123 (by omega), h2]
  · rw [key 243 (by omega), h3]
  · rw [key 363 (by omega), h4]
  · rw [key 483 (by omega), h5]
  · rw [key 603 (by omega), h6]
theorem putD_at {d : Nat → Int32} {k : Nat} (s : Sg) (hk : k < 120) : fD (putD d k (nI (sC s)) (nI (sB s)) (nI (sK s)) (nI (sN s)) (iZ (sW s)) (nI (sV s))) k s := by
  unfold putD
  refine ⟨?_, ?_, ?_, ?_, ?_, ?_⟩
  · rw [un _ _ _ _ (by omega), un _ _ _ _ (by omega), un _ _ _ _ (by omega), un _ _ _ _ (by omega), un _ _ _ _ (by omega), us]
  · rw [un _ _ _ _ (by omega), un _ _ _ _ (by omega), un _ _ _ _ (by omega), un _ _ _ _ (by omega), us]
  · rw [un _ _ _ _ (by omega), un _ _ _ _ (by omega), un _ _ _ _ (by omega), us]
  · rw [un _ _ _ _ (by omega), un _ _ _ _ (by omega), us]
  · rw [un _ _ _ _ (by omega), us]
  · rw [us]
/-- the order of the reference: by begins, then columns -/
def gtD (g : Nat → Sg) (s : Sg) : Nat → Bool := fun i => decide (sB s < sB (g i) ∨ (sB (g i) = sB s ∧ sC s < sC (g i)))
def okB (g : Nat → Sg) (n : Nat) : Prop := ∀ i : Nat, i < n → sC (g i) ≤ 6 ∧ sB (g i) ≤ 94
section PUTS
variable {B L n : Nat} {g : Nat → Sg} {M : mm_M} {Q : mm_Q} {s : Sg}
theorem m_puts (hD : isD (M 31) B L n g) (hn : n < 120) (hg : okB g n) (hs : sC s ≤ 6 ∧ sB s ≤ 94)
    (hQ : ∀ d2, isD d2 B L (n + 1) (insG g (pos (gtD g s) n) s) → Q (some (nI (pos (gtD g s) n))) (mm_set M 31 d2)) :
    wc 108 [.inr 30, .inl (nI (sC s)), .inl (nI (sB s)), .inl (nI (sK s)), .inl (nI (sN s)), .inl (iZ (sW s)), .inl (nI (sV s))] M Q := by
  obtain ⟨c0, c1, c2, c3⟩ := hD
  have p38 : (31 : Nat) < 38 := by decide
  have h2 : vp_in (nI 2) 723 := vp_in_nI (by decide) (by decide)
  have h2c : (nI 2).toNatClampNeg = 2 := by decide
  simp only [eX8_puts, iX8_puts_0, iX8_puts_1, iX8_puts_4, iX8_puts_5, iX8_puts_6, iX8_puts_10, iX8_puts_13, iX8_puts_14, iX8_puts_17, iX8_puts_19, iX8_puts_21, iX8_puts_22, iX8_puts_23, iX8_puts_24, iX8_puts_25, iX8_puts_26, iX8_puts_29, iX8_puts_30, iX8_puts_33, iX8_puts_35, iX8_puts_37, iX8_puts_38, iX8_puts_39, iX8_puts_40, iX8_puts_41, iX8_puts_42, iX8_puts_45, iX8_puts_46, iX8_puts_49, iX8_puts_50, iX8_puts_52, iX8_puts_53, iX8_puts_54, iX8_puts_55, iX8_puts_56, iX8_puts_57, iX8_puts_60, iX8_puts_61, iX8_puts_63, iX8_puts_65, iX8_puts_68, iX8_puts_71, iX8_puts_72, iX8_puts_75, iX8_puts_77, iX8_puts_79, iX8_puts_80, iX8_puts_81, iX8_puts_84, iX8_puts_86, iX8_puts_88, iX8_puts_89, iX8_puts_90, iX8_puts_91, iX8_puts_92, iX8_puts_93, iX8_puts_96, iX8_puts_99, iX8_puts_102, iX8_puts_105, iX8_puts_106, iX8_puts_109, iX8_puts_110, iX8_puts_112, iX8_puts_113, iX8_puts_114, iX8_puts_115, iX8_puts_116, iX8_puts_119, iX8_puts_121, iX8_puts_123, iX8_puts_124, iX8_puts_125, iX8_puts_126, iX8_puts_127, iX8_puts_130, iX8_puts_133, iX8_puts_135, iX8_puts_136, iX8_puts_137, iX8_puts_138, iX8_puts_139, iX8_puts_142, iX8_puts_145, iX8_puts_147, iX8_puts_148, iX8_puts_150, iX8_puts_151, iX8_puts_152, iX8_puts_155, iX8_puts_158, iX8_puts_160, iX8_puts_161, iX8_puts_163, iX8_puts_164, iX8_puts_165, iX8_puts_168, iX8_puts_171, iX8_puts_173, iX8_puts_174, iX8_puts_176, iX8_puts_177, iX8_puts_178, iX8_puts_181, iX8_puts_182, iX8_puts_183, iX8_puts_184, iX8_puts_185, iX8_puts_186, iX8_puts_187, iX8_puts_189, ln_31, p38, h2, h2c, true_and, c2]
  have loop : ∀ k : Nat, k ≤ n → pos (gtD g s) n = pos (gtD g s) k → ∀ (d1 : Nat → Int32) (l8 : Option mm_V), d1 0 = nI B → d1 1 = nI L → d1 2 = nI n → (∀ i, i ≤ n → i ≠ k → fD d1 i (shG g k i)) →
      wp 108 8 [some (.inr 30), some (.inl (nI (sC s))), some (.inl (nI (sB s))), some (.inl (nI (sK s))), some (.inl (nI (sN s))), some (.inl (iZ (sW s))), some (.inl (nI (sV s))), some (.inl (nI k)), l8] [] (mm_set M 31 d1) Q := by
    intro k
    have fin : ∀ k : Nat, k ≤ n → pos (gtD g s) n = k → ∀ (d1 : Nat → Int32) (l8 : Option mm_V), d1 0 = nI B → d1 1 = nI L → d1 2 = nI n → (∀ i, i ≤ n → i ≠ k → fD d1 i (shG g k i)) →
      wp 108 105 [some (.inr 30), some (.inl (nI (sC s))), some (.inl (nI (sB s))), some (.inl (nI (sK s))), some (.inl (nI (sN s))), some (.inl (iZ (sW s))), some (.inl (nI (sV s))), some (.inl (nI k)), l8] [] (mm_set M 31 d1) Q := by
      intro k hk hp d1 l8 e0 e1 e2 hM
      simp only [iX8_puts_105, iX8_puts_106, iX8_puts_109, iX8_puts_110, iX8_puts_112, iX8_puts_113, iX8_puts_114, iX8_puts_115, iX8_puts_116, iX8_puts_119, iX8_puts_121, iX8_puts_123, iX8_puts_124, iX8_puts_125, iX8_puts_126, iX8_puts_127, iX8_puts_130, iX8_puts_133, iX8_puts_135, iX8_puts_136, iX8_puts_137, iX8_puts_138, iX8_puts_139, iX8_puts_142, iX8_puts_145, iX8_puts_147, iX8_puts_148, iX8_puts_150, iX8_puts_151, iX8_puts_152, iX8_puts_155, iX8_puts_158, iX8_puts_160, iX8_puts_161, iX8_puts_163, iX8_puts_164, iX8_puts_165, iX8_puts_168, iX8_puts_171, iX8_puts_173, iX8_puts_174, iX8_puts_176, iX8_puts_177, iX8_puts_178, iX8_puts_181, iX8_puts_182, iX8_puts_183, iX8_puts_184, iX8_puts_185, iX8_puts_186, iX8_puts_187, iX8_puts_189, ln_31, p38, h2, h2c, true_and, nI_add, nz_in (3 + k) 723 (by omega) (by decide), nz_in (123 + k) 723 (by omega) (by decide), nz_in (243 + k) 723 (by omega) (by decide), nz_in (363 + k) 723 (by omega) (by decide), nz_in (483 + k) 723 (by omega) (by decide), nz_in (603 + k) 723 (by omega) (by decide),
        nz_cl (3 + k) (by omega), nz_cl (123 + k) (by omega), nz_cl (243 + k) (by omega), nz_cl (363 + k) (by omega), nz_cl (483 + k) (by omega), nz_cl (603 + k) (by omega), up_set, set_o]
      rw [← hp]
      have e9 : putD d1 k (nI (sC s)) (nI (sB s)) (nI (sK s)) (nI (sN s)) (iZ (sW s)) (nI (sV s)) 2 = nI n := by rw [putD_lo (by decide), e2]
      have e8 : upd (upd (upd (upd (upd (upd d1 (3 + k) (nI (sC s))) (123 + k) (nI (sB s))) (243 + k) (nI (sK s))) (363 + k) (nI (sN s))) (483 + k) (iZ (sW s))) (603 + k) (nI (sV s)) = putD d1 k (nI (sC s)) (nI (sB s)) (nI (sK s)) (nI (sN s)) (iZ (sW s)) (nI (sV s)) := rfl
      rw [hp, e8, e9, nI_add, ← hp]
      refine hQ _ ⟨?_, ?_, us _ _ _, fun i hi => ?_⟩
      · rw [un _ _ _ _ (by decide), putD_lo (by decide), e0]
      · rw [un _ _ _ _ (by decide), putD_lo (by decide), e1]
      · have tr : ∀ x : Nat, x ≠ 2 → upd (putD d1 (pos (gtD g s) n) (nI (sC s)) (nI (sB s)) (nI (sK s)) (nI (sN s)) (iZ (sW s)) (nI (sV s))) 2 (nI (n + 1)) x = putD d1 (pos (gtD g s) n) (nI (sC s)) (nI (sB s)) (nI (sK s)) (nI (sN s)) (iZ (sW s)) (nI (sV s)) x := fun x hx => un _ _ _ _ hx
        have base : fD (putD d1 (pos (gtD g s) n) (nI (sC s)) (nI (sB s)) (nI (sK s)) (nI (sN s)) (iZ (sW s)) (nI (sV s))) i (insG g (pos (gtD g s) n) s i) := by
          unfold insG
          by_cases hik : i = pos (gtD g s) n
          · rw [if_pos hik, ← hik]
            exact putD_at s (by omega)
          · rw [if_neg hik, hp]
            rw [hp] at hik
            exact putD_ne hik (by omega) (by omega) (hM i (by omega) hik)
        obtain ⟨b1, b2, b3, b4, b5, b6⟩ := base
        exact ⟨by rw [tr _ (by omega)]; exact b1, by rw [tr _ (by omega)]; exact b2, by rw [tr _ (by omega)]; exact b3, by rw [tr _ (by omega)]; exact b4, by rw [tr _ (by omega)]; exact b5, by rw [tr _ (by omega)]; exact b6⟩
    induction k with
    | zero =>
      intro hk hp d1 l8 e0 e1 e2 hM
      rw [iX8_puts_8]
      simp only [iX8_puts_10, nz_le0 0 (by decide), if_true]
      exact fin 0 hk (by rw [hp]; rfl) d1 l8 e0 e1 e2 hM
    | succ k ih =>
      intro hk hp d1 l8 e0 e1 e2 hM
      have hf := hM k (by omega) (by omega)
      have hsh : shG g (k + 1) k = g k := by unfold shG; rw [if_pos (by omega)]
      rw [hsh] at hf
      obtain ⟨f1, f2, f3, f4, f5, f6⟩ := hf
      have hgk := hg k (by omega)
      have a1 : 123 + (k + 1) - 1 = 123 + k := by omega
      have a2 : 3 + (k + 1) - 1 = 3 + k := by omega
      have move : wp 108 60 [some (.inr 30), some (.inl (nI (sC s))), some (.inl (nI (sB s))), some (.inl (nI (sK s))), some (.inl (nI (sN s))), some (.inl (iZ (sW s))), some (.inl (nI (sV s))), some (.inl (nI (k + 1))), l8] [] (mm_set M 31 d1) Q ↔
          wp 108 8 [some (.inr 30), some (.inl (nI (sC s))), some (.inl (nI (sB s))), some (.inl (nI (sK s))), some (.inl (nI (sN s))), some (.inl (iZ (sW s))), some (.inl (nI (sV s))), some (.inl (nI k)), some (.inl (nI 723))] [] (mm_set M 31 (putD d1 (k + 1) (nI (sC (g k))) (nI (sB (g k))) (nI (sK (g k))) (nI (sN (g k))) (iZ (sW (g k))) (nI (sV (g k))))) Q := by
        have st : ∀ (f : Nat) (d : Nat → Int32) (v : Int32), (f = 3 ∨ f = 123 ∨ f = 243 ∨ f = 363 ∨ f = 483 ∨ f = 603) → d (f + k) = v → (wp 108 63 [some (.inr 30), some (.inl (nI (sC s))), some (.inl (nI (sB s))), some (.inl (nI (sK s))), some (.inl (nI (sN s))), some (.inl (iZ (sW s))), some (.inl (nI (sV s))), some (.inl (nI (k + 1))), some (.inl (nI f))] [] (mm_set M 31 d) Q ↔
            wp 108 63 [some (.inr 30), some (.inl (nI (sC s))), some (.inl (nI (sB s))), some (.inl (nI (sK s))), some (.inl (nI (sN s))), some (.inl (iZ (sW s))), some (.inl (nI (sV s))), some (.inl (nI (k + 1))), some (.inl (nI (f + 120)))] [] (mm_set M 31 (upd d (f + (k + 1)) v)) Q) := by
          intro f d v hf hv
          have b1 : f + (k + 1) - 1 = f + k := by omega
          rw [iX8_puts_63]
          simp only [iX8_puts_65, iX8_puts_68, iX8_puts_71, iX8_puts_72, iX8_puts_75, iX8_puts_77, iX8_puts_79, iX8_puts_80, iX8_puts_81, iX8_puts_84, iX8_puts_86, iX8_puts_88, iX8_puts_89, iX8_puts_90, iX8_puts_91, iX8_puts_92, iX8_puts_93, iX8_puts_96, ln_31, p38, true_and, nI_add, nz_le 723 f (by decide) (by omega), show ¬ 723 ≤ f by omega, if_false, nz_sub (f + (k + 1)) 1 (by omega), b1, nz_in (f + k) 723 (by omega) (by decide), nz_in (f + (k + 1)) 723 (by omega) (by decide), nz_cl (f + k) (by omega), nz_cl (f + (k + 1)) (by omega), set_o, hv, up_set]
        simp only [iX8_puts_60, iX8_puts_61]
        rw [st 3 d1 (nI (sC (g k))) (by omega) f1, st 123 _ (nI (sB (g k))) (by omega) (by rw [un _ _ _ _ (by omega)]; exact f2), st 243 _ (nI (sK (g k))) (by omega) (by rw [un _ _ _ _ (by omega), un _ _ _ _ (by omega)]; exact f3), st 363 _ (nI (sN (g k))) (by omega) (by rw [un _ _ _ _ (by omega), un _ _ _ _ (by omega), un _ _ _ _ (by omega)]; exact f4), st 483 _ (iZ (sW (g k))) (by omega) (by rw [un _ _ _ _ (by omega), un _ _ _ _ (by omega), un _ _ _ _ (by omega), un _ _ _ _ (by omega)]; exact f5), st 603 _ (nI (sV (g k))) (by omega) (by rw [un _ _ _ _ (by omega), un _ _ _ _ (by omega), un _ _ _ _ (by omega), un _ _ _ _ (by omega), un _ _ _ _ (by omega)]; exact f6)]
        rw [iX8_puts_63]
        simp only [iX8_puts_65, iX8_puts_68, iX8_puts_99, iX8_puts_102, Int32.le_refl, if_true, nz_m1 (k + 1) (by omega), Nat.add_sub_cancel]
        rfl
      have back : gtD g s k = true → wp 108 60 [some (.inr 30), some (.inl (nI (sC s))), some (.inl (nI (sB s))), some (.inl (nI (sK s))), some (.inl (nI (sN s))), some (.inl (iZ (sW s))), some (.inl (nI (sV s))), some (.inl (nI (k + 1))), l8] [] (mm_set M 31 d1) Q := by
        intro hgt
        rw [move]
        refine ih (by omega) (by rw [hp, pos, if_pos hgt]) _ _ ?_ ?_ ?_ (fun i hi hik => ?_)
        · rw [putD_lo (by decide), e0]
        · rw [putD_lo (by decide), e1]
        · rw [putD_lo (by decide), e2]
        · by_cases hi2 : i = k + 1
          · subst hi2
            have e : shG g k (k + 1) = g k := by unfold shG; rw [if_neg (by omega), Nat.add_sub_cancel]
            rw [e]
            exact putD_at (g k) (by omega)
          · have e : shG g k i = shG g (k + 1) i := by
              unfold shG
              by_cases hlt : i < k
              · rw [if_pos hlt, if_pos (by omega)]
              · rw [if_neg hlt, if_neg (by omega)]
            rw [e]
            exact putD_ne hi2 (by omega) (by omega) (hM i hi hi2)
      have stay : gtD g s k = false → wp 108 105 [some (.inr 30), some (.inl (nI (sC s))), some (.inl (nI (sB s))), some (.inl (nI (sK s))), some (.inl (nI (sN s))), some (.inl (iZ (sW s))), some (.inl (nI (sV s))), some (.inl (nI (k + 1))), l8] [] (mm_set M 31 d1) Q := fun hgt => fin (k + 1) hk (by rw [hp, pos, if_neg (by rw [hgt]; decide)]) d1 l8 e0 e1 e2 hM
      rw [iX8_puts_8]
      simp only [iX8_puts_10, iX8_puts_13, iX8_puts_14, iX8_puts_17, iX8_puts_19, iX8_puts_21, iX8_puts_22, iX8_puts_23, iX8_puts_24, iX8_puts_25, iX8_puts_26, iX8_puts_29, iX8_puts_30, iX8_puts_33, iX8_puts_35, iX8_puts_37, iX8_puts_38, iX8_puts_39, iX8_puts_40, iX8_puts_41, iX8_puts_42, iX8_puts_45, iX8_puts_46, iX8_puts_49, iX8_puts_50, iX8_puts_52, iX8_puts_53, iX8_puts_54, iX8_puts_55, iX8_puts_56, iX8_puts_57, nz_le0 (k + 1) (by omega), Nat.succ_ne_zero, if_false, ln_31, p38, true_and, nI_add, nz_sub (123 + (k + 1)) 1 (by omega), nz_sub (3 + (k + 1)) 1 (by omega), a1, a2, nz_in (123 + k) 723 (by omega) (by decide), nz_in (3 + k) 723 (by omega) (by decide), nz_cl (123 + k) (by omega), nz_cl (3 + k) (by omega), set_o, f1, f2,
        nz_lt (sB s) (sB (g k)) (by omega) (by omega), nz_eq (sB (g k)) (sB s) (by omega) (by omega), nz_le (sC (g k)) (sC s) (by omega) (by omega)]
      by_cases g1 : sB s < sB (g k)
      · rw [if_pos g1]
        exact back (by simp [gtD, g1])
      · rw [if_neg g1]
        by_cases g2 : sB (g k) = sB s
        · rw [if_neg (by simpa using g2)]
          by_cases g3 : sC (g k) ≤ sC s
          · rw [if_pos g3]
            exact stay (by simp [gtD]; omega)
          · rw [if_neg g3]
            exact back (by simp [gtD]; omega)
        · rw [if_pos g2]
          exact stay (by simp [gtD]; omega)
  have := loop n (Nat.le_refl n) rfl (M 31) none c0 c1 c2 (fun i hi hne => by
    have e : shG g n i = g i := by unfold shG; rw [if_pos (by omega)]
    rw [e]
    exact c3 i (by omega))
  rw [set_id] at this
  exact this
end PUTS
