/-! AN ITEM OF THE TEXT, by the reference -/
theorem it_m {t p col b : Nat} {c : Nat → Nat} (h : hcN t c (p + 1) = 109) (hc : col ≤ 6) (hb : b ≤ 48) : itS t c col b p = (if okM t c col (p + 2) then lenV t c (p + 4) else 0) ∧ itE t c p = lenP t c (p + 4) := by
  have l1 := lenV_le t c (p + 2 + 2)
  have l2 := lvN_le t c (p + 2 + 1)
  refine ⟨?_, ?_⟩
  · unfold itS rSign rMove
    simp only [h, Nat.reduceEqDiff, if_false, if_true]
    by_cases k : okM t c col (p + 2)
    · rw [if_pos k, if_pos k]
      exact pkN_sp (by omega) (by omega) (by omega) (by decide) (by have := k.2.1; omega) (by omega) (by decide)
    · rw [if_neg k, if_neg k]; rfl
  · unfold itE rPos
    simp only [h, Nat.reduceEqDiff, if_false, if_true]
theorem it_k {t p col b : Nat} {c : Nat → Nat} (h : hcN t c (p + 1) = 107) (hc : col ≤ 6) (hb : b ≤ 48) : itS t c col b p = 1 ∧ itE t c p = p + 2 := by
  refine ⟨?_, ?_⟩
  · unfold itS rSign
    simp only [h, Nat.reduceEqDiff, if_false, if_true]
    exact pkN_sp (by omega) (by omega) (by decide) (by decide) (by decide) (by decide) (by decide)
  · unfold itE rPos
    simp only [h, Nat.reduceEqDiff, if_false, if_true]
theorem it_r {t p col b : Nat} {c : Nat → Nat} (h : hcN t c (p + 1) = 114) (hc : col ≤ 6) (hb : b ≤ 48) : itS t c col b p = lenV t c (p + 2) ∧ itE t c p = lenP t c (p + 2) := by
  have l1 := lenV_le t c (p + 2)
  refine ⟨?_, ?_⟩
  · unfold itS rSign
    simp only [h, Nat.reduceEqDiff, if_false, if_true]
    exact pkN_sp (by omega) (by omega) (by omega) (by decide) (by decide) (by decide) (by decide)
  · unfold itE rPos
    simp only [h, Nat.reduceEqDiff, if_false, if_true]
theorem it_t {t p col b : Nat} {c : Nat → Nat} (h : hcN t c (p + 1) = 116) (hc : col ≤ 6) (hb : b ≤ 48) : itS t c col b p = (if okU t c col (p + 2) then lenV t c (p + 5) else 0) ∧ itE t c p = lenP t c (p + 5) := by
  have l1 := lenV_le t c (p + 2 + 3)
  refine ⟨?_, ?_⟩
  · unfold itS rSign rTurn
    simp only [h, Nat.reduceEqDiff, if_false, if_true]
    by_cases k : okU t c col (p + 2)
    · rw [if_pos k, if_pos k]
      have la := amI_le t c (p + 2) k.2.2.1.2
      exact pkN_sp (by omega) (by omega) (by omega) (by decide) (by decide) (by decide) (by omega)
    · rw [if_neg k, if_neg k]; rfl
  · unfold itE rPos
    simp only [h, Nat.reduceEqDiff, if_false, if_true]
theorem it_e {t p col b : Nat} {c : Nat → Nat} (h : hcN t c (p + 1) = 101) : itS t c col b p = lenV t c (p + 2) ∧ itE t c p = lenP t c (p + 2) := by
  unfold itS itE
  rw [if_pos h, if_pos h]
  exact ⟨rfl, rfl⟩
theorem it_x {t p col b : Nat} {c : Nat → Nat} (h1 : hcN t c (p + 1) ≠ 109) (h2 : hcN t c (p + 1) ≠ 107) (h3 : hcN t c (p + 1) ≠ 114) (h4 : hcN t c (p + 1) ≠ 116) (h5 : hcN t c (p + 1) ≠ 101) : itS t c col b p = 0 := by
  unfold itS rSign
  rw [if_neg h5, if_neg h2, if_neg h1, if_neg h3, if_neg h4]
  rfl
section TM2
variable {M : mm_M} {Q : mm_Q} {t B L n : Nat} {c nb : Nat → Nat} {g : Nat → Sg}
/-- what a reading leaves as it is -/
def Ko (M M' : mm_M) : Prop := (∀ q, q ∉ [30, 31, 35] → M' q = M q) ∧ ∀ k, k ≠ 6 → M' 30 k = M 30 k
theorem Ko.rf (M : mm_M) : Ko M M := ⟨fun _ _ => rfl, fun _ _ => rfl⟩
theorem Ko.tr {M M1 M2 : mm_M} (h : Ko M M1) (h2 : Ko M1 M2) : Ko M M2 := ⟨fun q hq => (h2.1 q hq).trans (h.1 q hq), fun k hk => (h2.2 k hk).trans (h.2 k hk)⟩
theorem Ko.at' {M M1 : mm_M} (h : Ko M M1) (p : Nat) : Ko M (atM M1 p) := ⟨fun q hq => by
  simp only [List.mem_cons, List.not_mem_nil, or_false, not_or] at hq
  rw [atM_ne _ (by omega)]
  exact h.1 q (by simp only [List.mem_cons, List.not_mem_nil, or_false, not_or]; omega), fun k hk => by rw [atM_k _ hk]; exact h.2 k hk⟩
theorem Ko.up' {M M1 : mm_M} (h : Ko M M1) {o : Nat} (ho : o = 31 ∨ o = 35) (k : Nat) (v : Int32) : Ko M (mm_up M1 o k v) := ⟨fun q hq => by
  simp only [List.mem_cons, List.not_mem_nil, or_false, not_or] at hq
  rw [up_ne _ _ _ (by omega)]
  exact h.1 q (by simp only [List.mem_cons, List.not_mem_nil, or_false, not_or]; omega), fun k hk => by rw [up_ne _ _ _ (by omega)]; exact h.2 k hk⟩
theorem Ko.set' {M M1 : mm_M} (h : Ko M M1) {o : Nat} (ho : o = 31 ∨ o = 35) (f : Nat → Int32) : Ko M (mm_set M1 o f) := ⟨fun q hq => by
  simp only [List.mem_cons, List.not_mem_nil, or_false, not_or] at hq
  rw [set_ne _ _ (by omega)]
  exact h.1 q (by simp only [List.mem_cons, List.not_mem_nil, or_false, not_or]; omega), fun k hk => by rw [set_ne _ _ (by omega)]; exact h.2 k hk⟩
/-- a sign of the item is laid -/
theorem m_laysItem {s : Sg} {S x : Nat} {lv : Int32} {p : Nat} (hD : isD (M 31) B L n g) (hv : Val B n g) (hn : n < 60) (hnb : ∀ k, k ≤ 6 → M 35 k = nI (nb k) ∧ nb k ≤ B) (hc : sC s = dgN t c p) (hc6 : dgN t c p ≤ 6) (hb : sB s = nb (dgN t c p)) (hk : sK s ≤ 3) (hS : S = itS t c (dgN t c p) (nb (dgN t c p)) p) (hS2 : S < 200) (hx : x = itE t c p)
    (hlv : (sK s = 1 ∧ S = 1 ∧ sN s = 0) ∨ (sK s ≠ 1 ∧ sN s = S ∧ ((lv = -1 ∧ S = 0) ∨ lv = nI S))) (hn101 : hcN t c (p + 1) ≠ 101) (hsg : itF t c B nb p → itSg t c nb p = s)
    (hbad : ¬ itF t c B nb p → ∀ M', Ko M M' → Q (some (nI 0)) M')
    (hgood : itF t c B nb p → ∀ M', Ko M M' → M' 30 6 = nI (itE t c p) → (∀ k, k ≤ 6 → M' 35 k = nI (itB t c nb p k)) → isD (M' 31) B L (itN t c p n) (itH t c nb p n g) → Q (some (nI 1)) M') :
    wc 155 [.inr 30, .inl (nI (sC s)), .inl (nI (sK s)), .inl lv, .inl (iZ (sW s)), .inl (nI (sV s))] (atM M x) Q := by
  obtain ⟨e35, hnb2⟩ := hnb _ hc6
  have iff : itF t c B nb p ↔ (1 ≤ S ∧ sB s + S ≤ B) := by
    rw [hS, hb]
    exact ⟨fun z => ⟨z.2.1, z.2.2⟩, fun z => ⟨hc6, z.1, z.2⟩⟩
  refine m_lays (B := B) (L := L) (n := n) (g := g) (S := S) (by rw [atM_ne _ (by decide)]; exact hD) hv hn (by omega) (by omega) hk (by rw [atM_ne _ (by decide), hc, hb]; exact e35) hS2 hlv (fun h => hbad (fun z => h (iff.mp z)) _ ((Ko.rf M).at' x)) (fun h d2 hd2 => ?_)
  have hF := iff.mpr h
  refine hgood hF _ ((((Ko.rf M).at' x).set' (Or.inl rfl) d2).up' (Or.inr rfl) _ _) ?_ (fun k hk => ?_) ?_
  · rw [up_ne _ _ _ (by decide), set_ne _ _ (by decide), atM_6, hx]
  · rw [up_o]
    unfold itB
    by_cases e : k = dgN t c p
    · rw [if_pos e, e, hc, us, hb, ← hS]
    · rw [if_neg e, un _ _ _ _ (by omega), set_ne _ _ (by decide), atM_ne _ (by decide), (hnb k hk).1]
  · rw [up_ne _ _ _ (by decide), set_o]
    unfold itN itH
    rw [if_neg hn101, if_neg hn101, hsg hF]
    exact hd2
theorem lI_cases (p : Nat) : (lI t c p = -1 ∧ lenV t c p = 0) ∨ lI t c p = nI (lenV t c p) := by
  unfold lI
  by_cases h : dgN t c p = 10
  · left
    rw [if_pos h]
    refine ⟨rfl, ?_⟩
    unfold lenV
    rw [if_pos h]
  · right
    rw [if_neg h]
end TM2
