/-! ALL PAIRS; the first memory -/
theorem inv_M0 : Inv mm_M0 := by
  refine ⟨⟨16, 1, 0, gZ, ⟨by decide, by decide, by decide, fun i hi => absurd hi (Nat.not_lt_zero i), fun i j _ hj => absurd hj (Nat.not_lt_zero j), fun i j _ hj => absurd hj (Nat.not_lt_zero j)⟩, by decide, by decide, ⟨rfl, rfl, rfl, fun i hi => absurd hi (Nat.not_lt_zero i)⟩, ⟨?_, ?_, ?_, fun i hi => absurd hi (Nat.not_lt_zero i)⟩⟩, ⟨0, fun _ => (16, 1, 0, gZ), by decide, rfl, rfl, fun k hk => absurd hk (Nat.not_lt_zero k)⟩, ⟨0, fun _ => 0, by decide, rfl, rfl, fun i hi => absurd hi (Nat.not_lt_zero i)⟩, rfl, rfl, rfl⟩
  · show upd (upd (fun _ => 0) 0 16) 1 1 0 = nI 16
    rw [un _ _ _ _ (by decide), us]; rfl
  · show upd (upd (fun _ => 0) 0 16) 1 1 1 = nI 1
    rw [us]; rfl
  · show upd (upd (fun _ => 0) 0 16) 1 1 2 = nI 0
    rw [un _ _ _ _ (by decide), un _ _ _ _ (by decide)]; rfl
theorem lw_inv : ∃ I : mm_M → Prop, lw_pairs I ∧ I mm_M0 :=
  ⟨Inv, fun _ hI => ⟨pr_reset hI, pr_addMove hI, pr_addHold hI, pr_addTurn hI, pr_addRelease hI, pr_removeSign hI, pr_copyPhrase hI, pr_setLeap hI, fun _ => pr_lay hI, fun _ => pr_undo hI, pr_count hI, pr_sign hI, pr_signAt hI, pr_bears hI, pr_toldTwice hI, pr_isFaulty hI, pr_nextFault hI, pr_beats hI, fun _ => pr_leastLeap hI, pr_covered hI, pr_floor hI, fun _ => pr_home hI, fun _ => pr_farthest hI, pr_alike hI, pr_type hI, fun _ => pr_clearText hI, fun _ => pr_fault hI⟩, inv_M0⟩
