/-! THE REFERENCE PUTS A SIGN IN ITS PLACE -/
theorem un (f : Nat → Int32) (k j : Nat) (x : Int32) (h : j ≠ k) : upd f k x j = f j := pk_un h
theorem us (f : Nat → Int32) (k : Nat) (x : Int32) : upd f k x k = x := pk_us
def putD (d : Nat → Int32) (k : Nat) (a b c e w v : Int32) : Nat → Int32 := upd (upd (upd (upd (upd (upd d (3 + k) a) (123 + k) b) (243 + k) c) (363 + k) e) (483 + k) w) (603 + k) v
theorem putD_lo {d : Nat → Int32} {k x : Nat} {a b c e w v : Int32} (hx : x < 3) : putD d k a b c e w v x = d x := by
  unfold putD
  rw [un _ _ _ _ (by omega), un _ _ _ _ (by omega), un _ _ _ _ (by omega), un _ _ _ _ (by omega), un _ _ _ _ (by omega), un _ _ _ _ (by omega)]
theorem putD_ne {d : Nat → Int32} {k i : Nat} {a b c e w v : Int32} {s : Sg} (hik : i ≠ k) (hi : i < 120) (hk : k < 120) (h : fD d i s) : fD (putD d k a b c e w v) i s := by
  obtain ⟨h1, h2, h3, h4, h5, h6⟩ := h
  have key : ∀ f : Nat, (f = 3 ∨ f = 123 ∨ f = 243 ∨ f = 363 ∨ f = 483 ∨ f = 603) → putD d k a b c e w v (f + i) = d (f + i) := by
    intro f hf
    unfold putD
    rw [un _ _ _ _ (by omega), un _ _ _ _ (by omega), un _ _ _ _ (by omega), un _ _ _ _ (by omega), un _ _ _ _ (by omega), un _ _ _ _ (by omega)]
  refine ⟨?_, ?_, ?_, ?_, ?_, ?_⟩
  · rw [key 3 (by omega), h1]
  · rw [key 123 (by omega), h2]
  · rw [key 243 (by omega), h3]
  · rw [key 363 (by omega), h4]
  · rw [key 483 (by omega), h5]
  · rw [key 603 (by omega), h6]
theorem putD_at {d : Nat → Int32} {k : Nat} (s : Sg) (hk : k < 120) : fD (putD d k (nI (sC s)) (nI (sB s)) (nI (sK s)) (nI (sN s)) (iZ (sW s)) (nI (sV s))) k s := by
  unfold putD
  refine ⟨?_, ?_, ?_, ?_, ?_, ?_⟩
  · rw [un _ _ _ _ (by omega), un _ _ _ _ (by omega), un _ _ _ _ (by omega), un _ _ _ _ (by omega), un _ _ _ _ (by omega), us]
  · rw [un _ _ _ _ (by omega), un _ _ _ _ (by omega), un _ _ _ _ (by omega), un _ _ _ _ (by omega), us]
  · rw [un _ _ _ _ (by omega), un _ _ _ _ (by omega), un _ _ _ _ (by omega), us]
  · rw [un _ _ _ _ (by omega), un _ _ _ _ (by omega), us]
  · rw [un _ _ _ _ (by omega), us]
  · rw [us]
/-- the order of the reference: by begins, then columns -/
def gtD (g : Nat → Sg) (s : Sg) : Nat → Bool := fun i => decide (sB s < sB (g i) ∨ (sB (g i) = sB s ∧ sC s < sC (g i)))
def okB (g : Nat → Sg) (n : Nat) : Prop := ∀ i : Nat, i < n → sC (g i) ≤ 6 ∧ sB (g i) ≤ 94
section PUTS
variable {B L n : Nat} {g : Nat → Sg} {M : mm_M} {Q : mm_Q} {s : Sg}
end PUTS

