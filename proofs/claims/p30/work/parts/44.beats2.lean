section BT2
variable {M : mm_M} {Q : mm_Q}
theorem cntF_congr {p q : Nat → Bool} : ∀ b, (∀ t, t < b → p t = q t) → cntF p b = cntF q b := by
  intro b
  induction b with
  | zero => intro _; rfl
  | succ b ih =>
    intro h
    rw [cntF_s, cntF_s, ih (fun t ht => h t (by omega)), h b (by omega)]
def cdO (g : Nat → Sg) (v : Int32) (x : Option Nat) : Bool := match x with
  | some i => decide (v = -1 ∨ nI (sK (g i)) = v)
  | none => false
end BT2

