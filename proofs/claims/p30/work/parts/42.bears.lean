/-! PAIRS: bears, toldTwice, isFaulty, nextFault -/
section PW
variable {M : mm_M} {Q : mm_Q}
def nxtF (p : Nat → Bool) : Nat → Nat → Int32
  | 0, _ => -1004
  | d + 1, t => if p t = true then nI t else nxtF p d (t + 1)
end PW

