/-! PURE FACTS: numbers, memory -/
theorem mm_rv_s (v : Int32) (l : List mm_V) : mm_rv (some v) ++ l = .inl v :: l := rfl
theorem mm_rv_n (l : List mm_V) : mm_rv none ++ l = l := rfl
def bI (b : Bool) : Int32 := if b = true then nI 1 else nI 0
theorem bI_t : bI true = nI 1 := rfl
theorem bI_f : bI false = nI 0 := rfl
theorem bI_01 (b : Bool) : (bI b = 0 ∨ bI b = 1) = True := by cases b <;> simp [bI] <;> decide
theorem bI_0 (b : Bool) : (bI b = 0) = (b = false) := by cases b <;> simp [bI] <;> decide
theorem n1_01 : (nI 1 = 0 ∨ nI 1 = 1) = True := by simp; decide
theorem n0_01 : (nI 0 = 0 ∨ nI 0 = 1) = True := by simp; decide
theorem bI_if (c : Prop) [Decidable c] : (if c then nI 1 else nI 0) = bI (decide c) := by by_cases h : c <;> simp [h, bI]
theorem nz_0 (a : Nat) (h : a < 2 ^ 31) : (nI a = 0) = (a = 0) := by
  have e : nI a = nI 0 ↔ a = 0 := nI_eq h (by decide)
  exact propext e
theorem nz_lt0 (a : Nat) (h : a < 2 ^ 31) : (nI a < 0) = False := by simp [nI_pos h]
theorem nz_0le (a : Nat) (h : a < 2 ^ 31) : (0 ≤ nI a) = True := by simp [nI_pos' h]
theorem nz_0lt (a : Nat) (h : a < 2 ^ 31) : (0 < nI a) = (0 < a) := propext (nI_ltI (a := 0) (by decide) h)
theorem nz_le0 (a : Nat) (h : a < 2 ^ 31) : (nI a ≤ 0) = (a = 0) := by
  have e : nI a ≤ nI 0 ↔ a ≤ 0 := nI_leI h (by decide)
  rw [Nat.le_zero] at e
  exact propext e
theorem nz_lt (a b : Nat) (ha : a < 2 ^ 31) (hb : b < 2 ^ 31) : (nI a < nI b) = (a < b) := propext (nI_ltI ha hb)
theorem nz_le (a b : Nat) (ha : a < 2 ^ 31) (hb : b < 2 ^ 31) : (nI a ≤ nI b) = (a ≤ b) := propext (nI_leI ha hb)
theorem nz_eq (a b : Nat) (ha : a < 2 ^ 31) (hb : b < 2 ^ 31) : (nI a = nI b) = (a = b) := propext (nI_eq ha hb)
theorem nz_cl (a : Nat) (h : a < 2 ^ 31) : (nI a).toNatClampNeg = a := nI_clamp h
theorem nz_in (a n : Nat) (h : a < n) (hn : n < 2 ^ 31) : vp_in (nI a) n = True := by simp [vp_in_nI h hn]
theorem nz_sub (a b : Nat) (h : b ≤ a) : nI a - nI b = nI (a - b) := pk_sub h
theorem nz_m1 (a : Nat) (h : 0 < a) : nI a + (-1) = nI (a - 1) := sb_m1 h
theorem nz_ne1 (a : Nat) (h : a < 2 ^ 31) : (nI a = -1) = False := by
  have e : ¬ nI a = -1 := by
    intro e
    have h1 := nI_toInt h
    rw [e] at h1
    have h2 : ((-1 : Int32)).toInt = -1 := by decide
    omega
  simp [e]
theorem in_nat {l h : Nat} {v : Int32} (h1 : nI l ≤ v) (h2 : v ≤ nI h) (hl : l < 2 ^ 31) (hh : h < 2 ^ 31) : ∃ n : Nat, v = nI n ∧ l ≤ n ∧ n ≤ h := by
  rw [Int32.le_iff_toInt_le, nI_toInt hl] at h1
  rw [Int32.le_iff_toInt_le, nI_toInt hh] at h2
  refine ⟨v.toInt.toNat, ?_, by omega, by omega⟩
  apply Int32.toInt_inj.mp
  rw [nI_toInt (by omega)]
  omega
def iZ (z : Int) : Int32 := Int32.ofInt z
theorem iZ_nat (n : Nat) : iZ (n : Int) = nI n := rfl
theorem iZ_toInt {z : Int} (h1 : -2147483648 ≤ z) (h2 : z < 2147483648) : (iZ z).toInt = z := by
  unfold iZ
  rw [Int32.toInt_ofInt_of_le] <;> omega
theorem iZ_add (a b : Int) : iZ a + iZ b = iZ (a + b) := (Int32.ofInt_add a b).symm
theorem iZ_sub (a b : Int) : iZ a - iZ b = iZ (a - b) := (Int32.ofInt_sub a b).symm
theorem iZ_mul (a b : Int) : iZ a * iZ b = iZ (a * b) := (Int32.ofInt_mul a b).symm
theorem iZ_neg (a : Int) : -iZ a = iZ (-a) := (Int32.ofInt_neg a).symm
theorem in_int {l h : Int} {v : Int32} (h1 : iZ l ≤ v) (h2 : v ≤ iZ h) (hl : -2147483648 ≤ l ∧ l < 2147483648) (hh : -2147483648 ≤ h ∧ h < 2147483648) : ∃ z : Int, v = iZ z ∧ l ≤ z ∧ z ≤ h := by
  rw [Int32.le_iff_toInt_le, iZ_toInt hl.1 hl.2] at h1
  rw [Int32.le_iff_toInt_le, iZ_toInt hh.1 hh.2] at h2
  refine ⟨v.toInt, ?_, h1, h2⟩
  apply Int32.toInt_inj.mp
  rw [iZ_toInt (by omega) (by omega)]
theorem iZ_inj {a b : Int} (ha : -2147483648 ≤ a ∧ a < 2147483648) (hb : -2147483648 ≤ b ∧ b < 2147483648) : (iZ a = iZ b) = (a = b) := by
  refine propext ⟨fun e => ?_, fun e => by rw [e]⟩
  have h := congrArg Int32.toInt e
  rwa [iZ_toInt ha.1 ha.2, iZ_toInt hb.1 hb.2] at h
theorem iZ_le {a b : Int} (ha : -2147483648 ≤ a ∧ a < 2147483648) (hb : -2147483648 ≤ b ∧ b < 2147483648) : (iZ a ≤ iZ b) = (a ≤ b) := by
  rw [Int32.le_iff_toInt_le, iZ_toInt ha.1 ha.2, iZ_toInt hb.1 hb.2]
theorem iZ_lt {a b : Int} (ha : -2147483648 ≤ a ∧ a < 2147483648) (hb : -2147483648 ≤ b ∧ b < 2147483648) : (iZ a < iZ b) = (a < b) := by
  rw [Int32.lt_iff_toInt_lt, iZ_toInt ha.1 ha.2, iZ_toInt hb.1 hb.2]
-- memory
theorem up_o (M : mm_M) (o k : Nat) (v : Int32) : mm_up M o k v o = upd (M o) k v := by simp [mm_up]
theorem up_ne (M : mm_M) {o q : Nat} (k : Nat) (v : Int32) (h : q ≠ o) : mm_up M o k v q = M q := by simp [mm_up, h]
theorem set_o (M : mm_M) (o : Nat) (f : Nat → Int32) : mm_set M o f o = f := by simp [mm_set]
theorem set_ne (M : mm_M) {o q : Nat} (f : Nat → Int32) (h : q ≠ o) : mm_set M o f q = M q := by simp [mm_set, h]
/-- the objects outside X are as they were -/
def Same (X : List Nat) (M M' : mm_M) : Prop := ∀ q : Nat, q ∉ X → M' q = M q
theorem Same.rf (X : List Nat) (M : mm_M) : Same X M M := fun _ _ => rfl
theorem Same.tr {X : List Nat} {M M1 M2 : mm_M} (h : Same X M M1) (h2 : Same X M1 M2) : Same X M M2 := fun q hq => (h2 q hq).trans (h q hq)
theorem Same.wk {X Y : List Nat} {M M1 : mm_M} (h : Same X M M1) (hs : ∀ q, q ∈ X → q ∈ Y) : Same Y M M1 := fun q hq => h q (fun z => hq (hs q z))
theorem Same.up {X : List Nat} {M M1 : mm_M} (h : Same X M M1) {o : Nat} (ho : o ∈ X) (k : Nat) (v : Int32) : Same X M (mm_up M1 o k v) := fun q hq => (up_ne M1 k v (fun e => hq (by rw [e]; exact ho))).trans (h q hq)
theorem Same.set {X : List Nat} {M M1 : mm_M} (h : Same X M M1) {o : Nat} (ho : o ∈ X) (f : Nat → Int32) : Same X M (mm_set M1 o f) := fun q hq => (set_ne M1 f (fun e => hq (by rw [e]; exact ho))).trans (h q hq)
theorem i_lt (a b : Int32) : (a < b) = (¬ b ≤ a) := by simp [Int32.not_le]
theorem or_dvd (k X Y : Nat) (h : X % 2 ^ k = 0) (hy : Y < 2 ^ k) : nI X ||| nI Y = nI (X + Y) := by
  have e : 2 ^ k * (X / 2 ^ k) = X := by
    have := Nat.div_add_mod X (2 ^ k)
    omega
  have e2 : nI X ||| nI Y = nI (X ||| Y) := by
    apply Int32.toBitVec_inj.mp
    rw [Int32.toBitVec_or]
    show BitVec.ofNat 32 X ||| BitVec.ofNat 32 Y = BitVec.ofNat 32 (X ||| Y)
    apply BitVec.eq_of_toNat_eq
    simp [Nat.or_mod_two_pow]
  rw [e2, ← e, ← Nat.two_pow_add_eq_or_of_lt hy]
theorem sh_l (n : Nat) (s : Nat) (h : n * 2 ^ s < 2 ^ 32) (hs : s < 32) : nI n <<< (nI s &&& 31) = nI (n * 2 ^ s) := by
  refine pk_shlN _ s ?_ h
  have key : ∀ s : Nat, s < 32 → ((nI s &&& 31).toBitVec.smod 32).toNat = s := by decide +kernel
  exact key s hs
theorem sh_r (n : Nat) (s : Nat) (h : n < 2 ^ 31) (hs : s < 32) : nI n >>> (nI s &&& 31) = nI (n / 2 ^ s) := by
  refine pk_shrN h _ s ?_
  have key : ∀ s : Nat, s < 32 → ((nI s &&& 31).toBitVec.smod 32).toNat = s := by decide +kernel
  exact key s hs
theorem an_k (n k m : Nat) (h : n < 2 ^ 32) (hm : m = 2 ^ k - 1) (hk : k < 31) : nI n &&& nI m = nI (n % 2 ^ k) := by
  refine pk_andN h k ?_
  subst hm
  rw [pk_tn]
  have : 2 ^ k ≤ 2 ^ 30 := Nat.pow_le_pow_right (by decide) (by omega)
  omega
theorem n1_1 : (nI 1 = 1) = True := by simp; decide
theorem bI_01b (b : Bool) : (b = false ∨ bI b = 1) = True := by cases b <;> simp [bI] <;> decide
theorem wsw_n (j : Nat) (lo : mm_L) (st : List mm_V) (M : mm_M) (Q : mm_Q) (x : Int32) (d : Nat) : wsw j lo st M Q x d [] = wp j d lo st M Q := rfl
theorem wsw_c (j : Nat) (lo : mm_L) (st : List mm_V) (M : mm_M) (Q : mm_Q) (x : Int32) (d : Nat) (c : Int32) (t : Nat) (r : List (Int32 × Nat)) : wsw j lo st M Q x d ((c, t) :: r) = if x = c then wp j t lo st M Q else wsw j lo st M Q x d r := rfl

