/-! A TYPED ITEM IS READ -/
section TYP
variable {t p B : Nat} {c nb : Nat → Nat}
theorem hcN_of {q k : Nat} (h : q < t) (e : c q = k) : hcN t c q = k := by unfold hcN; rw [if_pos h, e]
theorem dgN_of {q k : Nat} (h : q < t) (e : c q = 48 + k) (hk : k ≤ 9) : dgN t c q = k := by
  unfold dgN
  rw [hcN_of h e, if_pos (by omega)]
  omega
theorem dgN_no {q k : Nat} (h : q < t) (e : c q = k) (hk : k < 48 ∨ 57 < k) : dgN t c q = 10 := by
  unfold dgN
  rw [hcN_of h e, if_neg (by omega)]
theorem lenV_of {q k : Nat} (h : q + 1 < t) (e : c q = 48 + k) (hk : k ≤ 9) (e2 : c (q + 1) = 59) : lenV t c q = k ∧ lenP t c q = q + 1 := by
  have a := dgN_of (show q < t by omega) e hk
  have b := dgN_no h e2 (by omega)
  unfold lenV lenP
  have h10 : ¬ k = 10 := by omega
  rw [a, b]
  simp [h10]
/-- an item that stands at p: its column, its span, whether it is a gap, the sign of it that begins at b, where its stop stands -/
def Itm (t : Nat) (c : Nat → Nat) (p k l : Nat) (gap : Bool) (sg : Nat → Sg) (E : Nat) : Prop := E < t ∧ dgN t c p = k ∧ (∀ b, b ≤ 48 → itS t c k b p = l) ∧ itE t c p = E ∧ hcN t c E = 59 ∧ (hcN t c (p + 1) = 101 ↔ gap = true) ∧ (gap = false → ∀ b, sgI t c (p + 1) k b (p + 2) = sg b)
theorem itm_k {k : Nat} (hk : k ≤ 6) (h : p + 2 < t) (e0 : c p = 48 + k) (e1 : c (p + 1) = 107) (e2 : c (p + 2) = 59) : Itm t c p k 1 false (fun b => (k, b, 1, 0, 0, 0)) (p + 2) := by
  have h1 := hcN_of (show p + 1 < t by omega) e1
  refine ⟨h, dgN_of (by omega) e0 (by omega), fun b hb => (it_k h1 hk hb).1, (it_k (b := 0) h1 hk (by omega)).2, hcN_of h e2, by rw [h1]; simp, fun _ b => ?_⟩
  unfold sgI
  rw [h1, if_pos rfl]
theorem itm_e {k l : Nat} (hk : k ≤ 6) (h : p + 3 < t) (hl : l ≤ 9) (e0 : c p = 48 + k) (e1 : c (p + 1) = 101) (e2 : c (p + 2) = 48 + l) (e3 : c (p + 3) = 59) : Itm t c p k l true (fun _ => (0, 0, 1, 0, 0, 0)) (p + 3) := by
  have h1 := hcN_of (show p + 1 < t by omega) e1
  obtain ⟨v1, v2⟩ := lenV_of (t := t) (q := p + 2) (by omega) e2 hl e3
  refine ⟨h, dgN_of (by omega) e0 (by omega), fun b _ => by rw [(it_e h1).1, v1], by rw [(it_e (col := 0) (b := 0) h1).2, v2], hcN_of h e3, by rw [h1]; simp, fun z => by cases z⟩
theorem itm_m {k l d v : Nat} (hk : k ≤ 5) (h : p + 5 < t) (hl : l ≤ 9) (hd : d ≤ 8) (hv : v = 108 ∨ v = 110 ∨ v = 104) (e0 : c p = 48 + k) (e1 : c (p + 1) = 109) (e2 : c (p + 2) = 48 + d) (e3 : c (p + 3) = v) (e4 : c (p + 4) = 48 + l) (e5 : c (p + 5) = 59) : Itm t c p k l false (fun b => (k, b, 0, l, (d : Int), if v = 108 then 0 else if v = 110 then 1 else if v = 104 then 2 else 3)) (p + 5) := by
  have h1 := hcN_of (show p + 1 < t by omega) e1
  have h2 := dgN_of (show p + 2 < t by omega) e2 (by omega)
  have h3 := hcN_of (show p + 3 < t by omega) e3
  obtain ⟨v1, v2⟩ := lenV_of (t := t) (q := p + 4) (by omega) e4 hl e5
  have ok : okM t c k (p + 2) := by
    refine ⟨by omega, by omega, ?_⟩
    unfold lvN
    rw [h3]
    rcases hv with rfl | rfl | rfl <;> simp
  refine ⟨h, dgN_of (by omega) e0 (by omega), fun b hb => by rw [(it_m h1 (by omega) hb).1, if_pos ok, v1], by rw [(it_m (b := 0) (col := k) h1 (by omega) (by omega)).2, v2], hcN_of h e5, by rw [h1]; simp, fun _ b => ?_⟩
  unfold sgI lvN
  rw [h1, if_neg (by decide), if_pos rfl, show p + 2 + 1 = p + 3 by omega, show p + 2 + 2 = p + 4 by omega, h2, h3, v1]
theorem itm_t {l a v : Nat} (h : p + 6 < t) (hl : l ≤ 9) (ha1 : 1 ≤ a) (ha : a ≤ 8) (hv : v = 43 ∨ v = 45) (e0 : c p = 48 + 6) (e1 : c (p + 1) = 116) (e2 : c (p + 2) = v) (e3 : c (p + 3) = 48 + a) (e4 : c (p + 4) = 47) (e5 : c (p + 5) = 48 + l) (e6 : c (p + 6) = 59) : Itm t c p 6 l false (fun b => (6, b, 2, l, if v = 43 then (a : Int) else -(a : Int), 0)) (p + 6) := by
  have h1 := hcN_of (show p + 1 < t by omega) e1
  have h2 := hcN_of (show p + 2 < t by omega) e2
  have h3 := dgN_of (show p + 3 < t by omega) e3 (by omega)
  have h4 := hcN_of (show p + 4 < t by omega) e4
  obtain ⟨v1, v2⟩ := lenV_of (t := t) (q := p + 5) (by omega) e5 hl e6
  have ok : okU t c 6 (p + 2) := by
    refine ⟨rfl, ?_, ?_, h4⟩
    · rw [h2]; exact hv
    · rw [show p + 2 + 1 = p + 3 by omega, h3]; exact ⟨ha1, ha⟩
  refine ⟨h, dgN_of (by omega) e0 (by omega), fun b hb => by rw [(it_t h1 (by omega) hb).1, if_pos ok, v1], by rw [(it_t (b := 0) (col := 6) h1 (by omega) (by omega)).2, v2], hcN_of h e6, by rw [h1]; simp, fun _ b => ?_⟩
  unfold sgI amI
  rw [h1, if_neg (by decide), if_neg (by decide), if_neg (by decide), show p + 2 + 1 = p + 3 by omega, show p + 2 + 3 = p + 5 by omega, h2, h3, v1]
/-- what has been read: after the text's first p characters, whatever follows -/
def Rdd (B f n : Nat) (g : Nat → Sg) (nb : Nat → Nat) (p : Nat) (c : Nat → Nat) : Prop := ∀ t' c', p ≤ t' → t' ≤ 120 → (∀ i, i < p → c' i = c i) → rdR t' c' B 120 0 gZ (fun _ => 0) 0 = rdR t' c' B f n g nb p
theorem Rdd.start (B : Nat) (c : Nat → Nat) : Rdd B 120 0 gZ (fun _ => 0) 0 c := fun _ _ _ _ _ => rfl
/-- one item more: the sign of it stands in the score, if it has one -/
theorem Rdd.step {f n k l E : Nat} {g : Nat → Sg} {gap : Bool} {sg : Nat → Sg} {c0 : Nat → Nat} (hr : Rdd B (f + 1) n g nb p c0) (hc : ∀ i, i < p → c i = c0 i) (hp : p < E) (hk : k ≤ 6) (hl1 : 1 ≤ l) (hnb : nb k + l ≤ B) (hB : B ≤ 48)
    (hI : ∀ t' c', E + 1 ≤ t' → (∀ i, i < E + 1 → c' i = c i) → Itm t' c' p k l gap sg E) :
    ∃ g', Rdd B f (if gap = true then n else n + 1) g' (fun x => if x = k then nb k + l else nb x) (E + 1) c := by
  refine ⟨if gap = true then g else insG g (pos (gtD g (sg (nb k))) n) (sg (nb k)), fun t' c' h1 h2 h3 => ?_⟩
  obtain ⟨j1, j2, j3, j4, j5, j6, j7⟩ := hI t' c' h1 h3
  rw [hr t' c' (by omega) h2 (fun i hi => by rw [h3 i (by omega), hc i hi])]
  have hnk : nb k ≤ 48 := by omega
  have hG : itG t' c' B nb p := by
    refine ⟨⟨by rw [j2]; exact hk, ?_, ?_⟩, by rw [j4]; exact j5⟩
    · rw [j2, j3 _ hnk]; exact hl1
    · rw [j2, j3 _ hnk]; exact hnb
  have e1 : itN t' c' p n = (if gap = true then n else n + 1) := by
    unfold itN
    simp only [j6]
  have e2 : itB t' c' nb p = (fun x => if x = k then nb k + l else nb x) := by
    funext x
    unfold itB
    rw [j2, j3 _ hnk]
  have e3 : itH t' c' nb p n g = (if gap = true then g else insG g (pos (gtD g (sg (nb k))) n) (sg (nb k))) := by
    unfold itH itSg
    rw [j2]
    cases gap with
    | true => rw [if_pos (j6.mpr rfl), if_pos rfl]
    | false =>
      rw [if_neg (fun z => by have := j6.mp z; cases this), j7 rfl]
      rfl
  show (if p < t' then (if itG t' c' B nb p then rdR t' c' B f (itN t' c' p n) (itH t' c' nb p n g) (itB t' c' nb p) (itE t' c' p + 1) else .inl p) else .inr (n, g)) = _
  rw [if_pos (by omega), if_pos hG, e1, e2, e3, j4]
/-- the text at its end -/
theorem Rdd.done {f n : Nat} {g : Nat → Sg} (hr : Rdd B f n g nb p c) (hp : p ≤ 120) : rdR p c B 120 0 gZ (fun _ => 0) 0 = .inr (n, g) := by
  rw [hr p c (Nat.le_refl _) hp (fun _ _ => rfl)]
  cases f with
  | zero => rfl
  | succ f =>
    show (if p < p then _ else Sum.inr (n, g)) = _
    rw [if_neg (by omega)]
/-- a sign of the text that begins no item -/
theorem Rdd.bad {f n k : Nat} {g : Nat → Sg} (hr : Rdd B (f + 1) n g nb p c) (hp : p < 120) (hk : k < 48 ∨ 57 < k) : rdR (p + 1) (txtP p k c) B 120 0 gZ (fun _ => 0) 0 = .inl p := by
  rw [hr (p + 1) (txtP p k c) (by omega) (by omega) (fun i hi => by unfold txtP; rw [if_neg (by omega)])]
  show (if p < p + 1 then (if itG (p + 1) (txtP p k c) B nb p then _ else Sum.inl p) else _) = _
  have hd : dgN (p + 1) (txtP p k c) p = 10 := dgN_no (by omega) (show txtP p k c p = k by unfold txtP; rw [if_pos rfl]) hk
  rw [if_pos (by omega), if_neg (fun z => by have := z.1.1; omega)]
end TYP
