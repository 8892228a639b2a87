/-! A PHRASE COPIED INTO AN EMPTY HALF -/
theorem ins_mem {n k : Nat} {g : Nat → Sg} {s : Sg} (hk : k ≤ n) : (∀ i, i < n + 1 → insG g k s i = s ∨ ∃ j, j < n ∧ insG g k s i = g j) ∧ (∀ j, j < n → ∃ i, i < n + 1 ∧ insG g k s i = g j) ∧ ∃ i, i < n + 1 ∧ insG g k s i = s := by
  refine ⟨fun i hi => ?_, fun j hj => ?_, k, by omega, insG_eq g k s⟩
  · rcases Nat.lt_trichotomy i k with h | h | h
    · exact Or.inr ⟨i, by omega, insG_lt h⟩
    · exact Or.inl (by rw [h]; exact insG_eq g k s)
    · exact Or.inr ⟨i - 1, by omega, insG_gt h⟩
  · by_cases h : j < k
    · exact ⟨j, by omega, insG_lt h⟩
    · exact ⟨j + 1, by omega, by rw [insG_gt (by omega)]; rfl⟩
/-- every sign of the phrase lies in the first half -/
abbrev inHalf (h n : Nat) (g : Nat → Sg) : Prop := ∀ i, i < n → inPh 0 h (g i)
section TWN
variable {B n h a : Nat} {g : Nat → Sg}
theorem cp_f {s : Sg} (ho : okS s) : okS (cpyS 0 h h a 0 s) ∧ sC (cpyS 0 h h a 0 s) = (if a = 1 then mirC (sC s) else sC s) ∧ sB (cpyS 0 h h a 0 s) = h + sB s ∧ sS (cpyS 0 h h a 0 s) = sS s ∧ sK (cpyS 0 h h a 0 s) = sK s := by
  have := cpy_f (f := 0) (l := h) (o := h) (a := a) (r := 0) ho
  have e : cpB 0 h h 0 s = h + sB s := by
    unfold cpB
    rw [if_neg (show ¬ (0 : Nat) = 1 by decide)]
    omega
  rw [e] at this
  exact this
/-- the phrase as it is gathered -/
theorem ph_val (hv : Val B n g) (hh : 2 * h ≤ B) (hp : inHalf h n g) : ∀ i, i ≤ n → (phR 0 h h a 0 g i).1 = i ∧ Val B i (phR 0 h h a 0 g i).2 ∧ (∀ j, j < i → ∃ k, k < i ∧ (phR 0 h h a 0 g i).2 j = cpyS 0 h h a 0 (g k)) ∧ (∀ k, k < i → ∃ j, j < i ∧ (phR 0 h h a 0 g i).2 j = cpyS 0 h h a 0 (g k)) := by
  obtain ⟨w1, w2, w3, v1, v2, v3⟩ := id hv
  intro i
  induction i with
  | zero =>
    intro _
    exact ⟨rfl, val_0 (B := B) (n := 0) w1 w2, fun j hj => absurd hj (by omega), fun j hj => absurd hj (by omega)⟩
  | succ i ih =>
    intro hi
    obtain ⟨e1, e2, e3, e4⟩ := ih (by omega)
    have hin : inPh 0 h (g i) := hp i (by omega)
    have es : phR 0 h h a 0 g (i + 1) = ((phR 0 h h a 0 g i).1 + 1, insG (phR 0 h h a 0 g i).2 (pos (gtD (phR 0 h h a 0 g i).2 (cpyS 0 h h a 0 (g i))) (phR 0 h h a 0 g i).1) (cpyS 0 h h a 0 (g i))) := by
      show (if inPh 0 h (g i) then _ else _) = _
      rw [if_pos hin]
    rw [es]
    simp only
    rw [e1]
    generalize (phR 0 h h a 0 g i).2 = ph at e2 e3 e4 ⊢
    obtain ⟨o1, o2⟩ := v1 i (by omega)
    obtain ⟨c1, c2, c3, c4, c5⟩ := cp_f (h := h) (a := a) o1
    have hpl := pos_le (gtD ph (cpyS 0 h h a 0 (g i))) i
    have hr : roomS B i ph (sC (cpyS 0 h h a 0 (g i))) (sB (cpyS 0 h h a 0 (g i))) (sS (cpyS 0 h h a 0 (g i))) := by
      intro j hj
      obtain ⟨k, hk, ek⟩ := e3 j hj
      obtain ⟨p1, p2⟩ := v1 k (by omega)
      obtain ⟨d1, d2, d3, d4, d5⟩ := cp_f (h := h) (a := a) p1
      rw [ek, d2, d3, d4, c2, c3, c4]
      rintro ⟨q1, q2, q3⟩
      have hc : sC (g k) = sC (g i) := by
        by_cases ha : a = 1
        · rw [if_pos ha, if_pos ha] at q1
          exact mirC_inj p1.1 o1.1 q1
        · rw [if_neg ha, if_neg ha] at q1
          exact q1
      have := v3 k i hk (by omega) hc
      omega
    have hin2 := hin.2
    unfold seN at hin2
    refine ⟨rfl, val_ins e2 (by omega) c1 (by rw [c3, c4]; omega) hr, fun j hj => ?_, fun k hk => ?_⟩
    · rcases (ins_mem hpl).1 j hj with e | ⟨x, hx, e⟩
      · exact ⟨i, by omega, e⟩
      · obtain ⟨k, hk, ek⟩ := e3 x hx
        exact ⟨k, by omega, by rw [e, ek]⟩
    · by_cases hki : k = i
      · subst hki
        exact (ins_mem hpl).2.2
      · obtain ⟨j, hj, ej⟩ := e4 k (by omega)
        obtain ⟨x, hx, ex⟩ := (ins_mem (s := cpyS 0 h h a 0 (g i)) hpl).2.1 j hj
        exact ⟨x, hx, by rw [ex, ej]⟩
/-- two scores in one: the first half's signs and their copies -/
def Twin (h a n : Nat) (g : Nat → Sg) (N : Nat) (G : Nat → Sg) : Prop := (∀ i, i < N → (∃ j, j < n ∧ G i = g j) ∨ ∃ j, j < n ∧ G i = cpyS 0 h h a 0 (g j)) ∧ (∀ j, j < n → ∃ i, i < N ∧ G i = g j) ∧ ∀ j, j < n → ∃ i, i < N ∧ G i = cpyS 0 h h a 0 (g j)
theorem twin_try (hv : Val B n g) (hn : n ≤ 30) (hh : 2 * h ≤ B) (hp : inHalf h n g) : ∃ G, tryF B (phR 0 h h a 0 g n).2 (phR 0 h h a 0 g n).1 0 n g = some (n + n, G) ∧ Twin h a n g (n + n) G := by
  obtain ⟨w1, w2, w3, v1, v2, v3⟩ := id hv
  obtain ⟨e1, e2, e3, e4⟩ := ph_val (a := a) hv hh hp n (Nat.le_refl n)
  rw [e1]
  generalize (phR 0 h h a 0 g n).2 = ph at e2 e3 e4 ⊢
  obtain ⟨x1, x2, x3, y1, y2, y3⟩ := id e2
  have far : ∀ i, i < n → h ≤ sB (ph i) ∧ sB (ph i) + sS (ph i) ≤ B := fun i hi => by
    obtain ⟨k, hk, ek⟩ := e3 i hi
    obtain ⟨c1, c2, c3, c4, c5⟩ := cp_f (h := h) (a := a) (v1 k hk).1
    have := (y1 i hi).2
    exact ⟨by rw [ek, c3]; omega, this⟩
  have loop : ∀ d i N (G : Nat → Sg), i + d = n → N = n + i → Val B N G → (∀ x, x < N → (∃ j, j < n ∧ G x = g j) ∨ ∃ j, j < i ∧ G x = ph j) → (∀ j, j < n → ∃ x, x < N ∧ G x = g j) → (∀ j, j < i → ∃ x, x < N ∧ G x = ph j) →
      ∃ G2, tryF B ph d i N G = some (n + n, G2) ∧ (∀ x, x < n + n → (∃ j, j < n ∧ G2 x = g j) ∨ ∃ j, j < n ∧ G2 x = ph j) ∧ (∀ j, j < n → ∃ x, x < n + n ∧ G2 x = g j) ∧ (∀ j, j < n → ∃ x, x < n + n ∧ G2 x = ph j) := by
    intro d
    induction d with
    | zero =>
      intro i N G hi hN hvN m1 m2 m3
      have hi : i = n := by omega
      subst hi
      subst hN
      exact ⟨G, rfl, m1, m2, m3⟩
    | succ d ih =>
      intro i N G hi hN hvN m1 m2 m3
      have hin : i < n := by omega
      obtain ⟨f1, f2⟩ := far i hin
      have hr : roomS B N G (sC (ph i)) (sB (ph i)) (sS (ph i)) := by
        intro x hx
        rintro ⟨q1, q2, q3⟩
        rcases m1 x hx with ⟨j, hj, ej⟩ | ⟨j, hj, ej⟩
        · rw [ej] at q3
          have := (hp j hj).2
          unfold seN at this
          omega
        · rw [ej] at q1 q3
          have := y3 j i hj hin q1
          omega
      have hfit : fitS B N G (ph i) = true := fitS_iff.mpr ⟨f2, hr⟩
      have hpl := pos_le (gtD G (ph i)) N
      have hv2 := val_ins hvN (by omega) (y1 i hin).1 f2 hr
      have k1 : ∀ x, x < N + 1 → (∃ j, j < n ∧ insG G (pos (gtD G (ph i)) N) (ph i) x = g j) ∨ ∃ j, j < i + 1 ∧ insG G (pos (gtD G (ph i)) N) (ph i) x = ph j := by
        intro x hx
        rcases (ins_mem hpl).1 x hx with e | ⟨y, hy, e⟩
        · exact Or.inr ⟨i, by omega, e⟩
        · rcases m1 y hy with ⟨j, hj, ej⟩ | ⟨j, hj, ej⟩
          · exact Or.inl ⟨j, hj, by rw [e, ej]⟩
          · exact Or.inr ⟨j, by omega, by rw [e, ej]⟩
      have k2 : ∀ j, j < n → ∃ x, x < N + 1 ∧ insG G (pos (gtD G (ph i)) N) (ph i) x = g j := by
        intro j hj
        obtain ⟨x, hx, ex⟩ := m2 j hj
        obtain ⟨y, hy, ey⟩ := (ins_mem (s := ph i) hpl).2.1 x hx
        exact ⟨y, hy, by rw [ey, ex]⟩
      have k3 : ∀ j, j < i + 1 → ∃ x, x < N + 1 ∧ insG G (pos (gtD G (ph i)) N) (ph i) x = ph j := by
        intro j hj
        by_cases hji : j = i
        · subst hji
          exact (ins_mem hpl).2.2
        · obtain ⟨x, hx, ex⟩ := m3 j (by omega)
          obtain ⟨y, hy, ey⟩ := (ins_mem (s := ph i) hpl).2.1 x hx
          exact ⟨y, hy, by rw [ey, ex]⟩
      obtain ⟨G2, t1, t2⟩ := ih (i + 1) (N + 1) _ (by omega) (by omega) hv2 k1 k2 k3
      exact ⟨G2, by unfold tryF; rw [if_pos hfit]; exact t1, t2⟩
  obtain ⟨G, g1, g2, g3, g4⟩ := loop n 0 n g (by omega) (by omega) hv (fun x hx => Or.inl ⟨x, hx, rfl⟩) (fun j hj => ⟨j, hj, rfl⟩) (fun j hj => absurd hj (by omega))
  refine ⟨G, g1, fun x hx => ?_, g3, fun k hk => ?_⟩
  · rcases g2 x hx with h1 | ⟨j, hj, ej⟩
    · exact Or.inl h1
    · obtain ⟨k, hk, ek⟩ := e3 j hj
      exact Or.inr ⟨k, hk, by rw [ej, ek]⟩
  · obtain ⟨j, hj, ej⟩ := e4 k hk
    obtain ⟨x, hx, ex⟩ := g4 j hj
    exact ⟨x, hx, by rw [ex, ej]⟩
-- which sign is the latest, by what stands in the score
theorem latest_mem {N : Nat} {G : Nat → Sg} (hv : Val B N G) {i c t : Nat} (hi : i < N) (hc : sC (G i) = c) (h1 : sB (G i) ≤ t) (h2 : ∀ j, j < N → sC (G j) = c → sB (G j) ≤ t → sB (G j) ≤ sB (G i)) : latest G N c t = some i := by
  obtain ⟨w1, w2, w3, v1, v2, v3⟩ := hv
  unfold latest
  refine lastF_of hi (by simp [hc, h1]) (fun j hj hjn => ?_)
  simp only [decide_eq_false_iff_not, not_and]
  intro hc2 ht
  have a := h2 j hjn hc2 ht
  have b := v3 i j hj hjn (by rw [hc, hc2])
  have d := (okS_b (v1 i hi).1).2.2.1
  omega
theorem latest_no {N : Nat} {G : Nat → Sg} {c t : Nat} (h : ∀ j, j < N → sC (G j) = c → t < sB (G j)) : latest G N c t = none := by
  unfold latest
  refine lastF_no (fun i hi => ?_)
  simp only [decide_eq_false_iff_not, not_and]
  intro hc ht
  have := h i hi hc
  omega
theorem latest_max {N : Nat} {G : Nat → Sg} (hv : Val B N G) {i c t : Nat} (h : latest G N c t = some i) : i < N ∧ sC (G i) = c ∧ sB (G i) ≤ t ∧ ∀ j, j < N → sC (G j) = c → sB (G j) ≤ t → sB (G j) ≤ sB (G i) := by
  obtain ⟨w1, w2, w3, v1, v2, v3⟩ := hv
  obtain ⟨a, b, d, e⟩ := latest_some h
  refine ⟨a, b, d, fun j hj hc ht => ?_⟩
  rcases Nat.lt_trichotomy j i with h1 | h1 | h1
  · have := v3 j i h1 a (by rw [hc, b])
    omega
  · rw [h1]; exact Nat.le_refl _
  · have := e j h1 hj hc
    omega
theorem mirW_inv {s : Sg} (hs : okS s) : mirW (sK s) (mirW (sK s) (sW s)) = sW s := by
  obtain ⟨h1, h2, h3, h4, h5, h6, h7⟩ := hs
  unfold mirW
  by_cases k2 : sK s = 2
  · rw [if_pos k2, if_pos k2]; omega
  · rw [if_neg k2, if_neg k2]
    rcases (show sK s = 0 ∨ sK s = 1 ∨ sK s = 3 by omega) with k | k | k
    · have := h4 k
      by_cases w : 1 < sW s
      · rw [if_pos w]
        by_cases w2 : (1 : Int) < 10 - sW s
        · rw [if_pos w2]; omega
        · omega
      · rw [if_neg w, if_neg w]
    · have := h5 k
      rw [if_neg (by omega), if_neg (by omega)]
    · have := h7 k
      rw [if_neg (by omega), if_neg (by omega)]
theorem mirC_inv {c : Nat} (hc : c ≤ 6) : mirC (mirC c) = c := by
  rcases (show c = 0 ∨ c = 1 ∨ c = 2 ∨ c = 3 ∨ c = 4 ∨ c = 5 ∨ c = 6 by omega) with rfl | rfl | rfl | rfl | rfl | rfl | rfl <;> decide
theorem cp_look {s : Sg} (hs : okS s) : sW s = (if decide (a = 1) = true then mirW (sK (cpyS 0 h h a 0 s)) (sW (cpyS 0 h h a 0 s)) else sW (cpyS 0 h h a 0 s)) ∧ sV s = sV (cpyS 0 h h a 0 s) := by
  have e : cpyS 0 h h a 0 s = (if a = 1 then mirS (movS s (cpB 0 h h 0 s)) else movS s (cpB 0 h h 0 s)) := by
    unfold cpyS
    rw [if_neg (show ¬ (0 : Nat) = 1 by decide)]
  rw [e]
  by_cases ha : a = 1
  · rw [if_pos ha, if_pos (decide_eq_true ha)]
    refine ⟨?_, rfl⟩
    exact (mirW_inv (s := s) hs).symm
  · rw [if_neg ha, if_neg (fun z => ha (of_decide_eq_true z))]
    exact ⟨rfl, rfl⟩
theorem cv_none {N : Nat} {G : Nat → Sg} {c t : Nat} (h : latest G N c t = none) : cv B N G c t = none := by
  unfold cv
  rw [h]
theorem cv_some {N i : Nat} {G : Nat → Sg} {c t : Nat} (h : latest G N c t = some i) : cv B N G c t = if t < eM B (G i) then some i else none := by
  unfold cv
  rw [h]
/-- the copy is like the phrase at a beat, in a column: if no hold goes on into its half -/
theorem twin_like {N : Nat} {G : Nat → Sg} (hv : Val B n g) (hG : Val B N G) (hh : 2 * h ≤ B) (hp : inHalf h n g) (hT : Twin h a n g N G) {c t : Nat} (hc : c ≤ 6) (ht : t < h)
    (hopen : ∀ k, k ≤ 6 → ∀ i, cv B N G k (h - 1) = some i → sK (G i) ≠ 1) :
    likeB (decide (a = 1)) G (cv B N G c t) (cv B N G (if decide (a = 1) = true then mirC c else c) (h + t)) = true := by
  obtain ⟨w1, w2, w3, v1, v2, v3⟩ := id hv
  obtain ⟨T1, T2, T3⟩ := hT
  have hc' : (if decide (a = 1) = true then mirC c else c) ≤ 6 := mirC_le hc _
  have copyC : ∀ j, j < n → (sC (cpyS 0 h h a 0 (g j)) = (if decide (a = 1) = true then mirC c else c) ↔ sC (g j) = c) := by
    intro j hj
    rw [(cp_f (h := h) (a := a) (v1 j hj).1).2.1]
    by_cases ha : a = 1
    · simp only [ha, if_true, decide_true]
      exact ⟨fun e => mirC_inj (v1 j hj).1.1 hc e, fun e => by rw [e]⟩
    · simp only [ha, if_false, decide_false, Bool.false_eq_true]
  cases hl : latest g n c t with
  | none =>
    have no := latest_none hl
    have x1 : latest G N c t = none := latest_no (fun j hj hcj => by
      rcases T1 j hj with ⟨k, hk, ek⟩ | ⟨k, hk, ek⟩
      · rw [ek] at hcj ⊢
        exact no k hk hcj
      · rw [ek, (cp_f (h := h) (a := a) (v1 k hk).1).2.2.1]
        omega)
    rw [cv_none x1]
    have x2 : cv B N G (if decide (a = 1) = true then mirC c else c) (h + t) = none := by
      cases hl2 : latest G N (if decide (a = 1) = true then mirC c else c) (h + t) with
      | none => exact cv_none hl2
      | some i =>
        obtain ⟨m1, m2, m3, m4⟩ := latest_max hG hl2
        rcases T1 i m1 with ⟨k, hk, ek⟩ | ⟨k, hk, ek⟩
        · -- a sign of the first half: it is no hold
          have hin := hp k hk
          have hB1 : sB (G i) ≤ h - 1 := by
            have := hin.2
            unfold seN at this
            have := (okS_b (v1 k hk).1).2.2.1
            rw [ek]
            omega
          have hl3 : latest G N (if decide (a = 1) = true then mirC c else c) (h - 1) = some i := latest_mem hG m1 m2 hB1 (fun j hj hcj htj => m4 j hj hcj (by omega))
          have hnh : sK (G i) ≠ 1 := by
            intro e
            refine hopen _ hc' i ?_ e
            rw [cv_some hl3]
            unfold eM
            rw [if_pos e, if_pos (by omega)]
          rw [cv_some hl2]
          unfold eM
          rw [if_neg hnh, if_neg]
          have h2 := hin.2
          unfold seN at h2
          have h3 : sS (g k) = sN (g k) := sS_N (by rw [← ek]; exact hnh)
          rw [ek]
          omega
        · exfalso
          rw [ek] at m2 m3
          have := no k hk ((copyC k hk).mp m2)
          rw [(cp_f (h := h) (a := a) (v1 k hk).1).2.2.1] at m3
          omega
    rw [x2]
    rfl
  | some k =>
    obtain ⟨m1, m2, m3, m4⟩ := latest_max hv hl
    obtain ⟨o1, o2⟩ := v1 k m1
    obtain ⟨c1, c2, c3, c4, c5⟩ := cp_f (h := h) (a := a) o1
    obtain ⟨i, hi, ei⟩ := T2 k m1
    obtain ⟨j, hj, ej⟩ := T3 k m1
    have x1 : latest G N c t = some i := latest_mem hG hi (by rw [ei]; exact m2) (by rw [ei]; exact m3) (fun y hy hcy hty => by
      rw [ei]
      rcases T1 y hy with ⟨z, hz, ez⟩ | ⟨z, hz, ez⟩
      · rw [ez] at hcy hty ⊢
        exact m4 z hz hcy hty
      · rw [ez, (cp_f (h := h) (a := a) (v1 z hz).1).2.2.1] at hty
        omega)
    have x2 : latest G N (if decide (a = 1) = true then mirC c else c) (h + t) = some j := latest_mem hG hj (by rw [ej]; exact (copyC k m1).mpr m2) (by rw [ej, c3]; omega) (fun y hy hcy hty => by
      rw [ej, c3]
      rcases T1 y hy with ⟨z, hz, ez⟩ | ⟨z, hz, ez⟩
      · have := (hp z hz).2
        unfold seN at this
        rw [ez]
        omega
      · rw [ez] at hcy hty ⊢
        have e3 := (cp_f (h := h) (a := a) (v1 z hz).1).2.2.1
        rw [e3] at hty ⊢
        have := m4 z hz ((copyC z hz).mp hcy) (by omega)
        omega)
    rw [cv_some x1, cv_some x2, ei, ej]
    have eb : (h + t < eM B (cpyS 0 h h a 0 (g k))) ↔ t < eM B (g k) := by
      unfold eM
      rw [c5]
      by_cases hk : sK (g k) = 1
      · rw [if_pos hk, if_pos hk]; omega
      · have n1 : sS (g k) = sN (g k) := sS_N hk
        have n2 : sS (cpyS 0 h h a 0 (g k)) = sN (cpyS 0 h h a 0 (g k)) := sS_N (by rw [c5]; exact hk)
        rw [if_neg hk, if_neg hk, c3, ← n1, ← n2, c4]
        omega
    by_cases hlt : t < eM B (g k)
    · rw [if_pos hlt, if_pos (eb.mpr hlt)]
      obtain ⟨l1, l2⟩ := cp_look (h := h) (a := a) o1
      simp only [likeB, decide_eq_true_eq]
      rw [ei, ej]
      exact ⟨c5.symm, by simpa using l1, l2⟩
    · rw [if_neg hlt, if_neg (fun z => hlt (eb.mp z))]
      rfl
-- counting
theorem dc_zero {b : Bool} {N f o t : Nat} {G : Nat → Sg} : ∀ m, dcN b B N G f o m t = 0 ↔ ∀ c, c < m → likeB b G (cv B N G c (f + t)) (cv B N G (if b = true then mirC c else c) (o + t)) = true := by
  intro m
  induction m with
  | zero => exact ⟨fun _ c hc => absurd hc (by omega), fun _ => rfl⟩
  | succ m ih =>
    rw [dcN_s]
    constructor
    · intro h c hc
      by_cases hcm : c = m
      · subst hcm
        cases hl : likeB b G (cv B N G c (f + t)) (cv B N G (if b = true then mirC c else c) (o + t))
        · rw [hl] at h
          simp at h
        · rfl
      · exact ih.mp (by omega) c (by omega)
    · intro h
      rw [ih.mpr (fun c hc => h c (by omega)), h m (by omega)]
      rfl
theorem like_sym {b : Bool} {N : Nat} {G : Nat → Sg} (hG : Val B N G) {x y : Option Nat} (hx : ∀ i, x = some i → i < N) (hy : ∀ i, y = some i → i < N) : likeB b G x y = likeB b G y x := by
  cases x with
  | none => cases y <;> rfl
  | some i =>
    cases y with
    | none => rfl
    | some j =>
      have oi := (hG.2.2.2.1 i (hx i rfl)).1
      have oj := (hG.2.2.2.1 j (hy j rfl)).1
      have ii := mirW_inv oi
      have ij := mirW_inv oj
      simp only [likeB]
      rw [decide_eq_decide]
      cases b
      · simp only [Bool.false_eq_true, if_false]
        constructor <;> rintro ⟨p, q, r⟩ <;> exact ⟨p.symm, q.symm, r.symm⟩
      · simp only [if_true]
        constructor
        · rintro ⟨p, q, r⟩
          refine ⟨p.symm, ?_, r.symm⟩
          rw [q, p, ij]
        · rintro ⟨p, q, r⟩
          refine ⟨p.symm, ?_, r.symm⟩
          rw [q, p, ii]
theorem dc_swap {b : Bool} {N f o t : Nat} {G : Nat → Sg} (hG : Val B N G) : dcN b B N G f o 7 t = 0 ↔ dcN b B N G o f 7 t = 0 := by
  have one : ∀ f o, (∀ c, c < 7 → likeB b G (cv B N G c (f + t)) (cv B N G (if b = true then mirC c else c) (o + t)) = true) → ∀ c, c < 7 → likeB b G (cv B N G c (o + t)) (cv B N G (if b = true then mirC c else c) (f + t)) = true := by
    intro f o h c hc
    have hm := mirC_le (show c ≤ 6 by omega) b
    have h1 := h (if b = true then mirC c else c) (by omega)
    have e : (if b = true then mirC (if b = true then mirC c else c) else (if b = true then mirC c else c)) = c := by
      cases b
      · rfl
      · exact mirC_inv (by omega)
    rw [e] at h1
    rw [like_sym hG (fun i hi => cv_lt hi) (fun i hi => cv_lt hi)]
    exact h1
  rw [dc_zero, dc_zero]
  exact ⟨one f o, one o f⟩
theorem al_swap {b : Bool} {N : Nat} {G : Nat → Sg} (hG : Val B N G) : alV b B N G 0 h h = alV b B N G h (2 * h) 0 := by
  unfold alV
  rw [show 2 * h - h = h by omega, Nat.sub_zero]
  refine congrArg nI (cntF_congr h (fun t _ => ?_))
  rw [decide_eq_decide]
  exact dc_swap hG
theorem al_all {N : Nat} {G : Nat → Sg} (hv : Val B n g) (hG : Val B N G) (hh : 2 * h ≤ B) (hp : inHalf h n g) (hT : Twin h a n g N G) (hopen : ∀ k, k ≤ 6 → ∀ i, cv B N G k (h - 1) = some i → sK (G i) ≠ 1) : alV (decide (a = 1)) B N G 0 h h = nI h := by
  unfold alV
  rw [Nat.sub_zero, cnt_all h (fun t ht => ?_)]
  rw [decide_eq_true_eq]
  refine (dc_zero 7).mpr (fun c hc => ?_)
  rw [Nat.zero_add]
  exact twin_like hv hG hh hp hT (by omega) ht hopen
end TWN
