/-! WHAT A RUN OF THE SMALL MACHINE COMES TO -/
theorem mm_run_more : ∀ (n j pc : Nat) (lo : mm_L) (st : List mm_V) (M : mm_M) (x : Option Int32 × mm_M), mm_run n j pc lo st M = some x → mm_run (n + 1) j pc lo st M = some x := by
  intro n
  induction n with
  | zero => intro j pc lo st M x h; cases h
  | succ n ih =>
    intro j pc lo st M x h
    rw [mm_run] at h
    rw [mm_run]
    cases hs : mm_step j pc lo st M with
    | none => rw [hs] at h; cases h
    | some z =>
      rw [hs] at h
      rcases z with q | q | r
      · exact ih _ _ _ _ _ _ h
      · simp only at h ⊢
        cases hc : mm_run n q.1 0 (mm_ent q.1 q.2.1) [] M with
        | none => rw [hc] at h; cases h
        | some a =>
          rw [hc] at h
          rw [ih _ _ _ _ _ _ hc]
          exact ih _ _ _ _ _ _ h
      · exact h
theorem mm_run_mono {n k j pc : Nat} {lo : mm_L} {st : List mm_V} {M : mm_M} {x : Option Int32 × mm_M} (hn : n ≤ k) (h : mm_run n j pc lo st M = some x) : mm_run k j pc lo st M = some x := by
  induction k with
  | zero =>
    have : n = 0 := by omega
    subst this
    exact h
  | succ k ih =>
    by_cases e : n = k + 1
    · subst e; exact h
    · exact mm_run_more k _ _ _ _ _ _ (ih (by omega))
theorem mm_run_det {n k j pc : Nat} {lo : mm_L} {st : List mm_V} {M : mm_M} {x y : Option Int32 × mm_M} (h : mm_run n j pc lo st M = some x) (h2 : mm_run k j pc lo st M = some y) : x = y := by
  have a := mm_run_mono (Nat.le_max_left n k) h
  have b := mm_run_mono (Nat.le_max_right n k) h2
  rw [a] at b
  exact Option.some.inj b
abbrev mm_Q : Type := Option Int32 → mm_M → Prop
/-- from there the run ends, with Q -/
def wp (j pc : Nat) (lo : mm_L) (st : List mm_V) (M : mm_M) (Q : mm_Q) : Prop := ∃ (n : Nat) (r : Option Int32) (M' : mm_M), mm_run n j pc lo st M = some (r, M') ∧ Q r M'
/-- a call of method k ends, with Q -/
def wc (k : Nat) (as : List mm_V) (M : mm_M) (Q : mm_Q) : Prop := wp k 0 (mm_ent k as) [] M Q
section WP
variable {j pc pc' : Nat} {lo lo' : mm_L} {st st' : List mm_V} {M M' : mm_M} {Q : mm_Q}
theorem wp_nx (h : mm_step j pc lo st M = some (.inl (pc', lo', st', M'))) : wp j pc lo st M Q ↔ wp j pc' lo' st' M' Q := by
  constructor
  · rintro ⟨n, r, M2, h1, h2⟩
    cases n with
    | zero => cases h1
    | succ n =>
      rw [mm_run, h] at h1
      exact ⟨n, r, M2, h1, h2⟩
  · rintro ⟨n, r, M2, h1, h2⟩
    exact ⟨n + 1, r, M2, by rw [mm_run, h]; exact h1, h2⟩
theorem wp_end {r : Option Int32} (h : mm_step j pc lo st M = some (.inr (.inr r))) : wp j pc lo st M Q ↔ Q r M := by
  constructor
  · rintro ⟨n, r2, M2, h1, h2⟩
    cases n with
    | zero => cases h1
    | succ n =>
      rw [mm_run, h] at h1
      cases h1
      exact h2
  · intro h2
    exact ⟨1, r, M, by rw [mm_run, h], h2⟩
theorem wp_no (h : mm_step j pc lo st M = none) : wp j pc lo st M Q ↔ False := by
  constructor
  · rintro ⟨n, r2, M2, h1, h2⟩
    cases n with
    | zero => cases h1
    | succ n =>
      rw [mm_run, h] at h1
      cases h1
  · intro h2
    exact h2.elim
theorem wp_call {k : Nat} {as rest : List mm_V} (h : mm_step j pc lo st M = some (.inr (.inl (k, as, rest)))) : wp j pc lo st M Q ↔ wc k as M (fun r M' => wp j (pc + 3) lo (mm_rv r ++ rest) M' Q) := by
  constructor
  · rintro ⟨n, r2, M2, h1, h2⟩
    cases n with
    | zero => cases h1
    | succ n =>
      rw [mm_run, h] at h1
      simp only at h1
      cases hc : mm_run n k 0 (mm_ent k as) [] M with
      | none => rw [hc] at h1; cases h1
      | some a =>
        rw [hc] at h1
        exact ⟨n, a.1, a.2, hc, n, r2, M2, h1, h2⟩
  · rintro ⟨n, r, M2, h1, n2, r2, M3, h2, h3⟩
    refine ⟨max n n2 + 1, r2, M3, ?_, h3⟩
    rw [mm_run, h]
    simp only
    rw [mm_run_mono (Nat.le_max_left n n2) h1]
    exact mm_run_mono (Nat.le_max_right n n2) h2
theorem wp_mono {Q' : mm_Q} (h : wp j pc lo st M Q) (hq : ∀ r M', Q r M' → Q' r M') : wp j pc lo st M Q' := by
  obtain ⟨n, r, M2, h1, h2⟩ := h
  exact ⟨n, r, M2, h1, hq _ _ h2⟩
theorem wc_mono {k : Nat} {as : List mm_V} {Q' : mm_Q} (h : wc k as M Q) (hq : ∀ r M', Q r M' → Q' r M') : wc k as M Q' := wp_mono h hq
/-- the run has this answer and this memory -/
theorem wc_iff {k : Nat} {as : List mm_V} {r : Option Int32} (h : wc k as M (fun r' M2 => r' = r ∧ M2 = M')) : wc k as M Q ↔ Q r M' := by
  obtain ⟨n, r1, M1, h1, rfl, rfl⟩ := h
  constructor
  · rintro ⟨n2, r2, M2, h2, h3⟩
    have e := mm_run_det h1 h2
    cases e
    exact h3
  · intro h3
    exact ⟨n, r1, M1, h1, h3⟩
variable {cc : ByteArray} {x y : Int32} {o : Nat} {u v w : mm_V}
theorem mm_st_eq (hc : mm_code j = cc) {i : Instr} {n : Nat} (hd : decode cc pc = .ok (i, n)) : mm_step j pc lo st M = mm_do j pc i n lo st M := by
  unfold mm_step
  rw [hc, hd]
theorem wi_nx (hc : mm_code j = cc) {i : Instr} {n : Nat} (hd : decode cc pc = .ok (i, n)) (h : mm_do j pc i n lo st M = some (.inl (pc', lo', st', M'))) : wp j pc lo st M Q ↔ wp j pc' lo' st' M' Q := wp_nx ((mm_st_eq hc hd).trans h)
theorem wi_no (hc : mm_code j = cc) {i : Instr} {n : Nat} (hd : decode cc pc = .ok (i, n)) (h : mm_do j pc i n lo st M = none) : wp j pc lo st M Q ↔ False := wp_no ((mm_st_eq hc hd).trans h)
theorem wi_and {B : Prop} (hc : mm_code j = cc) {i : Instr} {n : Nat} (hd : decode cc pc = .ok (i, n)) (h1 : B → mm_do j pc i n lo st M = some (.inl (pc', lo', st', M'))) (h2 : ¬ B → mm_do j pc i n lo st M = none) : wp j pc lo st M Q ↔ (B ∧ wp j pc' lo' st' M' Q) := by
  by_cases hB : B
  · rw [wi_nx hc hd (h1 hB)]
    exact ⟨fun z => ⟨hB, z⟩, fun z => z.2⟩
  · rw [wi_no hc hd (h2 hB)]
    exact ⟨fun z => z.elim, fun z => hB z.1⟩
theorem wi_iconst {n : Int} {z : Int32} (hc : mm_code j = cc) (hd : decode cc pc = .ok (.iconst n, 1)) (hz : Int32.ofInt n = z) : wp j pc lo st M Q ↔ wp j (pc + 1) lo (.inl z :: st) M Q := by subst hz; exact wi_nx hc hd rfl
theorem wi_bipush {n : Int} {z : Int32} (hc : mm_code j = cc) (hd : decode cc pc = .ok (.bipush n, 2)) (hz : (Int8.ofInt n).toInt32 = z) : wp j pc lo st M Q ↔ wp j (pc + 2) lo (.inl z :: st) M Q := by subst hz; exact wi_nx hc hd rfl
theorem wi_sipush {n : Int} {z : Int32} (hc : mm_code j = cc) (hd : decode cc pc = .ok (.sipush n, 3)) (hz : (Int16.ofInt n).toInt32 = z) : wp j pc lo st M Q ↔ wp j (pc + 3) lo (.inl z :: st) M Q := by subst hz; exact wi_nx hc hd rfl
theorem wi_iload_n {k : Fin 4} (hc : mm_code j = cc) (hd : decode cc pc = .ok (.iload_n k, 1)) (hk : lo[k.val]? = some (some (.inl x))) : wp j pc lo st M Q ↔ wp j (pc + 1) lo (.inl x :: st) M Q :=
  wi_nx hc hd (by show (if 1 = 1 then mm_ldi k.val (pc + 1) lo st M else none) = _; rw [if_pos rfl, mm_ldi, hk]; rfl)
theorem wi_iload {k : Nat} (hc : mm_code j = cc) (hd : decode cc pc = .ok (.iload k, 2)) (hk : lo[k]? = some (some (.inl x))) : wp j pc lo st M Q ↔ wp j (pc + 2) lo (.inl x :: st) M Q :=
  wi_nx hc hd (by show (if 2 = 2 then mm_ldi k (pc + 2) lo st M else none) = _; rw [if_pos rfl, mm_ldi, hk]; rfl)
theorem wi_aload_n {k : Fin 4} (hc : mm_code j = cc) (hd : decode cc pc = .ok (.aload_n k, 1)) (hk : lo[k.val]? = some (some (.inr o))) : wp j pc lo st M Q ↔ wp j (pc + 1) lo (.inr o :: st) M Q :=
  wi_nx hc hd (by show (if 1 = 1 then mm_lda k.val (pc + 1) lo st M else none) = _; rw [if_pos rfl, mm_lda, hk]; rfl)
theorem wi_aload {k : Nat} (hc : mm_code j = cc) (hd : decode cc pc = .ok (.aload k, 2)) (hk : lo[k]? = some (some (.inr o))) : wp j pc lo st M Q ↔ wp j (pc + 2) lo (.inr o :: st) M Q :=
  wi_nx hc hd (by show (if 2 = 2 then mm_lda k (pc + 2) lo st M else none) = _; rw [if_pos rfl, mm_lda, hk]; rfl)
theorem wi_istore_n {k : Fin 4} (hc : mm_code j = cc) (hd : decode cc pc = .ok (.istore_n k, 1)) (hk : k.val < lo.length) (he : lo.set k.val (some (.inl x)) = lo') : wp j pc lo (.inl x :: st) M Q ↔ wp j (pc + 1) lo' st M Q := by
  subst he
  exact wi_nx hc hd (by show (if 1 = 1 then mm_sti k.val (pc + 1) lo (.inl x :: st) M else none) = _; rw [if_pos rfl]; simp only [mm_sti]; rw [if_pos hk]; rfl)
theorem wi_istore {k : Nat} (hc : mm_code j = cc) (hd : decode cc pc = .ok (.istore k, 2)) (hk : k < lo.length) (he : lo.set k (some (.inl x)) = lo') : wp j pc lo (.inl x :: st) M Q ↔ wp j (pc + 2) lo' st M Q := by
  subst he
  exact wi_nx hc hd (by show (if 2 = 2 then mm_sti k (pc + 2) lo (.inl x :: st) M else none) = _; rw [if_pos rfl]; simp only [mm_sti]; rw [if_pos hk]; rfl)
theorem wi_iinc {k : Nat} {n : Int} {z : Int32} (hc : mm_code j = cc) (hd : decode cc pc = .ok (.iinc k n, 3)) (hk : lo[k]? = some (some (.inl x))) (hz : Int32.ofInt n = z) (he : lo.set k (some (.inl (x + z))) = lo') : wp j pc lo st M Q ↔ wp j (pc + 3) lo' st M Q := by
  subst hz
  subst he
  exact wi_nx hc hd (by show (if 3 = 3 then mm_inc k n (pc + 3) lo st M else none) = _; rw [if_pos rfl, mm_inc, hk]; rfl)
theorem wi_iadd (hc : mm_code j = cc) (hd : decode cc pc = .ok (.iadd, 1)) : wp j pc lo (.inl y :: .inl x :: st) M Q ↔ wp j (pc + 1) lo (.inl (x + y) :: st) M Q := wi_nx hc hd rfl
theorem wi_isub (hc : mm_code j = cc) (hd : decode cc pc = .ok (.isub, 1)) : wp j pc lo (.inl y :: .inl x :: st) M Q ↔ wp j (pc + 1) lo (.inl (x - y) :: st) M Q := wi_nx hc hd rfl
theorem wi_imul (hc : mm_code j = cc) (hd : decode cc pc = .ok (.imul, 1)) : wp j pc lo (.inl y :: .inl x :: st) M Q ↔ wp j (pc + 1) lo (.inl (x * y) :: st) M Q := wi_nx hc hd rfl
theorem wi_iand (hc : mm_code j = cc) (hd : decode cc pc = .ok (.iand, 1)) : wp j pc lo (.inl y :: .inl x :: st) M Q ↔ wp j (pc + 1) lo (.inl (x &&& y) :: st) M Q := wi_nx hc hd rfl
theorem wi_ior (hc : mm_code j = cc) (hd : decode cc pc = .ok (.ior, 1)) : wp j pc lo (.inl y :: .inl x :: st) M Q ↔ wp j (pc + 1) lo (.inl (x ||| y) :: st) M Q := wi_nx hc hd rfl
theorem wi_ixor (hc : mm_code j = cc) (hd : decode cc pc = .ok (.ixor, 1)) : wp j pc lo (.inl y :: .inl x :: st) M Q ↔ wp j (pc + 1) lo (.inl (x ^^^ y) :: st) M Q := wi_nx hc hd rfl
theorem wi_ishl (hc : mm_code j = cc) (hd : decode cc pc = .ok (.ishl, 1)) : wp j pc lo (.inl y :: .inl x :: st) M Q ↔ wp j (pc + 1) lo (.inl (x <<< (y &&& 31)) :: st) M Q := wi_nx hc hd rfl
theorem wi_ishr (hc : mm_code j = cc) (hd : decode cc pc = .ok (.ishr, 1)) : wp j pc lo (.inl y :: .inl x :: st) M Q ↔ wp j (pc + 1) lo (.inl (x >>> (y &&& 31)) :: st) M Q := wi_nx hc hd rfl
theorem wi_irem (hc : mm_code j = cc) (hd : decode cc pc = .ok (.irem, 1)) : wp j pc lo (.inl y :: .inl x :: st) M Q ↔ (¬ y = 0 ∧ wp j (pc + 1) lo (.inl (x - x / y * y) :: st) M Q) := by
  have e : mm_do j pc .irem 1 lo (.inl y :: .inl x :: st) M = (if 1 = 1 ∧ some (Sum.inl y : mm_V) ≠ some (.inl 0) then mm_bin (fun x y => x - x / y * y) pc lo (.inl y :: .inl x :: st) M else none) := rfl
  refine wi_and hc hd (fun h => ?_) (fun h => ?_)
  · rw [e, if_pos ⟨rfl, by simpa using h⟩]; rfl
  · rw [e, if_neg (by simpa using h)]
theorem wi_idiv (hc : mm_code j = cc) (hd : decode cc pc = .ok (.idiv, 1)) : wp j pc lo (.inl y :: .inl x :: st) M Q ↔ (¬ y = 0 ∧ wp j (pc + 1) lo (.inl (x / y) :: st) M Q) := by
  have e : mm_do j pc .idiv 1 lo (.inl y :: .inl x :: st) M = (if 1 = 1 ∧ some (Sum.inl y : mm_V) ≠ some (.inl 0) then mm_bin (fun x y => x / y) pc lo (.inl y :: .inl x :: st) M else none) := rfl
  refine wi_and hc hd (fun h => ?_) (fun h => ?_)
  · rw [e, if_pos ⟨rfl, by simpa using h⟩]; rfl
  · rw [e, if_neg (by simpa using h)]
theorem wi_ineg (hc : mm_code j = cc) (hd : decode cc pc = .ok (.ineg, 1)) : wp j pc lo (.inl x :: st) M Q ↔ wp j (pc + 1) lo (.inl (-x) :: st) M Q := wi_nx hc hd rfl
theorem wi_i2c (hc : mm_code j = cc) (hd : decode cc pc = .ok (.i2c, 1)) : wp j pc lo (.inl x :: st) M Q ↔ wp j (pc + 1) lo (.inl (x.toUInt32 % 65536).toInt32 :: st) M Q := wi_nx hc hd rfl
theorem wi_dup (hc : mm_code j = cc) (hd : decode cc pc = .ok (.dup, 1)) : wp j pc lo (v :: st) M Q ↔ wp j (pc + 1) lo (v :: v :: st) M Q := wi_nx hc hd rfl
theorem wi_dup2 (hc : mm_code j = cc) (hd : decode cc pc = .ok (.dup2, 1)) : wp j pc lo (v :: w :: st) M Q ↔ wp j (pc + 1) lo (v :: w :: v :: w :: st) M Q := wi_nx hc hd rfl
theorem wi_pop (hc : mm_code j = cc) (hd : decode cc pc = .ok (.pop, 1)) : wp j pc lo (v :: st) M Q ↔ wp j (pc + 1) lo st M Q := wi_nx hc hd rfl
theorem mm_jmp_to {off : Int} {tgt : Nat} (ht : (pc : Int) + off = (tgt : Int)) : mm_jmp pc off lo st M = some (.inl (tgt, lo, st, M)) := by
  unfold mm_jmp
  rw [if_pos (by omega), ht]
  rfl
theorem wi_goto {off : Int} {tgt : Nat} (hc : mm_code j = cc) (hd : decode cc pc = .ok (.goto off, 3)) (ht : (pc : Int) + off = (tgt : Int)) : wp j pc lo st M Q ↔ wp j tgt lo st M Q :=
  wi_nx hc hd (by show (if 3 = 3 then mm_jmp pc off lo st M else none) = _; rw [if_pos rfl, mm_jmp_to ht])
theorem mm_br_to {off : Int} {tgt : Nat} {b : Bool} (ht : (pc : Int) + off = (tgt : Int)) : mm_br b pc off lo st M = some (.inl (if b = true then tgt else pc + 3, lo, st, M)) := by
  unfold mm_br
  rw [if_pos (by omega), ht]
  rfl
theorem wi_if1 {cd : ClassFile.Cond} {off : Int} {tgt : Nat} {B : Prop} {dB : Decidable B} (hc : mm_code j = cc) (hd : decode cc pc = .ok (.ifCond cd off, 3)) (hB : mm_if cd x 0 = @decide B dB) (ht : (pc : Int) + off = (tgt : Int)) : wp j pc lo (.inl x :: st) M Q ↔ (if B then wp j tgt lo st M Q else wp j (pc + 3) lo st M Q) := by
  have e : mm_do j pc (.ifCond cd off) 3 lo (.inl x :: st) M = mm_br (mm_if cd x 0) pc off lo st M := rfl
  rw [hB, mm_br_to ht] at e
  rw [wi_nx hc hd e]
  by_cases h : B
  · rw [if_pos (decide_eq_true h), if_pos h]
  · rw [if_neg (by simpa using h), if_neg h]
theorem wi_if2 {cd : ClassFile.Cond} {off : Int} {tgt : Nat} {B : Prop} {dB : Decidable B} (hc : mm_code j = cc) (hd : decode cc pc = .ok (.if_icmp cd off, 3)) (hB : mm_if cd x y = @decide B dB) (ht : (pc : Int) + off = (tgt : Int)) : wp j pc lo (.inl y :: .inl x :: st) M Q ↔ (if B then wp j tgt lo st M Q else wp j (pc + 3) lo st M Q) := by
  have e : mm_do j pc (.if_icmp cd off) 3 lo (.inl y :: .inl x :: st) M = mm_br (mm_if cd x y) pc off lo st M := rfl
  rw [hB, mm_br_to ht] at e
  rw [wi_nx hc hd e]
  by_cases h : B
  · rw [if_pos (decide_eq_true h), if_pos h]
  · rw [if_neg (by simpa using h), if_neg h]
/-- a switch by a list of its arms -/
def wsw (j : Nat) (lo : mm_L) (st : List mm_V) (M : mm_M) (Q : mm_Q) (x : Int32) (d : Nat) : List (Int32 × Nat) → Prop
  | [] => wp j d lo st M Q
  | a :: r => if x = a.1 then wp j a.2 lo st M Q else wsw j lo st M Q x d r
theorem wi_tsw {d l h : Int} {offs : Array Int} {n td : Nat} {arms : List (Int32 × Nat)} (hc : mm_code j = cc) (hd : decode cc pc = .ok (.tableswitch d l h offs, n)) (htd : (pc : Int) + d = (td : Int))
    (h1 : ∀ a ∈ arms, (¬ (a.1.toInt < l ∨ h < a.1.toInt)) ∧ ∃ off, offs[(a.1.toInt - l).toNat]? = some off ∧ (pc : Int) + off = (a.2 : Int)) (h2 : ∀ z : Int, l ≤ z → z ≤ h → ∃ a ∈ arms, a.1.toInt = z) :
    wp j pc lo (.inl x :: st) M Q ↔ wsw j lo st M Q x td arms := by
  have e : mm_do j pc (.tableswitch d l h offs) n lo (.inl x :: st) M = (if x.toInt < l ∨ h < x.toInt then mm_jmp pc d lo st M else match offs[(x.toInt - l).toNat]? with | some off => mm_jmp pc off lo st M | none => none) := rfl
  by_cases hx : x.toInt < l ∨ h < x.toInt
  · rw [if_pos hx, mm_jmp_to htd] at e
    rw [wi_nx hc hd e]
    have key : ∀ r : List (Int32 × Nat), (∀ a ∈ r, a ∈ arms) → wsw j lo st M Q x td r = wp j td lo st M Q := by
      intro r
      induction r with
      | nil => intro _; rfl
      | cons a r ih =>
        intro hr
        rw [wsw, if_neg (fun (z : x = a.1) => (h1 a (hr a List.mem_cons_self)).1 (z ▸ hx))]
        exact ih (fun b hb => hr b (List.mem_cons_of_mem _ hb))
    rw [key arms (fun _ z => z)]
  · have key : ∀ r : List (Int32 × Nat), (∀ a ∈ r, a ∈ arms) → (∃ a ∈ r, a.1 = x) → (wp j pc lo (.inl x :: st) M Q ↔ wsw j lo st M Q x td r) := by
      intro r
      induction r with
      | nil => rintro _ ⟨a, ha, -⟩; cases ha
      | cons a r ih =>
        intro hr hex
        by_cases ha : x = a.1
        · obtain ⟨-, off, ho, ht⟩ := h1 a (hr a List.mem_cons_self)
          rw [if_neg hx, ha, ho] at e
          rw [wsw, if_pos ha]
          subst ha
          exact wi_nx hc hd (e.trans (mm_jmp_to ht))
        · rw [wsw, if_neg ha]
          refine ih (fun b hb => hr b (List.mem_cons_of_mem _ hb)) ?_
          obtain ⟨b, hb, hbx⟩ := hex
          rcases List.mem_cons.mp hb with rfl | hb
          · exact absurd hbx.symm ha
          · exact ⟨b, hb, hbx⟩
    obtain ⟨a, ha, haz⟩ := h2 x.toInt (by omega) (by omega)
    exact key arms (fun _ z => z) ⟨a, ha, Int32.toInt_inj.mp haz⟩
theorem wi_lsw {d : Int} {ps : Array (Int × Int)} {n td : Nat} {arms : List (Int32 × Nat)} (hc : mm_code j = cc) (hd : decode cc pc = .ok (.lookupswitch d ps, n)) (htd : (pc : Int) + d = (td : Int)) (hs : (ps.toList.zip (ps.toList.drop 1)).all (fun (a, next) => a.1 < next.1) = true)
    (h1 : ∀ a ∈ arms, (pc : Int) + Op.lookupswitch.offset ps.toList d a.1.toInt = (a.2 : Int)) (h2 : ∀ z : Int, (∀ a ∈ arms, a.1.toInt ≠ z) → Op.lookupswitch.offset ps.toList d z = d) :
    wp j pc lo (.inl x :: st) M Q ↔ wsw j lo st M Q x td arms := by
  have e : mm_do j pc (.lookupswitch d ps) n lo (.inl x :: st) M = (if (ps.toList.zip (ps.toList.drop 1)).all (fun (a, next) => a.1 < next.1) = true then mm_jmp pc (Op.lookupswitch.offset ps.toList d x.toInt) lo st M else none) := rfl
  rw [if_pos hs] at e
  by_cases hex : ∃ a ∈ arms, a.1 = x
  · have key : ∀ r : List (Int32 × Nat), (∀ a ∈ r, a ∈ arms) → (∃ a ∈ r, a.1 = x) → (wp j pc lo (.inl x :: st) M Q ↔ wsw j lo st M Q x td r) := by
      intro r
      induction r with
      | nil => rintro _ ⟨a, ha, -⟩; cases ha
      | cons a r ih =>
        intro hr hex
        by_cases ha : x = a.1
        · have ht := h1 a (hr a List.mem_cons_self)
          rw [wsw, if_pos ha]
          subst ha
          exact wi_nx hc hd (e.trans (mm_jmp_to ht))
        · rw [wsw, if_neg ha]
          refine ih (fun b hb => hr b (List.mem_cons_of_mem _ hb)) ?_
          obtain ⟨b, hb, hbx⟩ := hex
          rcases List.mem_cons.mp hb with rfl | hb
          · exact absurd hbx.symm ha
          · exact ⟨b, hb, hbx⟩
    exact key arms (fun _ z => z) hex
  · rw [h2 x.toInt (fun a ha z => hex ⟨a, ha, Int32.toInt_inj.mp z⟩), mm_jmp_to htd] at e
    rw [wi_nx hc hd e]
    have key : ∀ r : List (Int32 × Nat), (∀ a ∈ r, a ∈ arms) → wsw j lo st M Q x td r = wp j td lo st M Q := by
      intro r
      induction r with
      | nil => intro _; rfl
      | cons a r ih =>
        intro hr
        rw [wsw, if_neg (fun z => hex ⟨a, hr a List.mem_cons_self, z.symm⟩)]
        exact ih (fun b hb => hr b (List.mem_cons_of_mem _ hb))
    rw [key arms (fun _ z => z)]
-- fields, arrays
variable {cn i ci k n : Nat} {f : (Nat × Nat) × (Nat × Nat × Bool × Nat)} {fs : List (Option Nat)} {ch : Bool}
theorem wi_getI (hc : mm_code j = cc) (hd : decode cc pc = .ok (.getfield i, 3)) (hn : mm_cno j = cn) (hf : mm_fld cn i = some f) (hs : mm_shape[o]? = some (.inl (f.2.1, fs))) (hk : fs[f.2.2.1]? = some none) : wp j pc lo (.inr o :: st) M Q ↔ wp j (pc + 3) lo (.inl (M o f.2.2.1) :: st) M Q :=
  wi_nx hc hd (by
    show (if 3 = 3 then (match mm_fld (mm_cno j) i with | some e => mm_get e pc lo (.inr o :: st) M | none => none) else none) = _
    rw [if_pos rfl, hn, hf]
    simp only [mm_get, hs, if_true, hk]
    rfl)
theorem wi_getR {g : Nat} (hc : mm_code j = cc) (hd : decode cc pc = .ok (.getfield i, 3)) (hn : mm_cno j = cn) (hf : mm_fld cn i = some f) (hs : mm_shape[o]? = some (.inl (f.2.1, fs))) (hk : fs[f.2.2.1]? = some (some g)) : wp j pc lo (.inr o :: st) M Q ↔ wp j (pc + 3) lo (.inr g :: st) M Q :=
  wi_nx hc hd (by
    show (if 3 = 3 then (match mm_fld (mm_cno j) i with | some e => mm_get e pc lo (.inr o :: st) M | none => none) else none) = _
    rw [if_pos rfl, hn, hf]
    simp only [mm_get, hs, if_true, hk]
    rfl)
theorem wi_put (hc : mm_code j = cc) (hd : decode cc pc = .ok (.putfield i, 3)) (hn : mm_cno j = cn) (hf : mm_fld cn i = some f) (hs : mm_shape[o]? = some (.inl (f.2.1, fs))) (hk : fs[f.2.2.1]? = some none) : wp j pc lo (.inl x :: .inr o :: st) M Q ↔ wp j (pc + 3) lo st (mm_up M o f.2.2.1 x) Q :=
  wi_nx hc hd (by
    show (if 3 = 3 then (match mm_fld (mm_cno j) i with | some e => mm_put e pc lo (.inl x :: .inr o :: st) M | none => none) else none) = _
    rw [if_pos rfl, hn, hf]
    simp only [mm_put, hs, if_true, hk]
    rfl)
def mm_ln (o : Nat) : Nat := match mm_shape[o]? with
  | some (.inr (false, n)) => n
  | _ => 0
theorem vp_in_0 {i : Int32} : ¬ vp_in i 0 := fun h => h (Or.inr (Nat.zero_le _))
theorem wi_iald (ho : o < 30) (hc : mm_code j = cc) (hd : decode cc pc = .ok (.iaload, 1)) : wp j pc lo (.inl x :: .inr o :: st) M Q ↔ (vp_in x (mm_ln o) ∧ wp j (pc + 1) lo (.inl (M o x.toNatClampNeg) :: st) M Q) := by
  have e : mm_do j pc .iaload 1 lo (.inl x :: .inr o :: st) M = mm_ald false pc lo (.inl x :: .inr o :: st) M := rfl
  have hol : mm_shape.length = 30 := rfl
  have hsome := List.getElem?_eq_getElem (l := mm_shape) (i := o) (by omega)
  unfold mm_ln
  simp only [mm_ald] at e
  rw [hsome] at e ⊢
  cases hsh : mm_shape[o]'(by omega) with
  | inl q =>
    rw [hsh] at e
    rw [wi_no hc hd e]
    exact ⟨fun z => z.elim, fun z => vp_in_0 z.1⟩
  | inr q =>
    obtain ⟨ch, n⟩ := q
    rw [hsh] at e
    simp only at e
    cases ch with
    | true =>
      rw [if_neg (fun z => by cases z.1)] at e
      rw [wi_no hc hd e]
      exact ⟨fun z => z.elim, fun z => vp_in_0 z.1⟩
    | false =>
      refine wi_and hc hd (fun h => ?_) (fun h => ?_)
      · rw [e, if_pos ⟨rfl, h⟩]; rfl
      · rw [e, if_neg (fun z => h z.2)]
theorem wi_iast (hc : mm_code j = cc) (hd : decode cc pc = .ok (.iastore, 1)) : wp j pc lo (.inl y :: .inl x :: .inr o :: st) M Q ↔ (vp_in x (mm_ln o) ∧ wp j (pc + 1) lo st (mm_up M o x.toNatClampNeg y) Q) := by
  have e : mm_do j pc .iastore 1 lo (.inl y :: .inl x :: .inr o :: st) M = mm_ast false pc lo (.inl y :: .inl x :: .inr o :: st) M := rfl
  unfold mm_ln
  simp only [mm_ast] at e
  cases hsh : mm_shape[o]? with
  | none =>
    rw [hsh] at e
    rw [wi_no hc hd e]
    exact ⟨fun z => z.elim, fun z => vp_in_0 z.1⟩
  | some q =>
    rw [hsh] at e
    cases q with
    | inl q =>
      rw [wi_no hc hd e]
      exact ⟨fun z => z.elim, fun z => vp_in_0 z.1⟩
    | inr q =>
      obtain ⟨ch, n⟩ := q
      simp only at e
      cases ch with
      | true =>
        rw [if_neg (fun z => by cases z.1)] at e
        rw [wi_no hc hd e]
        exact ⟨fun z => z.elim, fun z => vp_in_0 z.1⟩
      | false =>
        refine wi_and hc hd (fun h => ?_) (fun h => ?_)
        · rw [e, if_pos ⟨rfl, h⟩]; rfl
        · rw [e, if_neg (fun z => h z.2)]
theorem wi_taldx (hc : mm_code j = cc) (hd : decode cc pc = .ok (.iaload, 1)) : wp j pc lo (.inl x :: .inr 40 :: st) M Q ↔ (vp_in x 8 ∧ wp j (pc + 1) lo (.inl (mm_ux x.toNatClampNeg) :: st) M Q) := by
  have e : mm_do j pc .iaload 1 lo (.inl x :: .inr 40 :: st) M = (if (false = false ∧ ((40 : Nat) = 40 ∨ (40 : Nat) = 41) ∧ ¬ (x < 0 ∨ 8 ≤ x.toNatClampNeg)) then mm_nx (pc + 1) lo (.inl (mm_ux x.toNatClampNeg) :: st) M else none) := rfl
  refine wi_and hc hd (fun h => ?_) (fun h => ?_)
  · rw [e, if_pos ⟨rfl, Or.inl rfl, h⟩]; rfl
  · rw [e, if_neg (fun z => h z.2.2)]
theorem wi_taldy (hc : mm_code j = cc) (hd : decode cc pc = .ok (.iaload, 1)) : wp j pc lo (.inl x :: .inr 41 :: st) M Q ↔ (vp_in x 8 ∧ wp j (pc + 1) lo (.inl (mm_uy x.toNatClampNeg) :: st) M Q) := by
  have e : mm_do j pc .iaload 1 lo (.inl x :: .inr 41 :: st) M = (if (false = false ∧ ((41 : Nat) = 40 ∨ (41 : Nat) = 41) ∧ ¬ (x < 0 ∨ 8 ≤ x.toNatClampNeg)) then mm_nx (pc + 1) lo (.inl (mm_uy x.toNatClampNeg) :: st) M else none) := rfl
  refine wi_and hc hd (fun h => ?_) (fun h => ?_)
  · rw [e, if_pos ⟨rfl, Or.inr rfl, h⟩]; rfl
  · rw [e, if_neg (fun z => h z.2.2)]
theorem wi_len (hc : mm_code j = cc) (hd : decode cc pc = .ok (.arraylength, 1)) (h0 : 0 < mm_ln o) : wp j pc lo (.inr o :: st) M Q ↔ wp j (pc + 1) lo (.inl (nI (mm_ln o)) :: st) M Q := by
  have e : mm_do j pc .arraylength 1 lo (.inr o :: st) M = mm_len pc lo (.inr o :: st) M := rfl
  unfold mm_ln at h0 ⊢
  simp only [mm_len] at e
  cases hsh : mm_shape[o]? with
  | none => rw [hsh] at h0; exact absurd h0 (by simp)
  | some q =>
    rw [hsh] at e h0
    cases q with
    | inl q => exact absurd h0 (by simp)
    | inr q =>
      obtain ⟨ch, n⟩ := q
      cases ch with
      | true => exact absurd h0 (by simp)
      | false => exact wi_nx hc hd e
theorem wi_sald (hc : mm_code j = cc) (hd : decode cc pc = .ok (.iaload, 1)) : wp j pc lo (.inl x :: .inr 42 :: st) M Q ↔ (vp_in x (M 43 0).toNatClampNeg ∧ wp j (pc + 1) lo (.inl (M 42 x.toNatClampNeg) :: st) M Q) := by
  have e : mm_do j pc .iaload 1 lo (.inl x :: .inr 42 :: st) M = (if (false = false ∧ ¬ (x < 0 ∨ (M 43 0).toNatClampNeg ≤ x.toNatClampNeg)) then mm_nx (pc + 1) lo (.inl (M 42 x.toNatClampNeg) :: st) M else none) := rfl
  refine wi_and hc hd (fun h => ?_) (fun h => ?_)
  · rw [e, if_pos ⟨rfl, h⟩]; rfl
  · rw [e, if_neg (fun z => h z.2)]
theorem wi_slen (hc : mm_code j = cc) (hd : decode cc pc = .ok (.arraylength, 1)) : wp j pc lo (.inr 42 :: st) M Q ↔ wp j (pc + 1) lo (.inl (M 43 0) :: st) M Q :=
  wi_nx hc hd (show mm_do j pc .arraylength 1 lo (.inr 42 :: st) M = _ from rfl)
theorem wi_ldc {f : (Nat × Nat) × (Int32 × Nat)} (hc : mm_code j = cc) (hd : decode cc pc = .ok (.ldc i, 2)) (hn : mm_cno j = cn) (hf : mm_cst cn i = some f) : wp j pc lo st M Q ↔ wp j (pc + 2) lo (.inl f.2.1 :: st) M Q :=
  wi_nx hc hd (by
    show (if 2 = 2 then (match mm_cst (mm_cno j) i with | some e => mm_nx (pc + 2) lo (.inl e.2.1 :: st) M | none => none) else none) = _
    rw [if_pos rfl, hn, hf]
    rfl)
theorem wi_gst {f : (Nat × Nat) × (Bool × Nat)} (hc : mm_code j = cc) (hd : decode cc pc = .ok (.getstatic i, 3)) (hn : mm_cno j = cn) (hf : mm_stt cn i = some f) : wp j pc lo st M Q ↔ wp j (pc + 3) lo (.inr (if f.2.1 = true then 40 else 41) :: st) M Q :=
  wi_nx hc hd (by
    show (if 3 = 3 then (match mm_stt (mm_cno j) i with | some e => mm_gst e pc lo st M | none => none) else none) = _
    rw [if_pos rfl, hn, hf]
    rfl)
-- calls and ends
variable {g : (Nat × Nat) × (Nat × Nat × Nat × Nat × Nat × Nat × Nat)} {as rest : List mm_V}
theorem wi_call (hc : mm_code j = cc) {i : Instr} {n : Nat} (hd : decode cc pc = .ok (i, n)) (h : mm_do j pc i n lo st M = some (.inr (.inl (k, as, rest)))) : wp j pc lo st M Q ↔ wc k as M (fun r M' => wp j (pc + 3) lo (mm_rv r ++ rest) M' Q) := wp_call ((mm_st_eq hc hd).trans h)
theorem wi_inv (hc : mm_code j = cc) (hd : decode cc pc = .ok (.invokevirtual i, 3)) (hn : mm_cno j = cn) (hg : mm_cll cn i = some g) (h0 : g.2.1 = 0) (hk : g.2.2.1 = k) (hp : mm_np k = n) (hdr : st.drop n = .inr o :: rest) (hta : (st.take n).reverse = as) (hs : mm_shape[o]? = some (.inl (g.2.2.2.1, fs))) (hr : mm_roomy j k (n + 1) rest = true) :
    wp j pc lo st M Q ↔ wc k (.inr o :: as) M (fun r M' => wp j (pc + 3) lo (mm_rv r ++ rest) M' Q) :=
  wi_call hc hd (by
    show (if 3 = 3 then (match mm_cll (mm_cno j) i with | some e => mm_inv j e st | none => none) else none) = _
    rw [if_pos rfl, hn, hg]
    simp only [mm_inv]
    rw [hk, hp, hdr]
    simp only
    rw [hs]
    simp only
    rw [if_pos ⟨h0, trivial, hr⟩, hta])
theorem wi_ins (hc : mm_code j = cc) (hd : decode cc pc = .ok (.invokestatic i, 3)) (hn : mm_cno j = cn) (hg : mm_cll cn i = some g) (h0 : g.2.1 = 1 ∨ g.2.1 = 2) (hk : g.2.2.1 = k) (hp : mm_np k = n) (hle : n ≤ st.length) (hdr : st.drop n = rest) (hta : (st.take n).reverse = as) (hr : mm_roomy j k n rest = true) :
    wp j pc lo st M Q ↔ wc k as M (fun r M' => wp j (pc + 3) lo (mm_rv r ++ rest) M' Q) :=
  wi_call hc hd (by
    show (if 3 = 3 then (match mm_cll (mm_cno j) i with | some e => mm_ins j e pc lo st M | none => none) else none) = _
    rw [if_pos rfl, hn, hg]
    simp only [mm_ins]
    rw [if_neg (by omega), hk, hp, hdr, hta, if_pos ⟨h0, hle, hr⟩])
theorem wi_cpy {na nb : Nat} {z dz sz : Int32} {a b : Nat} (hc : mm_code j = cc) (hd : decode cc pc = .ok (.invokestatic i, 3)) (hn : mm_cno j = cn) (hg : mm_cll cn i = some g) (h0 : g.2.1 = 3) (ha : mm_shape[a]? = some (.inr (false, na))) (hb : mm_shape[b]? = some (.inr (false, nb))) (hfr : 1 ≤ mm_fr j) (hlo : 26 ≤ mm_lo j) (hl : rest.length ≤ 8) :
    wp j pc lo (.inl z :: .inl dz :: .inr a :: .inl sz :: .inr b :: rest) M Q ↔ ((¬ sz < 0 ∧ ¬ dz < 0 ∧ ¬ z < 0 ∧ sz.toNatClampNeg + z.toNatClampNeg ≤ nb ∧ dz.toNatClampNeg + z.toNatClampNeg ≤ na) ∧ wp j (pc + 3) lo rest (mm_set M a (va_cpy (M b) (M a) sz.toNatClampNeg dz.toNatClampNeg z.toNatClampNeg)) Q) := by
  have e : mm_do j pc (.invokestatic i) 3 lo (.inl z :: .inl dz :: .inr a :: .inl sz :: .inr b :: rest) M = mm_cpy j pc lo (.inl z :: .inl dz :: .inr a :: .inl sz :: .inr b :: rest) M := by
    show (if 3 = 3 then (match mm_cll (mm_cno j) i with | some e => mm_ins j e pc lo _ M | none => none) else none) = _
    rw [if_pos rfl, hn, hg]
    simp only [mm_ins]
    rw [if_pos h0]
  simp only [mm_cpy, ha, hb] at e
  refine wi_and hc hd (fun h => ?_) (fun h => ?_)
  · rw [e, if_pos ⟨h, hfr, hlo, hl⟩]; rfl
  · rw [e, if_neg (fun q => h q.1)]
theorem wi_iret (hc : mm_code j = cc) (hd : decode cc pc = .ok (.ireturn, 1)) (hr : mm_ret j = some .int) : wp j pc lo [.inl x] M Q ↔ Q (some x) M :=
  wp_end ((mm_st_eq hc hd).trans (by
    show (if 1 = 1 then mm_rti j [.inl x] else none) = _
    rw [if_pos rfl]
    simp only [mm_rti]
    rw [if_pos (Or.inl hr)]))
theorem wi_zret (hc : mm_code j = cc) (hd : decode cc pc = .ok (.ireturn, 1)) (hr : mm_ret j = some .boolean) : wp j pc lo [.inl x] M Q ↔ ((x = 0 ∨ x = 1) ∧ Q (some x) M) := by
  have e : mm_do j pc .ireturn 1 lo [.inl x] M = (if mm_ret j = some .int ∨ (mm_ret j = some .boolean ∧ (x = 0 ∨ x = 1)) then some (.inr (.inr (some x))) else none) := rfl
  by_cases h : x = 0 ∨ x = 1
  · rw [if_pos (Or.inr ⟨hr, h⟩)] at e
    rw [wp_end ((mm_st_eq hc hd).trans e)]
    exact ⟨fun z => ⟨h, z⟩, fun z => z.2⟩
  · rw [if_neg (fun z => h (z.elim (fun z => by rw [hr] at z; cases z) (fun z => z.2)))] at e
    rw [wp_no ((mm_st_eq hc hd).trans e)]
    exact ⟨fun z => z.elim, fun z => h z.1⟩
theorem wi_vret (hc : mm_code j = cc) (hd : decode cc pc = .ok (.return_, 1)) (hr : mm_ret j = none) : wp j pc lo [] M Q ↔ Q none M :=
  wp_end ((mm_st_eq hc hd).trans (by
    show (if 1 = 1 then mm_rtv j [] else none) = _
    rw [if_pos rfl]
    simp only [mm_rtv]
    rw [if_pos hr]))
end WP
