/-! THE SMALL MACHINE IS SOUND: what it answers, the machine answers -/
/-- an instruction that goes on: neither a call nor an end -/
def mm_on (x : mm_R) : Prop := x = none ∨ ∃ q, x = some (.inl q)
theorem mm_on_none : mm_on none := Or.inl rfl
theorem mm_on_nx {pc : Nat} {lo : mm_L} {st : List mm_V} {M : mm_M} : mm_on (mm_nx pc lo st M) := Or.inr ⟨_, rfl⟩
theorem mm_on_ite {b : Prop} {d : Decidable b} {x y : mm_R} (hx : mm_on x) (hy : mm_on y) : mm_on (if b then x else y) := by
  by_cases h : b
  · rw [if_pos h]; exact hx
  · rw [if_neg h]; exact hy
theorem mm_on_not {x : mm_R} {z : (Nat × List mm_V × List mm_V) ⊕ Option Int32} (hx : mm_on x) (h : x = some (.inr z)) : False := by
  rcases hx with hx | ⟨q, hx⟩ <;> rw [hx] at h <;> cases h
theorem mm_on_jmp {pc : Nat} {off : Int} {lo : mm_L} {st : List mm_V} {M : mm_M} : mm_on (mm_jmp pc off lo st M) := mm_on_ite mm_on_nx mm_on_none
theorem mm_on_br {b : Bool} {pc : Nat} {off : Int} {lo : mm_L} {st : List mm_V} {M : mm_M} : mm_on (mm_br b pc off lo st M) := mm_on_ite mm_on_nx mm_on_none
set_option maxHeartbeats 4000000 in
theorem mm_on_do {j pc : Nat} {i : Instr} {n : Nat} {lo : mm_L} {st : List mm_V} {M : mm_M} (h1 : ∀ k, i ≠ .invokevirtual k) (h2 : ∀ k, i ≠ .invokestatic k) (h3 : i ≠ .ireturn) (h4 : i ≠ .return_) : mm_on (mm_do j pc i n lo st M) := by
  have a1 : ∀ k pc', mm_on (mm_ldi k pc' lo st M) := fun k pc' => by unfold mm_ldi; split <;> first | exact mm_on_nx | exact mm_on_none
  have a2 : ∀ k pc', mm_on (mm_lda k pc' lo st M) := fun k pc' => by unfold mm_lda; split <;> first | exact mm_on_nx | exact mm_on_none
  have a3 : ∀ k pc', mm_on (mm_sti k pc' lo st M) := fun k pc' => by unfold mm_sti; split <;> first | exact mm_on_ite mm_on_nx mm_on_none | exact mm_on_none
  have a4 : ∀ k v pc', mm_on (mm_inc k v pc' lo st M) := fun k v pc' => by unfold mm_inc; split <;> first | exact mm_on_nx | exact mm_on_none
  have a5 : ∀ f, mm_on (mm_bin f pc lo st M) := fun f => by unfold mm_bin; split <;> first | exact mm_on_nx | exact mm_on_none
  have a6 : ∀ f, mm_on (mm_un f pc lo st M) := fun f => by unfold mm_un; split <;> first | exact mm_on_nx | exact mm_on_none
  have a7 : ∀ c off, mm_on (mm_if1 c pc off lo st M) := fun c off => by unfold mm_if1; split <;> first | exact mm_on_br | exact mm_on_none
  have a8 : ∀ c off, mm_on (mm_if2 c pc off lo st M) := fun c off => by unfold mm_if2; split <;> first | exact mm_on_br | exact mm_on_none
  have a9 : ∀ d l h offs, mm_on (mm_tsw d l h offs pc lo st M) := fun d l h offs => by
    unfold mm_tsw
    split
    · refine mm_on_ite mm_on_jmp ?_
      split <;> first | exact mm_on_jmp | exact mm_on_none
    · exact mm_on_none
  have b1 : ∀ d ps, mm_on (mm_lsw d ps pc lo st M) := fun d ps => by unfold mm_lsw; split <;> first | exact mm_on_ite mm_on_jmp mm_on_none | exact mm_on_none
  have b2 : ∀ e, mm_on (mm_get e pc lo st M) := fun e => by
    unfold mm_get
    split
    · split
      · refine mm_on_ite ?_ mm_on_none
        split <;> first | exact mm_on_nx | exact mm_on_none
      · exact mm_on_none
    · exact mm_on_none
  have b3 : ∀ e, mm_on (mm_put e pc lo st M) := fun e => by
    unfold mm_put
    split
    · split
      · refine mm_on_ite ?_ mm_on_none
        split <;> first | exact mm_on_nx | exact mm_on_none
      · exact mm_on_none
    · exact mm_on_none
  have b4 : ∀ ch, mm_on (mm_ald ch pc lo st M) := fun ch => by
    unfold mm_ald
    split
    · split
      · exact mm_on_ite mm_on_nx mm_on_none
      · exact mm_on_none
      · exact mm_on_ite (mm_on_ite mm_on_nx mm_on_none) (mm_on_ite mm_on_nx mm_on_none)
    · exact mm_on_none
  have b5 : ∀ ch, mm_on (mm_ast ch pc lo st M) := fun ch => by
    unfold mm_ast
    split
    · split <;> first | exact mm_on_ite mm_on_nx mm_on_none | exact mm_on_none
    · exact mm_on_none
  have b6 : mm_on (mm_len pc lo st M) := by
    unfold mm_len
    split
    · split
      · exact mm_on_nx
      · exact mm_on_none
      · exact mm_on_none
      · exact mm_on_ite mm_on_nx mm_on_none
    · exact mm_on_none
  cases i with
  | invokevirtual k => exact absurd rfl (h1 k)
  | invokestatic k => exact absurd rfl (h2 k)
  | ireturn => exact absurd rfl h3
  | return_ => exact absurd rfl h4
  | iconst v => exact mm_on_ite mm_on_nx mm_on_none
  | bipush v => exact mm_on_ite mm_on_nx mm_on_none
  | sipush v => exact mm_on_ite mm_on_nx mm_on_none
  | iload_n v => exact mm_on_ite (a1 _ _) mm_on_none
  | iload v => exact mm_on_ite (a1 _ _) mm_on_none
  | aload_n v => exact mm_on_ite (a2 _ _) mm_on_none
  | aload v => exact mm_on_ite (a2 _ _) mm_on_none
  | istore_n v => exact mm_on_ite (a3 _ _) mm_on_none
  | istore v => exact mm_on_ite (a3 _ _) mm_on_none
  | iinc v w => exact mm_on_ite (a4 _ _ _) mm_on_none
  | iadd => exact mm_on_ite (a5 _) mm_on_none
  | isub => exact mm_on_ite (a5 _) mm_on_none
  | imul => exact mm_on_ite (a5 _) mm_on_none
  | iand => exact mm_on_ite (a5 _) mm_on_none
  | ior => exact mm_on_ite (a5 _) mm_on_none
  | ixor => exact mm_on_ite (a5 _) mm_on_none
  | ishl => exact mm_on_ite (a5 _) mm_on_none
  | ishr => exact mm_on_ite (a5 _) mm_on_none
  | irem => exact mm_on_ite (a5 _) mm_on_none
  | idiv => exact mm_on_ite (a5 _) mm_on_none
  | ldc k => exact mm_on_ite (by split <;> first | exact mm_on_nx | exact mm_on_none) mm_on_none
  | ineg => exact mm_on_ite (a6 _) mm_on_none
  | i2c => exact mm_on_ite (a6 _) mm_on_none
  | dup => exact mm_on_ite (by split <;> first | exact mm_on_nx | exact mm_on_none) mm_on_none
  | dup2 => exact mm_on_ite (by split <;> first | exact mm_on_nx | exact mm_on_none) mm_on_none
  | pop => exact mm_on_ite (by split <;> first | exact mm_on_nx | exact mm_on_none) mm_on_none
  | goto off => exact mm_on_ite mm_on_jmp mm_on_none
  | ifCond c off => exact mm_on_ite (a7 _ _) mm_on_none
  | if_icmp c off => exact mm_on_ite (a8 _ _) mm_on_none
  | tableswitch d l h offs => exact a9 _ _ _ _
  | lookupswitch d ps => exact b1 _ _
  | getfield k => exact mm_on_ite (by split <;> first | exact b2 _ | exact mm_on_none) mm_on_none
  | putfield k => exact mm_on_ite (by split <;> first | exact b3 _ | exact mm_on_none) mm_on_none
  | getstatic k => exact mm_on_ite (by split <;> first | exact mm_on_nx | exact mm_on_none) mm_on_none
  | iaload => exact mm_on_ite (b4 _) mm_on_none
  | iastore => exact mm_on_ite (b5 _) mm_on_none
  | arraylength => exact mm_on_ite b6 mm_on_none
  | _ => exact mm_on_none
section MMT
variable {p : Program} {l : Launch} {e : Env} {R : Room} {s : State} {m : MethodId} {args : Array Value} {below : List Frame} {meth : Method} {c : Code} {Q : State → Prop} {j : Nat} {D : va_G} {ad : Nat → Nat} {cI cC : ClassId} {A : Nat → Prop} {nc ns : Nat}
variable {pc pc' : Nat} {lo : mm_L} {st : List mm_V} {M : mm_M} {q : mm_F}
theorem mm_n {n k : Nat} {x : mm_R} {y : mm_F ⊕ ((Nat × List mm_V × List mm_V) ⊕ Option Int32)} (h : (if n = k then x else none) = some y) : n = k ∧ x = some y := by
  split at h
  · exact ⟨by assumption, h⟩
  · cases h
theorem mm_cl_in {cn i : Nat} {f : (Nat × Nat) × (Nat × Nat × Nat × Nat × Nat × Nat × Nat)} (h : mm_cll cn i = some f) : f ∈ mm_calls ∧ f.1 = (cn, i) := by
  unfold mm_cll at h
  have h2 := List.find?_some h
  simp only [Bool.and_eq_true] at h2
  exact ⟨List.mem_of_find?_eq_some h, Prod.ext (Nat.eq_of_beq_eq_true h2.1) (Nat.eq_of_beq_eq_true h2.2)⟩
theorem mm_s_cpy {f : (Nat × Nat) × (Nat × Nat × Nat × Nat × Nat × Nat × Nat)} {i : Nat} (C0 : mm_C p R s m args meth c nc ns j D ad cI cC A) (hf : mm_cll (mm_cno j) i = some f) (hk3 : f.2.1 = 3) (hd : decode (mm_code j) pc = .ok (.invokestatic i, 3))
    (h : mm_cpy j pc lo st M = some (.inl q)) (k : mm_G p l e R s m args below meth c nc ns Q j D ad cI cC A q) : mm_G p l e R s m args below meth c nc ns Q j D ad cI cC A (pc, lo, st, M) := by
  obtain ⟨hx, hb, hml, hr, hlk, hown, hts, hK, hX, hA, hfr, hlo⟩ := C0
  obtain ⟨hfm, hfi⟩ := mm_cl_in hf
  have hok := List.all_eq_true.mp mm_calls_ok f hfm
  obtain ⟨⟨fa, fb⟩, kd, fk, fc, i1, i2, i3, i4⟩ := f
  cases hfi
  simp only at hk3
  subst hk3
  simp only [mm_cOk, Bool.and_eq_true] at hok
  obtain ⟨⟨⟨o1, o2⟩, o3⟩, o4⟩ := hok
  unfold mm_cpy at h
  split at h
  · rename_i n dp a sp b rest
    split at h
    · rename_i na nb ha hb0
      split at h
      · rename_i hc
        obtain ⟨⟨c1, c2, c3, c4, c5⟩, c6, c7, c8⟩ := hc
        have k1 := mm_s_nx h k
        intro H locs ls hP hD hS hl hn
        have hnf : nativeFrameWords "java/lang/System" "arraycopy" 5 + 11 = 18 := by decide +kernel
        refine va_copyi (tys := mm_tys cI cC) (ty := .int) hx hb (by rw [hml, hl.2.1, hn]) hown (hts _ (mm_w_in o1)) (hts _ (mm_w_in o2)) (hts _ (mm_w_in o3)) (hts _ (mm_w_in o4)) hK hP hD.1 hS b a 0 0 (mm_get_w hb0) (mm_get_w ha) rfl rfl rfl c1 c2 c3 c4 c5 (fun _ _ => rfl) (by omega) (by rw [hnf, mm_sum]; omega) hd (fun H1 locs1 hP1 hD1 hS1 => ?_)
        have hP1 : va_P D vwCl ((mm_world ad cI cC M).set a (ad a, .inl (if (false : Bool) = true then cC else cI, na, .inl (va_cpy (M b) (M a) sp.toNatClampNeg dp.toNatClampNeg n.toNatClampNeg)))) H1 := hP1
        have hD1 : va_D A ((mm_world ad cI cC M).set a (ad a, .inl (if (false : Bool) = true then cC else cI, na, .inl (va_cpy (M b) (M a) sp.toNatClampNeg dp.toNatClampNeg n.toNatClampNeg)))) := hD1
        rw [mm_set_w ha] at hP1 hD1
        exact k1 H1 locs1 ls hP1 ⟨hD1, mm_ok_set hD.2 ha⟩ hS1 hl hn
      · cases h
    · cases h
  · cases h
set_option maxHeartbeats 4000000 in
theorem mm_s_step (C0 : mm_C p R s m args meth c nc ns j D ad cI cC A) (h : mm_step j pc lo st M = some (.inl q)) (k : mm_G p l e R s m args below meth c nc ns Q j D ad cI cC A q) : mm_G p l e R s m args below meth c nc ns Q j D ad cI cC A (pc, lo, st, M) := by
  obtain ⟨hx, hb, hml, hr, hlk, hown, hts, hK, hX, hA, hfr, hlo⟩ := id C0
  unfold mm_step at h
  cases hd : decode (mm_code j) pc with
  | error e => rw [hd] at h; cases h
  | ok z =>
    obtain ⟨i, n⟩ := z
    rw [hd] at h
    replace h : mm_do j pc i n lo st M = some (.inl q) := h
    cases i with
    | iconst v => have hz := mm_n h; clear h; obtain ⟨rfl, h⟩ := hz; exact mm_s_row (fun H locs ls hl hP hS w => lv_iconst hx hb hd rfl w) (mm_s_nx h k)
    | bipush v => have hz := mm_n h; clear h; obtain ⟨rfl, h⟩ := hz; exact mm_s_row (fun H locs ls hl hP hS w => lv_bipush hx hb hd rfl w) (mm_s_nx h k)
    | sipush v => have hz := mm_n h; clear h; obtain ⟨rfl, h⟩ := hz; exact mm_s_row (fun H locs ls hl hP hS w => lv_sipush hx hb hd rfl w) (mm_s_nx h k)
    | iload_n v => have hz := mm_n h; clear h; obtain ⟨rfl, h⟩ := hz; exact mm_s_ldi (fun H locs ls rest x z w => lv_iload_n hx hb hd rfl z w) h k
    | iload v => have hz := mm_n h; clear h; obtain ⟨rfl, h⟩ := hz; exact mm_s_ldi (fun H locs ls rest x z w => lv_iload hx hb hd z w) h k
    | aload_n v => have hz := mm_n h; clear h; obtain ⟨rfl, h⟩ := hz; exact mm_s_lda (fun H locs ls rest x z w => lv_aload_n hx hb hd rfl z w) h k
    | aload v => have hz := mm_n h; clear h; obtain ⟨rfl, h⟩ := hz; exact mm_s_lda (fun H locs ls rest x z w => lv_aload hx hb hd z w) h k
    | istore_n v => have hz := mm_n h; clear h; obtain ⟨rfl, h⟩ := hz; exact mm_s_sti (fun H locs ls rest x z hi w => lv_istore_n hx hb hd rfl z hi rfl w) h k
    | istore v => have hz := mm_n h; clear h; obtain ⟨rfl, h⟩ := hz; exact mm_s_sti (fun H locs ls rest x z hi w => lv_istore hx hb hd z hi rfl w) h k
    | iinc v w => have hz := mm_n h; clear h; obtain ⟨rfl, h⟩ := hz; exact mm_s_inc hx hb hd h k
    | iadd => have hz := mm_n h; clear h; obtain ⟨rfl, h⟩ := hz; exact mm_s_bin (fun H locs ls rest x y _ w => lv_iadd hx hb hd w) h k
    | isub => have hz := mm_n h; clear h; obtain ⟨rfl, h⟩ := hz; exact mm_s_bin (fun H locs ls rest x y _ w => lv_isub hx hb hd w) h k
    | imul => have hz := mm_n h; clear h; obtain ⟨rfl, h⟩ := hz; exact mm_s_bin (fun H locs ls rest x y _ w => lv_imul hx hb hd w) h k
    | iand => have hz := mm_n h; clear h; obtain ⟨rfl, h⟩ := hz; exact mm_s_bin (fun H locs ls rest x y _ w => lv_iand hx hb hd w) h k
    | ior => have hz := mm_n h; clear h; obtain ⟨rfl, h⟩ := hz; exact mm_s_bin (fun H locs ls rest x y _ w => lv_ior hx hb hd w) h k
    | ixor => have hz := mm_n h; clear h; obtain ⟨rfl, h⟩ := hz; exact mm_s_bin (fun H locs ls rest x y _ w => lv_ixor hx hb hd w) h k
    | ishl => have hz := mm_n h; clear h; obtain ⟨rfl, h⟩ := hz; exact mm_s_bin (fun H locs ls rest x y _ w => lv_ishl hx hb hd w) h k
    | ishr => have hz := mm_n h; clear h; obtain ⟨rfl, h⟩ := hz; exact mm_s_bin (fun H locs ls rest x y _ w => lv_ishr hx hb hd w) h k
    | irem =>
      replace h : (if n = 1 ∧ st.head? ≠ some (.inl 0) then mm_bin (fun x y => x - x / y * y) pc lo st M else none) = some (.inl q) := h
      split at h
      · rename_i hz
        obtain ⟨hn1, hz⟩ := hz
        subst hn1
        exact mm_s_bin (fun H locs ls rest x y hy w => lv_irem hx hb hd (fun e0 => hz (by rw [hy, e0])) w) h k
      · cases h
    | idiv =>
      replace h : (if n = 1 ∧ st.head? ≠ some (.inl 0) then mm_bin (fun x y => x / y) pc lo st M else none) = some (.inl q) := h
      split at h
      · rename_i hz
        obtain ⟨hn1, hz⟩ := hz
        subst hn1
        exact mm_s_bin (fun H locs ls rest x y hy w => lv_idiv hx hb hd (fun e0 => hz (by rw [hy, e0])) w) h k
      · cases h
    | ldc i =>
      have hz := mm_n h; clear h; obtain ⟨rfl, h⟩ := hz
      split at h
      · rename_i f hf
        have hfm : f ∈ mm_csts := List.mem_of_find?_eq_some hf
        have hfi := List.find?_some hf
        simp only [Bool.and_eq_true] at hfi
        have e1 := Nat.eq_of_beq_eq_true hfi.1
        have e2 := Nat.eq_of_beq_eq_true hfi.2
        have hw := mm_w_in (List.all_eq_true.mp mm_csts_ok f hfm)
        rw [e1, e2] at hw
        exact mm_s_row (fun H locs ls hl hP hS w => lv_ldc hx hb hown (hts _ hw) hd w) (mm_s_nx h k)
      · cases h
    | ineg => have hz := mm_n h; clear h; obtain ⟨rfl, h⟩ := hz; exact mm_s_un (fun H locs ls rest x w => lv_ineg hx hb hd w) h k
    | i2c => have hz := mm_n h; clear h; obtain ⟨rfl, h⟩ := hz; exact mm_s_un (fun H locs ls rest x w => lv_i2c hx hb hd rfl w) h k
    | dup =>
      have hz := mm_n h; clear h; obtain ⟨rfl, h⟩ := hz
      split at h
      · exact mm_s_row (fun H locs ls hl hP hS w => lv_dup hx hb hd (mm_tv_cat ad _) w) (mm_s_nx h k)
      · cases h
    | dup2 =>
      have hz := mm_n h; clear h; obtain ⟨rfl, h⟩ := hz
      split at h
      · exact mm_s_row (fun H locs ls hl hP hS w => lv_dup2_11 hx hb hd (mm_tv_cat ad _) (mm_tv_cat ad _) w) (mm_s_nx h k)
      · cases h
    | pop =>
      have hz := mm_n h; clear h; obtain ⟨rfl, h⟩ := hz
      split at h
      · exact mm_s_row (fun H locs ls hl hP hS w => lv_pop hx hb hd (mm_tv_cat ad _) w) (mm_s_nx h k)
      · cases h
    | goto off =>
      have hz := mm_n h; clear h; obtain ⟨rfl, h⟩ := hz
      obtain ⟨tgt, ht, k1⟩ := mm_s_jmp h k
      exact mm_s_row (fun H locs ls hl hP hS w => lv_goto hx hb hd ht w) k1
    | ifCond cd off => have hz := mm_n h; clear h; obtain ⟨rfl, h⟩ := hz; exact mm_s_if1 hx hb hd h k
    | if_icmp cd off => have hz := mm_n h; clear h; obtain ⟨rfl, h⟩ := hz; exact mm_s_if2 hx hb hd h k
    | tableswitch d l h' offs => exact mm_s_tsw hx hb hd h k
    | lookupswitch d ps => exact mm_s_lsw hx hb hd h k
    | getfield i =>
      have hz := mm_n h; clear h; obtain ⟨rfl, h⟩ := hz
      split at h
      · rename_i f hf
        exact mm_s_get C0 hf hd h k
      · cases h
    | putfield i =>
      have hz := mm_n h; clear h; obtain ⟨rfl, h⟩ := hz
      split at h
      · rename_i f hf
        exact mm_s_put C0 hf hd h k
      · cases h
    | getstatic i =>
      have hz := mm_n h; clear h; obtain ⟨rfl, h⟩ := hz
      split at h
      · rename_i f hf
        exact mm_s_gst C0 hf hd h k
      · cases h
    | iaload => have hz := mm_n h; clear h; obtain ⟨rfl, h⟩ := hz; exact mm_s_ald C0 hd h k
    | iastore => have hz := mm_n h; clear h; obtain ⟨rfl, h⟩ := hz; exact mm_s_ast C0 hd h k
    | arraylength => have hz := mm_n h; clear h; obtain ⟨rfl, h⟩ := hz; exact mm_s_len C0 hd h k
    | invokevirtual i =>
      have hz := mm_n h; clear h; obtain ⟨rfl, h⟩ := hz
      split at h
      · unfold mm_inv at h
        split at h
        · split at h
          · split at h <;> cases h
          · cases h
        · cases h
      · cases h
    | invokestatic i =>
      have hz := mm_n h; clear h; obtain ⟨rfl, h⟩ := hz
      split at h
      · rename_i f hf
        unfold mm_ins at h
        split at h
        · rename_i hk3
          exact mm_s_cpy C0 hf hk3 hd h k
        · split at h <;> cases h
      · cases h
    | ireturn =>
      have hz := mm_n h; clear h; obtain ⟨rfl, h⟩ := hz
      unfold mm_rti at h
      split at h
      · split at h <;> cases h
      · cases h
    | return_ =>
      have hz := mm_n h; clear h; obtain ⟨rfl, h⟩ := hz
      unfold mm_rtv at h
      split at h
      · split at h <;> cases h
      · cases h
    | _ => exact absurd (show (none : mm_R) = some (.inl q) from h) (by simp)
-- contracts
def mm_pre (D : va_G) (ad : Nat → Nat) (cI cC : ClassId) (M : mm_M) (sz : Nat) (U : State) : Prop :=
  U.heap.size = sz ∧ va_P D vwCl (mm_world ad cI cC M) U.heap ∧ va_K D vwCl (mm_tys cI cC) U ∧ mm_DD (fun _ => True) ad cI cC M ∧ mm_X ad (va_A (mm_world ad cI cC M) sz) U U.heap
def mm_B (D : va_G) (ad : Nat → Nat) (cI cC : ClassId) (M' : mm_M) (t : State) : Prop := va_P D vwCl (mm_world ad cI cC M') t.heap ∧ va_K D vwCl (mm_tys cI cC) t ∧ mm_ok ad M'
def mm_post (r0 : Option Int32) (M0 : mm_M) (D : va_G) (ad : Nat → Nat) (cI cC : ClassId) (A : Nat → Prop) : Array Value → State → Outcome → State → Prop := match r0 with
  | none => va_Qv (fun M' : mm_M => M' = M0) (mm_B D ad cI cC) A
  | some v => va_Qi (fun (r : Int32) (M' : mm_M) => r = v ∧ M' = M0) (mm_B D ad cI cC) A
def mm_ws (k : Nat) : List Cond := .code (mm_y k) (mm_code k) (mm_maxL k) (mm_ret k) :: mm_GW
def mm_rm (k : Nat) : Room := { frames := mm_fr k, cells := 0, slots := 0, locals := mm_lo k }
def mm_met (l : Launch) (k : Nat) (as : List mm_V) (M : mm_M) (r0 : Option Int32) (M0 : mm_M) : Prop := ∀ (D : va_G) (ad : Nat → Nat) (cI cC : ClassId) (sz : Nat),
  Met l (mm_y k) (mm_ws k) (mm_rm k) (va_Pc (as.map (mm_tv ad)) (mm_pre D ad cI cC M sz)) (mm_post r0 M0 D ad cI cC (va_A (mm_world ad cI cC M) sz)) 0 0 (va_A (mm_world ad cI cC M) sz)
theorem mm_blind {as : List Value} {sz : Nat} : FrameBlind (va_Pc as (mm_pre D ad cI cC M sz)) := by
  intro a U g mk q
  obtain ⟨q0, q1, qP, qK, qD, qX⟩ := q
  exact ⟨q0, q1, qP, va_K.moved (u := U) (U := U.calling g mk a) (Vm.Alike.refl U.vm) qK, qD, mm_X_blind g mk a qX⟩
theorem mm_rec_ok {k : Nat} (hk : k < mm_tab.length) : plainFor (mm_y k) = true ∧ Cond.code (mm_y k) (mm_code k) (mm_maxL k) (mm_ret k) ∈ mm_GW ∧ Cond.initialized (mm_y k).cls ∈ mm_GW ∧ (mm_y k).cls = mm_cn (mm_cno k) ∧ (mm_y k).cls ≠ "java/lang/invoke/MethodHandle" ∧ (mm_y k).cls ≠ "java/lang/invoke/VarHandle" ∧ (parseMethodDescriptor (mm_y k).desc).map (fun d => d.parameters.length) = some (mm_np k) := by
  have hm : mm_rec k ∈ mm_tab := by
    have e1 : mm_rec k = mm_tab[k] := by simp [mm_rec, List.getD, List.getElem?_eq_getElem hk]
    rw [e1]
    exact List.getElem_mem hk
  have h := List.all_eq_true.mp mm_tab_ok _ hm
  simp only [mm_tOk, mm_hOk, Bool.and_eq_true, decide_eq_true_eq] at h
  obtain ⟨⟨⟨⟨h1, h2⟩, h3⟩, h4⟩, h5⟩ := h
  exact ⟨h1, mm_w_in h2, mm_w_in h3, h4, h5⟩
theorem mm_ws_good {k : Nat} (hk : k < mm_tab.length) (ws : List Cond) (hw : ∀ w ∈ ws, w ∈ mm_GW) : GoodIn mm_GW (ws ++ mm_ws k) := by
  refine mm_good _ (fun w h => ?_)
  rcases List.mem_append.mp h with h | h
  · exact hw w h
  · rcases List.mem_cons.mp h with rfl | h
    · exact (mm_rec_ok hk).2.1
    · exact h
theorem mm_enter (C0 : mm_C p R s m args meth c nc ns j D ad cI cC A) {k : Nat} {as : List mm_V} {H : Heap} {locs : List Loc} (hP : va_P D vwCl (mm_world ad cI cC M) H) (hD : mm_DD A ad cI cC M) (hS : va_S A s.heap H locs) (U : State) (hU : U.heap = H) (hW : s.WarmedH U.vm) :
    va_Pc (as.map (mm_tv ad)) (mm_pre D ad cI cC M H.size) (as.map (mm_tv ad)).toArray U := by
  obtain ⟨hx, hb, hml, hr, hlk, hown, hts, hK, hX, hA, hfr, hlo⟩ := C0
  refine ⟨rfl, by rw [hU], by rw [hU]; exact hP, va_K.moved hW.alike hK, ⟨hD.1.weaken (fun _ _ _ _ => trivial), hD.2⟩, mm_X_go hX hW hU hS ?_⟩
  intro q h
  rcases h with ⟨i, e0, h⟩ | h
  · exact hD.1.2 i (q, e0) h
  · exact hA q (Nat.le_trans hS.1 h)
/-- behind a call -/
theorem mm_leave (C0 : mm_C p R s m args meth c nc ns j D ad cI cC A) {as : List mm_V} {r : List mm_V} {r0 : Option Int32} {M0 : mm_M} {H : Heap} {locs : List Loc} {ls : Array Slot} {a : Array Value}
    (hP : va_P D vwCl (mm_world ad cI cC M) H) (hD : mm_DD A ad cI cC M) (hS : va_S A s.heap H locs) (hl : mm_ls ad lo ls) (hn : lo.length = mm_maxL j)
    (hr : va_Run p l e R s m args below meth c H locs nc ns 0 0 (F0 m pc ls (st.map (mm_tv ad))) (r.map (mm_tv ad)) (mm_post r0 M0 D ad cI cC (va_A (mm_world ad cI cC M) H.size) a) (va_A (mm_world ad cI cC M) H.size))
    (k : mm_G p l e R s m args below meth c nc ns Q j D ad cI cC A (pc + 3, lo, mm_rv r0 ++ r, M0)) : W p l e R s m args below meth c H locs nc ns Q (F0 m pc ls (st.map (mm_tv ad))) := by
  obtain ⟨hx, hb, hml, hr0, hlk, hown, hts, hK, hX, hA, hfr, hlo⟩ := C0
  have hF : ∀ q, va_A (mm_world ad cI cC M) H.size q → A q := by
    intro q h
    rcases h with ⟨i, e0, h⟩ | h
    · exact hD.1.2 i (q, e0) h
    · exact hA q (Nat.le_trans hS.1 h)
  cases r0 with
  | none =>
    refine va_callv (a := a) hr hS (fun q _ h => hF q h) hF (fun u t H1 locs1 ht hvm hw hB hz1 hk1 hS1 => ?_)
    subst hw
    obtain ⟨hP1, -, hO1⟩ := hB
    rw [ht] at hP1
    exact k H1 locs1 ls hP1 ⟨mm_D hD.1, hO1⟩ hS1 hl hn
  | some v =>
    refine va_calli (a := a) hr hS (fun q _ h => hF q h) hF (fun r1 u t H1 locs1 ht hvm hw hB hz1 hk1 hS1 => ?_)
    obtain ⟨rfl, rfl⟩ := hw
    obtain ⟨hP1, -, hO1⟩ := hB
    rw [ht] at hP1
    exact k H1 locs1 ls hP1 ⟨mm_D hD.1, hO1⟩ hS1 hl hn
theorem mm_s_call (C0 : mm_C p R s m args meth c nc ns j D ad cI cC A) {k : Nat} {as r : List mm_V} {r0 : Option Int32} {M0 : mm_M} (h : mm_step j pc lo st M = some (.inr (.inl (k, as, r)))) (hM : k < mm_tab.length → as.length ≤ mm_maxL k → mm_met l k as M r0 M0)
    (kk : mm_G p l e R s m args below meth c nc ns Q j D ad cI cC A (pc + 3, lo, mm_rv r0 ++ r, M0)) : mm_G p l e R s m args below meth c nc ns Q j D ad cI cC A (pc, lo, st, M) := by
  obtain ⟨hx, hb, hml, hr, hlk, hown, hts, hK, hX, hA, hfr, hlo⟩ := id C0
  unfold mm_step at h
  cases hd : decode (mm_code j) pc with
  | error e => rw [hd] at h; cases h
  | ok z =>
    obtain ⟨i, n⟩ := z
    rw [hd] at h
    replace h : mm_do j pc i n lo st M = some (.inr (.inl (k, as, r))) := h
    have nx : ∀ {P' L' S' M'}, ¬ (mm_nx P' L' S' M' = some (.inr (.inl (k, as, r)))) := fun z => by cases z
    cases i with
    | invokevirtual i =>
      have hz := mm_n h; clear h; obtain ⟨rfl, h⟩ := hz
      split at h
      · rename_i f hf
        obtain ⟨hfm, hfi⟩ := mm_cl_in hf
        have hok := List.all_eq_true.mp mm_calls_ok f hfm
        unfold mm_inv at h
        split at h
        · rename_i o r' hdrop
          split at h
          · rename_i ci fs ho
            split at h
            · rename_i hc
              obtain ⟨⟨fa, fb⟩, kd, fk, fc, i1, i2, i3, i4⟩ := f
              cases hfi
              cases h
              obtain ⟨hk0, hci, hroom⟩ := hc
              simp only at hk0 hci hroom hdrop
              subst hk0
              subst hci
              simp only [mm_cOk, Bool.and_eq_true, decide_eq_true_eq] at hok
              obtain ⟨⟨⟨⟨⟨o0, o1⟩, o2⟩, o3⟩, o4⟩, o5⟩ := hok
              simp only [mm_roomy, Bool.and_eq_true] at hroom
              obtain ⟨⟨⟨g1, g2⟩, g3⟩, g4⟩ := hroom
              have g1 := Nat.le_of_ble_eq_true g1
              have g2 := Nat.le_of_ble_eq_true g2
              have g3 := Nat.le_of_ble_eq_true g3
              have g4 := Nat.le_of_ble_eq_true g4
              have hlen : mm_np fk ≤ st.length := by
                have z : (st.drop (mm_np fk)).length = (r.length + 1) := by rw [hdrop]; rfl
                rw [List.length_drop] at z
                omega
              have hna : ((st.take (mm_np fk)).reverse).length = mm_np fk := by simp; omega
              have hM1 := hM o0 (by simp only [List.length_cons, hna]; exact g4) D ad cI cC
              have hrk := mm_rec_ok o0
              intro H locs ls hP hD hS hl hn
              obtain ⟨rq, hrq1, hrq2⟩ : ∃ rq : vw_C, vwCl[ci]? = some rq ∧ rq.1 = (mm_y fk).cls := by
                cases hv : vwCl[ci]? with
                | none => rw [hv] at o5; cases o5
                | some rq => rw [hv] at o5; exact ⟨rq, rfl, Option.some.inj o5⟩
              have hrec : ∃ cellB : Cell, H[ad o]? = some cellB ∧ cellB.vm.isStatics = false ∧ s.vm.findClass (mm_y fk).cls = some cellB.cls := by
                rw [← hrq2]
                exact va_recv hK hP hrq1 (mm_get_w ho)
              have hst : st.map (mm_tv ad) = ((st.take (mm_np fk)).reverse.map (mm_tv ad)).reverse ++ .ref (ad o) :: r.map (mm_tv ad) := by
                rw [← List.map_reverse, List.reverse_reverse]
                conv => lhs; rw [← List.take_append_drop (mm_np fk) st, hdrop, List.map_append]
                rfl
              refine mm_leave (a := (Value.ref (ad o) :: (st.take (mm_np fk)).reverse.map (mm_tv ad)).toArray) C0 (as := .inr o :: (st.take (mm_np fk)).reverse) hP hD hS hl hn (va_runV (As := (st.take (mm_np fk)).reverse.map (mm_tv ad)) (nL := mm_maxL j) (own := mm_cn (mm_cno j)) (Ts := mm_GW) ⟨hx, hb, hml, hown, hts⟩ (hM1 H.size)
                (cwV (C := (mm_y fk).cls) (mm_np fk) hts (mm_ws_good o0 [.methodLink (mm_cn (mm_cno j)) i (mm_y fk), .instanceMethod (mm_y fk), .selects (mm_y fk).cls (mm_y fk) (mm_y fk), .initialized (mm_y fk).cls] ?_) rfl rfl rfl ⟨rfl, hrk.2.2.2.2⟩ ⟨?_, ?_⟩)
                ⟨mm_blind, hrec, fun U hU hW => mm_enter (as := .inr o :: (st.take (mm_np fk)).reverse) (k := fk) C0 hP hD hS U hU hW⟩ rfl (by rw [List.length_map]; exact hna) (by show ls.size = _; rw [hl.2.1, hn]) hst (lv_room (by rw [mm_sum]; exact g3)) hd ⟨hlo.2.1, hlo.2.2⟩) kk
              · intro w hw
                simp only [List.mem_cons, List.not_mem_nil, or_false] at hw
                rcases hw with rfl | rfl | rfl | rfl
                · exact mm_w_in o1
                · exact mm_w_in o2
                · exact mm_w_in o3
                · exact mm_w_in o4
              · exact Nat.le_trans g1 hfr
              · exact Nat.le_trans g2 hlo.1
            · cases h
          · cases h
        · cases h
      · cases h
    | invokestatic i =>
      have hz := mm_n h; clear h; obtain ⟨rfl, h⟩ := hz
      split at h
      · rename_i f hf
        obtain ⟨hfm, hfi⟩ := mm_cl_in hf
        have hok := List.all_eq_true.mp mm_calls_ok f hfm
        unfold mm_ins at h
        split at h
        · unfold mm_cpy at h
          split at h
          · split at h
            · split at h
              · exact absurd h nx
              · cases h
            · cases h
          · cases h
        · split at h
          · rename_i hc
            obtain ⟨⟨fa, fb⟩, kd, fk, fc, i1, i2, i3, i4⟩ := f
            cases hfi
            cases h
            obtain ⟨hk0, hlen, hroom⟩ := hc
            simp only at hk0 hlen hroom
            simp only [mm_roomy, Bool.and_eq_true] at hroom
            obtain ⟨⟨⟨g1, g2⟩, g3⟩, g4⟩ := hroom
            have g1 := Nat.le_of_ble_eq_true g1
            have g2 := Nat.le_of_ble_eq_true g2
            have g3 := Nat.le_of_ble_eq_true g3
            have g4 := Nat.le_of_ble_eq_true g4
            have hna : ((st.take (mm_np fk)).reverse).length = mm_np fk := by simp; omega
            have hst : st.map (mm_tv ad) = ((st.take (mm_np fk)).reverse.map (mm_tv ad)).reverse ++ (st.drop (mm_np fk)).map (mm_tv ad) := by
              rw [← List.map_reverse, List.reverse_reverse, ← List.map_append, List.take_append_drop]
            rcases hk0 with rfl | rfl
            · simp only [mm_cOk, Bool.and_eq_true, decide_eq_true_eq] at hok
              obtain ⟨⟨⟨o0, o1⟩, o2⟩, o3⟩ := hok
              have hM1 := hM o0 (by rw [hna]; exact g4) D ad cI cC
              have hrk := mm_rec_ok o0
              intro H locs ls hP hD hS hl hn
              refine mm_leave (a := ((st.take (mm_np fk)).reverse.map (mm_tv ad)).toArray) C0 (as := (st.take (mm_np fk)).reverse) hP hD hS hl hn (va_runS (As := (st.take (mm_np fk)).reverse.map (mm_tv ad)) (nL := mm_maxL j) (own := mm_cn (mm_cno j)) (Ts := mm_GW) ⟨hx, hb, hml, hown, hts⟩ (hM1 H.size)
                (va_cwS (mm_np fk) hts (mm_ws_good o0 [.methodLink (mm_cn (mm_cno j)) i (mm_y fk), .static (mm_y fk), .initialized (mm_y fk).cls] ?_) rfl rfl rfl hrk.2.2.2.2 ⟨?_, ?_⟩)
                ⟨mm_blind, fun U hU hW => mm_enter (as := (st.take (mm_np fk)).reverse) (k := fk) C0 hP hD hS U hU hW⟩ rfl (by rw [List.length_map]; exact hna) (by show ls.size = _; rw [hl.2.1, hn]) hst (lv_room (by rw [mm_sum]; exact g3)) hd ⟨hlo.2.1, hlo.2.2⟩) kk
              · intro w hw
                simp only [List.mem_cons, List.not_mem_nil, or_false] at hw
                rcases hw with rfl | rfl | rfl
                · exact mm_w_in o1
                · exact mm_w_in o2
                · exact mm_w_in o3
              · exact Nat.le_trans g1 hfr
              · exact Nat.le_trans g2 hlo.1
            · simp only [mm_cOk, Bool.and_eq_true, decide_eq_true_eq] at hok
              obtain ⟨⟨⟨o0, o1⟩, o2⟩, o3⟩ := hok
              have hM1 := hM o0 (by rw [hna]; exact g4) D ad cI cC
              have hrk := mm_rec_ok o0
              have hnest := hX.2.1 _ hfm rfl
              intro H locs ls hP hD hS hl hn
              exact mm_leave (a := ((st.take (mm_np fk)).reverse.map (mm_tv ad)).toArray) C0 (as := (st.take (mm_np fk)).reverse) hP hD hS hl hn (va_runSN (host := "LimbScore") (As := (st.take (mm_np fk)).reverse.map (mm_tv ad)) (nL := mm_maxL j) (own := mm_cn (mm_cno j)) (Ts := mm_GW) ⟨hx, hb, hml, hown, hts⟩ (hM1 H.size)
                ⟨va_cnB (Ts := mm_GW) (mm_np fk) hts (mm_ws_good o0 [] (fun w hw => by cases hw)) rfl rfl rfl hnest (hts _ (mm_w_in o3)) hrk.2.2.2.2 ⟨Nat.le_trans g1 hfr, Nat.le_trans g2 hlo.1⟩, hts _ (mm_w_in o2), trivial⟩
                ⟨mm_blind, fun U hU hW => mm_enter (as := (st.take (mm_np fk)).reverse) (k := fk) C0 hP hD hS U hU hW⟩ rfl (by rw [List.length_map]; exact hna) (by show ls.size = _; rw [hl.2.1, hn]) hst (lv_room (by rw [mm_sum]; exact g3)) hd ⟨hlo.2.1, hlo.2.2⟩) kk
          · cases h
      · cases h
    | ireturn =>
      have hz := mm_n h; clear h; obtain ⟨rfl, h⟩ := hz
      unfold mm_rti at h
      split at h
      · split at h <;> cases h
      · cases h
    | return_ =>
      have hz := mm_n h; clear h; obtain ⟨rfl, h⟩ := hz
      unfold mm_rtv at h
      split at h
      · split at h <;> cases h
      · cases h
    | _ => exact (mm_on_not (mm_on_do (by simp) (by simp) (by simp) (by simp)) h).elim
theorem mm_ofW {y : MethodName} {ws ws' : List Cond} {rm : Room} {Pc : Array Value → State → Prop} {Qc : Array Value → State → Outcome → State → Prop} {mc ms : Nat} {free : Addr → Prop} {cc : ByteArray} {maxL : Nat} {ret : Option FieldType}
    (hy : plainFor y = true) (hw : ws = Cond.code y cc maxL ret :: ws')
    (body : ∀ p e s m args below meth c s₁, BodyLoose p l y (headSpec ws rm) cc maxL ret e s m args below meth c s₁ → c.maxLocals = maxL → Pc args s →
      W p l e (headSpec ws rm).room s m args below meth c s.heap [] 0 0 (MQ below Qc args s mc ms free) (entryFrame m args maxL)) : Met l y ws rm Pc Qc mc ms free := by
  refine MetFree.of_bodySF (code := cc) (maxLocals := maxL) (ret := ret) hy ?_ ?_
  · intro args s m h hn
    obtain ⟨meth, c, h1, h2, h3, h4, h5, h6, -, -⟩ := Cond.code_spec hn (atoms_spec (ws := ws) h _ (by rw [hw]; exact List.mem_cons_self))
    exact ⟨meth, c, h1, h2, h3, h4, h5, h6⟩
  · intro p e s m args below meth c s₁ B hml hP _
    have hh0 : s₁.heap = s.heap := by rw [B.state]; rfl
    obtain ⟨t, a1, o, b1, b2, b3⟩ := body p e s m args below meth c s₁ B hml hP s₁ hh0 (Stand.of_body B)
    exact ⟨t, o, a1, b1, b2, ⟨b3.1, b3.2⟩⟩
theorem mm_s_ret (C0 : mm_C p R s m args meth c 0 0 j D ad cI cC A) {r : Option Int32} (h : mm_step j pc lo st M = some (.inr (.inr r))) : mm_G p l e R s m args below meth c 0 0 (MQ below (mm_post r M D ad cI cC A) args s 0 0 A) j D ad cI cC A (pc, lo, st, M) := by
  obtain ⟨hx, hb, hml, hr, hlk, hown, hts, hK, hX, hA, hfr, hlo⟩ := id C0
  unfold mm_step at h
  cases hd : decode (mm_code j) pc with
  | error e => rw [hd] at h; cases h
  | ok z =>
    obtain ⟨i, n⟩ := z
    rw [hd] at h
    replace h : mm_do j pc i n lo st M = some (.inr (.inr r)) := h
    have key : ∀ {lo' st' M' pc'}, ¬ (mm_nx pc' lo' st' M' = some (.inr (.inr r))) := fun z => by cases z
    cases i with
    | ireturn =>
      have hz := mm_n h; clear h; obtain ⟨rfl, h⟩ := hz
      unfold mm_rti at h
      split at h
      · rename_i v
        split at h
        · rename_i hc
          cases h
          intro H locs ls hP hD hS hl hn
          have hq : ∀ t : State, t.heap = H → s.WarmedH t.vm → mm_post (some v) M D ad cI cC A args s (.returned (some (.int v))) t := fun t ht hW => ⟨⟨v, M, rfl, ⟨rfl, rfl⟩, by rw [ht]; exact hP, va_K.moved hW.alike hK, hD.2⟩, hS.F ht⟩
          rcases hc with hc | ⟨hc, hv⟩
          · exact W.iret hx hb (hr.trans hc) hq hS.2.2 hd hlk
          · exact W.zret hx hb (hr.trans hc) (by rcases hv with rfl | rfl <;> rfl) hq hS.2.2 hd hlk
        · cases h
      · cases h
    | return_ =>
      have hz := mm_n h; clear h; obtain ⟨rfl, h⟩ := hz
      unfold mm_rtv at h
      split at h
      · split at h
        · rename_i hc
          cases h
          intro H locs ls hP hD hS hl hn
          exact W.vret hx hb (hr.trans hc) (fun t ht hW => ⟨⟨M, rfl, rfl, by rw [ht]; exact hP, va_K.moved hW.alike hK, hD.2⟩, hS.F ht⟩) hS.2.2 hd hlk
        · cases h
      · cases h
    | invokevirtual i =>
      have hz := mm_n h; clear h; obtain ⟨rfl, h⟩ := hz
      split at h
      · unfold mm_inv at h
        split at h
        · split at h
          · split at h <;> cases h
          · cases h
        · cases h
      · cases h
    | invokestatic i =>
      have hz := mm_n h; clear h; obtain ⟨rfl, h⟩ := hz
      split at h
      · unfold mm_ins at h
        split at h
        · unfold mm_cpy at h
          split at h
          · split at h
            · split at h
              · exact absurd h key
              · cases h
            · cases h
          · cases h
        · split at h <;> cases h
      · cases h
    | _ => exact (mm_on_not (mm_on_do (by simp) (by simp) (by simp) (by simp)) h).elim
/-- the end of a method that answers a number -/
theorem mm_ret_inv {v : Int32} (h : mm_step j pc lo st M = some (.inr (.inr (some v)))) : decode (mm_code j) pc = .ok (.ireturn, 1) ∧ st = [.inl v] := by
  unfold mm_step at h
  cases hd : decode (mm_code j) pc with
  | error e => rw [hd] at h; cases h
  | ok z =>
    obtain ⟨i, n⟩ := z
    rw [hd] at h
    replace h : mm_do j pc i n lo st M = some (.inr (.inr (some v))) := h
    have key : ∀ {lo' st' M' pc'}, ¬ (mm_nx pc' lo' st' M' = some (.inr (.inr (some v)))) := fun z => by cases z
    cases i with
    | ireturn =>
      have hz := mm_n h; clear h; obtain ⟨rfl, h⟩ := hz
      unfold mm_rti at h
      split at h
      · split at h
        · cases h
          exact ⟨rfl, rfl⟩
        · cases h
      · cases h
    | return_ =>
      have hz := mm_n h; clear h; obtain ⟨rfl, h⟩ := hz
      unfold mm_rtv at h
      split at h
      · split at h <;> cases h
      · cases h
    | invokevirtual i =>
      have hz := mm_n h; clear h; obtain ⟨rfl, h⟩ := hz
      split at h
      · unfold mm_inv at h
        split at h
        · split at h
          · split at h <;> cases h
          · cases h
        · cases h
      · cases h
    | invokestatic i =>
      have hz := mm_n h; clear h; obtain ⟨rfl, h⟩ := hz
      split at h
      · unfold mm_ins at h
        split at h
        · unfold mm_cpy at h
          split at h
          · split at h
            · split at h
              · exact absurd h key
              · cases h
            · cases h
          · cases h
        · split at h <;> cases h
      · cases h
    | _ => exact (mm_on_not (mm_on_do (by simp) (by simp) (by simp) (by simp)) h).elim
end MMT
/-- a frame of method j that ends with r0 and M0, whatever is asked of its end -/
def mm_fin (l : Launch) (j pc : Nat) (lo : mm_L) (st : List mm_V) (M : mm_M) (r0 : Option Int32) (M0 : mm_M) : Prop :=
  ∀ (p : Program) (e : Env) (R : Room) (s : State) (m : MethodId) (args : Array Value) (below : List Frame) (meth : Method) (c : Code) (D : va_G) (ad : Nat → Nat) (cI cC : ClassId) (A : Nat → Prop) (nc ns : Nat) (Q : State → Prop),
    mm_C p R s m args meth c nc ns j D ad cI cC A → (∀ (pc' : Nat) (lo' : mm_L) (st' : List mm_V), mm_step j pc' lo' st' M0 = some (.inr (.inr r0)) → mm_G p l e R s m args below meth c nc ns Q j D ad cI cC A (pc', lo', st', M0)) → mm_G p l e R s m args below meth c nc ns Q j D ad cI cC A (pc, lo, st, M)
/-- what the small machine answers, the machine answers: by the number of its steps -/
theorem mm_sound (l : Launch) : ∀ n : Nat,
    (∀ (j pc : Nat) (lo : mm_L) (st : List mm_V) (M : mm_M) (r0 : Option Int32) (M0 : mm_M), mm_run n j pc lo st M = some (r0, M0) → mm_fin l j pc lo st M r0 M0) ∧
    (∀ (k : Nat) (as : List mm_V) (M : mm_M) (r0 : Option Int32) (M0 : mm_M), k < mm_tab.length → as.length ≤ mm_maxL k → mm_run n k 0 (mm_ent k as) [] M = some (r0, M0) → mm_met l k as M r0 M0) := by
  have meet : ∀ n : Nat, (∀ (j pc : Nat) (lo : mm_L) (st : List mm_V) (M : mm_M) (r0 : Option Int32) (M0 : mm_M), mm_run n j pc lo st M = some (r0, M0) → mm_fin l j pc lo st M r0 M0) →
      ∀ (k : Nat) (as : List mm_V) (M : mm_M) (r0 : Option Int32) (M0 : mm_M), k < mm_tab.length → as.length ≤ mm_maxL k → mm_run n k 0 (mm_ent k as) [] M = some (r0, M0) → mm_met l k as M r0 M0 := by
    intro n ih k as M r0 M0 hk hlen hrun D ad cI cC sz
    have hrk := mm_rec_ok hk
    refine mm_ofW (cc := mm_code k) (maxL := mm_maxL k) (ret := mm_ret k) hrk.1 rfl ?_
    intro p e s m args below meth c s₁ B hml hv
    obtain ⟨rfl, hsz, hP, hK, ⟨hD0, hO⟩, hX⟩ := hv
    subst hsz
    have hD := hD0.self (sz := s.heap.size)
    have hts := atoms_spec (ws := mm_ws k) B.pre
    have hown : s.vm.findClass (mm_y k).cls = some m.cls := findClass_of_methodNamed B.named
    rw [hrk.2.2.2.1] at hown
    have C0 : mm_C p (headSpec (mm_ws k) (mm_rm k)).room s m (as.map (mm_tv ad)).toArray meth c 0 0 k D ad cI cC (va_A (mm_world ad cI cC M) s.heap.size) :=
      ⟨B.exec, B.bytes, hml, B.returns, B.notSynchronized, hown, fun w hw => hts w (List.mem_cons_of_mem _ hw), hK, hX, fun q h => Or.inr h, Nat.le_refl _, Nat.le_refl _, Nat.zero_le _, Nat.zero_le _⟩
    rw [lg_entry_eq]
    exact ih k 0 (mm_ent k as) [] M r0 M0 hrun p e _ s m _ below meth c D ad cI cC _ 0 0 _ C0 (fun pc' lo' st' h => mm_s_ret C0 h) s.heap [] _ hP ⟨hD, hO⟩ va_S.rf (mm_ls_ent hlen) (mm_ent_len hlen)
  intro n
  induction n with
  | zero =>
    refine ⟨fun j pc lo st M r0 M0 h => (by cases h), fun k as M r0 M0 hk hlen h => (by cases h)⟩
  | succ n ih =>
    have first : ∀ (j pc : Nat) (lo : mm_L) (st : List mm_V) (M : mm_M) (r0 : Option Int32) (M0 : mm_M), mm_run (n + 1) j pc lo st M = some (r0, M0) → mm_fin l j pc lo st M r0 M0 := by
      intro j pc lo st M r0 M0 h p e R s m args below meth c D ad cI cC A nc ns Q C0 hret
      rw [mm_run] at h
      cases hs : mm_step j pc lo st M with
      | none => rw [hs] at h; cases h
      | some z =>
        rw [hs] at h
        rcases z with q | q | r
        · exact mm_s_step C0 hs (ih.1 j q.1 q.2.1 q.2.2.1 q.2.2.2 r0 M0 h p e R s m args below meth c D ad cI cC A nc ns Q C0 hret)
        · simp only at h
          cases hc : mm_run n q.1 0 (mm_ent q.1 q.2.1) [] M with
          | none => rw [hc] at h; cases h
          | some a =>
            rw [hc] at h
            exact mm_s_call (k := q.1) (as := q.2.1) (r := q.2.2) (r0 := a.1) (M0 := a.2) C0 hs (fun hk hlen => ih.2 q.1 q.2.1 M a.1 a.2 hk hlen hc) (ih.1 j (pc + 3) lo (mm_rv a.1 ++ q.2.2) a.2 r0 M0 h p e R s m args below meth c D ad cI cC A nc ns Q C0 hret)
        · simp only at h
          cases h
          exact hret _ _ _ hs
    exact ⟨first, meet (n + 1) first⟩
