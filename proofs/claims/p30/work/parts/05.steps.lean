/-! EACH STEP OF THE SMALL MACHINE IS A STEP OF THE MACHINE -/
def mm_X (ad : Nat → Nat) (A : Nat → Prop) (U : State) (H : Heap) : Prop :=
  (∀ f ∈ mm_flds, f.2.2.2.1 = true → ∀ q, vwCl[f.2.1]? = some q → va_Nw (.fieldLinkNest (mm_cn f.1.1) f.1.2 (q.2.1 f.2.2.1).1 (q.2.1 f.2.2.1).2.1 (q.2.1 f.2.2.1).2.2.1 "LimbScore") U) ∧
  (∀ f ∈ mm_calls, f.2.1 = 2 → va_Nw (.methodLinkNest (mm_cn f.1.1) f.1.2 (mm_y f.2.2.1) "LimbScore") U) ∧
  (va_Z "LimbScore$Walk" "UNIT_X" "[I" (.ref (ad 40)) A U H ∧ va_T .int (ad 40) 8 (fun j => .int (mm_ux j)) A U H) ∧
  (va_Z "LimbScore$Walk" "UNIT_Y" "[I" (.ref (ad 41)) A U H ∧ va_T .int (ad 41) 8 (fun j => .int (mm_uy j)) A U H) ∧
  va_T .int (ad 42) (ad 43) (fun j => .int (Int32.ofNat (ad (100 + j)))) A U H
theorem mm_X_blind {ad : Nat → Nat} {A : Nat → Prop} {U : State} (g : JFrame) (mk : MethodId) (a : Array Value) (h : mm_X ad A U U.heap) : mm_X ad A (U.calling g mk a) (U.calling g mk a).heap := by
  obtain ⟨h1, h2, ⟨h3, h4⟩, ⟨h5, h6⟩, h7⟩ := h
  exact ⟨fun f hf hn q hq => va_Nw.same rfl (u := U) rfl (h1 f hf hn q hq), fun f hf hn => va_Nw.same rfl (u := U) rfl (h2 f hf hn),
    ⟨va_Z.moved (u := U) (U := U.calling g mk a) (Vm.Alike.refl U.vm) h3, va_T.moved (u := U) (U := U.calling g mk a) (Vm.Alike.refl U.vm) h4⟩,
    ⟨va_Z.moved (u := U) (U := U.calling g mk a) (Vm.Alike.refl U.vm) h5, va_T.moved (u := U) (U := U.calling g mk a) (Vm.Alike.refl U.vm) h6⟩, va_T.moved (u := U) (U := U.calling g mk a) (Vm.Alike.refl U.vm) h7⟩
theorem mm_X_go {ad : Nat → Nat} {A B : Nat → Prop} {s U : State} {H : Heap} {locs : List Loc} (h : mm_X ad A s s.heap) (hW : s.WarmedH U.vm) (hU : U.heap = H) (hS : va_S A s.heap H locs) (hB : ∀ q, B q → A q) : mm_X ad B U U.heap := by
  obtain ⟨h1, h2, ⟨h3, h4⟩, ⟨h5, h6⟩, h7⟩ := h
  have hk : ∀ a : Nat, a < s.heap.size → ¬ A a → U.heap[a]? = s.heap[a]? := fun a z1 z2 => by rw [hU]; exact hS.2.1 a z1 z2
  exact ⟨fun f hf hn q hq => va_Nw.warmF hW (h1 f hf hn q hq), fun f hf hn => va_Nw.warmM hW (h2 f hf hn),
    ⟨((h3.kept hk).narrow hB).moved hW.alike, ((h4.kept hk).narrow hB).moved hW.alike⟩, ⟨((h5.kept hk).narrow hB).moved hW.alike, ((h6.kept hk).narrow hB).moved hW.alike⟩, ((h7.kept hk).narrow hB).moved hW.alike⟩
section MMS
variable {p : Program} {l : Launch} {e : Env} {R : Room} {s : State} {m : MethodId} {args : Array Value} {below : List Frame} {meth : Method} {c : Code} {Q : State → Prop} {j : Nat} {D : va_G} {ad : Nat → Nat} {cI cC : ClassId} {A : Nat → Prop} {nc ns : Nat}
/-- the objects lie apart, and the memory tells the script as it is -/
def mm_DD (A : Nat → Prop) (ad : Nat → Nat) (cI cC : ClassId) (M : mm_M) : Prop := va_D A (mm_world ad cI cC M) ∧ mm_ok ad M
def mm_C (p : Program) (R : Room) (s : State) (m : MethodId) (args : Array Value) (meth : Method) (c : Code) (nc ns j : Nat) (D : va_G) (ad : Nat → Nat) (cI cC : ClassId) (A : Nat → Prop) : Prop :=
  p.tables.exec = Jvm.exec ∧ c.code = mm_code j ∧ c.maxLocals = mm_maxL j ∧ meth.sig.returnType = mm_ret j ∧ meth.locks = false ∧ s.vm.findClass (mm_cn (mm_cno j)) = some m.cls ∧ (∀ w ∈ mm_GW, w.before args s = true) ∧ va_K D vwCl (mm_tys cI cC) s ∧ mm_X ad A s s.heap ∧ (∀ q, s.heap.size ≤ q → A q) ∧ mm_fr j ≤ R.frames ∧ mm_lo j ≤ R.locals ∧ nc ≤ R.cells ∧ ns ≤ R.slots
def mm_G (p : Program) (l : Launch) (e : Env) (R : Room) (s : State) (m : MethodId) (args : Array Value) (below : List Frame) (meth : Method) (c : Code) (nc ns : Nat) (Q : State → Prop) (j : Nat) (D : va_G) (ad : Nat → Nat) (cI cC : ClassId) (A : Nat → Prop) (q : mm_F) : Prop :=
  ∀ (H : Heap) (locs : List Loc) (ls : Array Slot), va_P D vwCl (mm_world ad cI cC q.2.2.2) H → mm_DD A ad cI cC q.2.2.2 → va_S A s.heap H locs → mm_ls ad q.2.1 ls → q.2.1.length = mm_maxL j → W p l e R s m args below meth c H locs nc ns Q (F0 m q.1 ls (q.2.2.1.map (mm_tv ad)))
variable {pc pc' : Nat} {lo : mm_L} {st : List mm_V} {M : mm_M} {q : mm_F}
/-- the step changes the stack and the place alone -/
theorem mm_s_nx (h : mm_nx pc' lo st M = some (.inl q)) (k : mm_G p l e R s m args below meth c nc ns Q j D ad cI cC A q) : mm_G p l e R s m args below meth c nc ns Q j D ad cI cC A (pc', lo, st, M) := by
  unfold mm_nx at h
  cases h
  exact k
theorem mm_s_row {st1 st2 : List mm_V} (row : ∀ (H : Heap) (locs : List Loc) (ls : Array Slot), mm_ls ad lo ls → va_P D vwCl (mm_world ad cI cC M) H → va_S A s.heap H locs → W p l e R s m args below meth c H locs nc ns Q (F0 m pc' ls (st2.map (mm_tv ad))) → W p l e R s m args below meth c H locs nc ns Q (F0 m pc ls (st1.map (mm_tv ad))))
    (k : mm_G p l e R s m args below meth c nc ns Q j D ad cI cC A (pc', lo, st2, M)) : mm_G p l e R s m args below meth c nc ns Q j D ad cI cC A (pc, lo, st1, M) := by
  intro H locs ls hP hD hS hl hn
  exact row H locs ls hl hP hS (k H locs ls hP hD hS hl hn)
theorem mm_s_jmp {off : Int} {pc0 : Nat} (h : mm_jmp pc0 off lo st M = some (.inl q)) (k : mm_G p l e R s m args below meth c nc ns Q j D ad cI cC A q) : ∃ tgt : Nat, (pc0 : Int) + off = (tgt : Int) ∧ mm_G p l e R s m args below meth c nc ns Q j D ad cI cC A (tgt, lo, st, M) := by
  unfold mm_jmp at h
  split at h
  · rename_i hz
    exact ⟨((pc0 : Int) + off).toNat, by omega, mm_s_nx h k⟩
  · cases h
theorem mm_s_bin {f : Int32 → Int32 → Int32} (row : ∀ (H : Heap) (locs : List Loc) (ls : Array Slot) (rest : List Value) (x y : Int32), st.head? = some (.inl y) → W p l e R s m args below meth c H locs nc ns Q (F0 m (pc + 1) ls (.int (f x y) :: rest)) → W p l e R s m args below meth c H locs nc ns Q (F0 m pc ls (.int y :: .int x :: rest)))
    (h : mm_bin f pc lo st M = some (.inl q)) (k : mm_G p l e R s m args below meth c nc ns Q j D ad cI cC A q) : mm_G p l e R s m args below meth c nc ns Q j D ad cI cC A (pc, lo, st, M) := by
  unfold mm_bin at h
  split at h
  · exact mm_s_row (fun H locs ls _ _ _ w => row H locs ls _ _ _ rfl w) (mm_s_nx h k)
  · cases h
theorem mm_s_un {f : Int32 → Int32} (row : ∀ (H : Heap) (locs : List Loc) (ls : Array Slot) (rest : List Value) (x : Int32), W p l e R s m args below meth c H locs nc ns Q (F0 m (pc + 1) ls (.int (f x) :: rest)) → W p l e R s m args below meth c H locs nc ns Q (F0 m pc ls (.int x :: rest)))
    (h : mm_un f pc lo st M = some (.inl q)) (k : mm_G p l e R s m args below meth c nc ns Q j D ad cI cC A q) : mm_G p l e R s m args below meth c nc ns Q j D ad cI cC A (pc, lo, st, M) := by
  unfold mm_un at h
  split at h
  · exact mm_s_row (fun H locs ls _ _ _ w => row H locs ls _ _ w) (mm_s_nx h k)
  · cases h
theorem mm_s_ldi {i : Nat} (row : ∀ (H : Heap) (locs : List Loc) (ls : Array Slot) (rest : List Value) (x : Int32), ls[i]? = some (.val (.int x)) → W p l e R s m args below meth c H locs nc ns Q (F0 m pc' ls (.int x :: rest)) → W p l e R s m args below meth c H locs nc ns Q (F0 m pc ls rest))
    (h : mm_ldi i pc' lo st M = some (.inl q)) (k : mm_G p l e R s m args below meth c nc ns Q j D ad cI cC A q) : mm_G p l e R s m args below meth c nc ns Q j D ad cI cC A (pc, lo, st, M) := by
  unfold mm_ldi at h
  split at h
  · rename_i x hx
    exact mm_s_row (fun H locs ls hl _ _ w => row H locs ls _ x (hl.2.2 _ _ hx) w) (mm_s_nx h k)
  · cases h
theorem mm_s_lda {i : Nat} (row : ∀ (H : Heap) (locs : List Loc) (ls : Array Slot) (rest : List Value) (x : Nat), ls[i]? = some (.val (.ref x)) → W p l e R s m args below meth c H locs nc ns Q (F0 m pc' ls (.ref x :: rest)) → W p l e R s m args below meth c H locs nc ns Q (F0 m pc ls rest))
    (h : mm_lda i pc' lo st M = some (.inl q)) (k : mm_G p l e R s m args below meth c nc ns Q j D ad cI cC A q) : mm_G p l e R s m args below meth c nc ns Q j D ad cI cC A (pc, lo, st, M) := by
  unfold mm_lda at h
  split at h
  · rename_i x hx
    exact mm_s_row (fun H locs ls hl _ _ w => row H locs ls _ (ad x) (hl.2.2 _ _ hx) w) (mm_s_nx h k)
  · cases h
theorem mm_s_sti {i : Nat} (row : ∀ (H : Heap) (locs : List Loc) (ls : Array Slot) (rest : List Value) (x : Int32), lv_has ls lo.length (mm_lvs ad lo) → i < lo.length → (∀ ls' : Array Slot, lv_has ls' lo.length ((i, Value.int x) :: (mm_lvs ad lo).filter (fun q => !(q.1 == i) && !(q.1 + 1 == i && q.2.category == 2))) → W p l e R s m args below meth c H locs nc ns Q (F0 m pc' ls' rest)) → W p l e R s m args below meth c H locs nc ns Q (F0 m pc ls (.int x :: rest)))
    (h : mm_sti i pc' lo st M = some (.inl q)) (k : mm_G p l e R s m args below meth c nc ns Q j D ad cI cC A q) : mm_G p l e R s m args below meth c nc ns Q j D ad cI cC A (pc, lo, st, M) := by
  unfold mm_sti at h
  split at h
  · rename_i x r
    split at h
    · rename_i hi
      have k1 := mm_s_nx h k
      intro H locs ls hP hD hS hl hn
      exact row H locs ls _ x (mm_ls_has hl) hi (fun ls' h' => k1 H locs ls' hP hD hS (mm_ls_set (v := .inl x) h') (by simpa using hn))
    · cases h
  · cases h
theorem mm_s_inc {i : Nat} {n : Int} (hx : p.tables.exec = Jvm.exec) (hb : c.code = mm_code j) (hd : decode (mm_code j) pc = .ok (.iinc i n, 3))
    (h : mm_inc i n (pc + 3) lo st M = some (.inl q)) (k : mm_G p l e R s m args below meth c nc ns Q j D ad cI cC A q) : mm_G p l e R s m args below meth c nc ns Q j D ad cI cC A (pc, lo, st, M) := by
  unfold mm_inc at h
  split at h
  · rename_i x hx1
    have k1 := mm_s_nx h k
    intro H locs ls hP hD hS hl hn
    obtain ⟨kq, hkq⟩ := List.getElem?_of_mem (mm_lvs_mem (ad := ad) hx1)
    exact lv_iinc hx hb hd (mm_ls_has hl) hkq rfl (List.getElem?_eq_some_iff.mp hx1).1 rfl (fun ls' h' => k1 H locs ls' hP hD hS (mm_ls_set (v := .inl (x + Int32.ofInt n)) h') (by simpa using hn))
  · cases h
theorem mm_s_br {b : Bool} {off : Int} (h : mm_br b pc off lo st M = some (.inl q)) (k : mm_G p l e R s m args below meth c nc ns Q j D ad cI cC A q) : ∃ tgt : Nat, (pc : Int) + off = (tgt : Int) ∧ (b = true → mm_G p l e R s m args below meth c nc ns Q j D ad cI cC A (tgt, lo, st, M)) ∧ (b = false → mm_G p l e R s m args below meth c nc ns Q j D ad cI cC A (pc + 3, lo, st, M)) := by
  unfold mm_br at h
  split at h
  · refine ⟨((pc : Int) + off).toNat, by omega, fun hb => ?_, fun hb => ?_⟩
    · rw [if_pos hb] at h
      exact mm_s_nx h k
    · rw [if_neg (by simp [hb])] at h
      exact mm_s_nx h k
  · cases h
theorem mm_s_if1 {cd : ClassFile.Cond} {off : Int} (hx : p.tables.exec = Jvm.exec) (hb : c.code = mm_code j) (hd : decode (mm_code j) pc = .ok (.ifCond cd off, 3))
    (h : mm_if1 cd pc off lo st M = some (.inl q)) (k : mm_G p l e R s m args below meth c nc ns Q j D ad cI cC A q) : mm_G p l e R s m args below meth c nc ns Q j D ad cI cC A (pc, lo, st, M) := by
  unfold mm_if1 at h
  split at h
  · rename_i x r
    intro H locs ls hP hD hS hl hn
    obtain ⟨tgt, ht, k1, k2⟩ := mm_s_br h k
    cases cd
    · exact lv_if_eq hx hb hd ht (fun z => k1 (decide_eq_true z) H locs ls hP hD hS hl hn) (fun z => k2 (decide_eq_false z) H locs ls hP hD hS hl hn)
    · exact lv_if_ne hx hb hd ht (fun z => k1 (decide_eq_true z) H locs ls hP hD hS hl hn) (fun z => k2 (decide_eq_false (fun w => w z)) H locs ls hP hD hS hl hn)
    · exact lv_if_lt hx hb hd ht (fun z => k1 (decide_eq_true z) H locs ls hP hD hS hl hn) (fun z => k2 (decide_eq_false z) H locs ls hP hD hS hl hn)
    · exact lv_if_ge hx hb hd ht (fun z => k1 (decide_eq_true z) H locs ls hP hD hS hl hn) (fun z => k2 (decide_eq_false z) H locs ls hP hD hS hl hn)
    · exact lv_if_gt hx hb hd ht (fun z => k1 (decide_eq_true z) H locs ls hP hD hS hl hn) (fun z => k2 (decide_eq_false z) H locs ls hP hD hS hl hn)
    · exact lv_if_le hx hb hd ht (fun z => k1 (decide_eq_true z) H locs ls hP hD hS hl hn) (fun z => k2 (decide_eq_false z) H locs ls hP hD hS hl hn)
  · cases h
theorem mm_s_if2 {cd : ClassFile.Cond} {off : Int} (hx : p.tables.exec = Jvm.exec) (hb : c.code = mm_code j) (hd : decode (mm_code j) pc = .ok (.if_icmp cd off, 3))
    (h : mm_if2 cd pc off lo st M = some (.inl q)) (k : mm_G p l e R s m args below meth c nc ns Q j D ad cI cC A q) : mm_G p l e R s m args below meth c nc ns Q j D ad cI cC A (pc, lo, st, M) := by
  unfold mm_if2 at h
  split at h
  · rename_i y x r
    intro H locs ls hP hD hS hl hn
    obtain ⟨tgt, ht, k1, k2⟩ := mm_s_br h k
    cases cd
    · exact lv_icmp_eq hx hb hd ht (fun z => k1 (decide_eq_true z) H locs ls hP hD hS hl hn) (fun z => k2 (decide_eq_false z) H locs ls hP hD hS hl hn)
    · exact lv_icmp_ne hx hb hd ht (fun z => k1 (decide_eq_true z) H locs ls hP hD hS hl hn) (fun z => k2 (decide_eq_false (fun w => w z)) H locs ls hP hD hS hl hn)
    · exact lv_icmp_lt hx hb hd ht (fun z => k1 (decide_eq_true z) H locs ls hP hD hS hl hn) (fun z => k2 (decide_eq_false z) H locs ls hP hD hS hl hn)
    · exact lv_icmp_ge hx hb hd ht (fun z => k1 (decide_eq_true z) H locs ls hP hD hS hl hn) (fun z => k2 (decide_eq_false z) H locs ls hP hD hS hl hn)
    · exact lv_icmp_gt hx hb hd ht (fun z => k1 (decide_eq_true z) H locs ls hP hD hS hl hn) (fun z => k2 (decide_eq_false z) H locs ls hP hD hS hl hn)
    · exact lv_icmp_le hx hb hd ht (fun z => k1 (decide_eq_true z) H locs ls hP hD hS hl hn) (fun z => k2 (decide_eq_false z) H locs ls hP hD hS hl hn)
  · cases h
theorem mm_s_tsw {d lo' hi : Int} {offs : Array Int} {len : Nat} (hx : p.tables.exec = Jvm.exec) (hb : c.code = mm_code j) (hd : decode (mm_code j) pc = .ok (.tableswitch d lo' hi offs, len))
    (h : mm_tsw d lo' hi offs pc lo st M = some (.inl q)) (k : mm_G p l e R s m args below meth c nc ns Q j D ad cI cC A q) : mm_G p l e R s m args below meth c nc ns Q j D ad cI cC A (pc, lo, st, M) := by
  unfold mm_tsw at h
  split at h
  · rename_i x r
    intro H locs ls hP hD hS hl hn
    split at h
    · rename_i hz
      obtain ⟨tgt, ht, k1⟩ := mm_s_jmp h k
      exact lv_tableOut hx hb hd hz ht (k1 H locs ls hP hD hS hl hn)
    · rename_i hz
      split at h
      · rename_i off ho
        obtain ⟨tgt, ht, k1⟩ := mm_s_jmp h k
        exact lv_tableIn hx hb hd (fun z => hz (Or.inl z)) (fun z => hz (Or.inr z)) ho ht (k1 H locs ls hP hD hS hl hn)
      · cases h
  · cases h
theorem mm_s_lsw {d : Int} {ps : Array (Int × Int)} {len : Nat} (hx : p.tables.exec = Jvm.exec) (hb : c.code = mm_code j) (hd : decode (mm_code j) pc = .ok (.lookupswitch d ps, len))
    (h : mm_lsw d ps pc lo st M = some (.inl q)) (k : mm_G p l e R s m args below meth c nc ns Q j D ad cI cC A q) : mm_G p l e R s m args below meth c nc ns Q j D ad cI cC A (pc, lo, st, M) := by
  unfold mm_lsw at h
  split at h
  · rename_i x r
    intro H locs ls hP hD hS hl hn
    split at h
    · rename_i hz
      obtain ⟨tgt, ht, k1⟩ := mm_s_jmp h k
      exact lv_lookup hx hb hd hz rfl ht (k1 H locs ls hP hD hS hl hn)
    · cases h
  · cases h
/-- what the shape and the fields' table say of a field -/
theorem mm_fact {f : (Nat × Nat) × (Nat × Nat × Bool × Nat)} (hf : f ∈ mm_flds) : ∃ r : vw_C, vwCl[f.2.1]? = some r ∧ f.2.2.1 < r.2.2 ∧ (f.2.2.2.1 = false → Cond.fieldLink (mm_cn f.1.1) f.1.2 (r.2.1 f.2.2.1).1 (r.2.1 f.2.2.1).2.1 (r.2.1 f.2.2.1).2.2.1 ∈ mm_GW) := by
  have h := List.all_eq_true.mp mm_flds_ok f hf
  unfold mm_fOk at h
  split at h
  · rename_i r hr
    simp only [Bool.and_eq_true, decide_eq_true_eq] at h
    refine ⟨r, hr, h.1, fun hn => ?_⟩
    have h2 := h.2
    rw [hn] at h2
    exact mm_w_in h2
  · cases h
theorem mm_kind {r : vw_C} {ci : Nat} (hr : vwCl[ci]? = some r) : (∀ w ∈ u_ws r.1 r.2.1 r.2.2, w ∈ mm_GW) ∧ (∃ ty : Nat → FieldType, ∀ k, k < r.2.2 → parseFieldDescriptor (r.2.1 k).2.2.1 = some (ty k)) ∧ (∀ a, a < r.2.2 → ∀ b, b < r.2.2 → a ≠ b → (r.2.1 a).2.1 ≠ (r.2.1 b).2.1) := by
  have h := List.all_eq_true.mp mm_kinds_ok r (List.mem_of_getElem? hr)
  unfold mm_kOk at h
  simp only [Bool.and_eq_true, decide_eq_true_eq] at h
  obtain ⟨⟨h1, h2⟩, h3⟩ := h
  refine ⟨fun w hw => ?_, ⟨fun k => (parseFieldDescriptor (r.2.1 k).2.2.1).getD .int, fun k hk => ?_⟩, h3⟩
  · have z := List.all_eq_true.mp h1 w hw
    simp only [Bool.and_eq_true, decide_eq_true_eq] at z
    exact List.mem_filter.mpr z
  · have z := List.all_eq_true.mp h2 k (List.mem_range.mpr hk)
    cases hz : parseFieldDescriptor (r.2.1 k).2.2.1 with
    | none => rw [hz] at z; cases z
    | some t => simp [hz]
theorem mm_fd_in {cn i : Nat} {f : (Nat × Nat) × (Nat × Nat × Bool × Nat)} (h : mm_fld cn i = some f) : f ∈ mm_flds ∧ f.1 = (cn, i) := by
  unfold mm_fld at h
  have h2 := List.find?_some h
  simp only [Bool.and_eq_true] at h2
  exact ⟨List.mem_of_find?_eq_some h, Prod.ext (Nat.eq_of_beq_eq_true h2.1) (Nat.eq_of_beq_eq_true h2.2)⟩
theorem mm_s_get {f : (Nat × Nat) × (Nat × Nat × Bool × Nat)} {i : Nat} (C0 : mm_C p R s m args meth c nc ns j D ad cI cC A) (hf : mm_fld (mm_cno j) i = some f) (hd : decode (mm_code j) pc = .ok (.getfield i, 3))
    (h : mm_get f pc lo st M = some (.inl q)) (k : mm_G p l e R s m args below meth c nc ns Q j D ad cI cC A q) : mm_G p l e R s m args below meth c nc ns Q j D ad cI cC A (pc, lo, st, M) := by
  obtain ⟨hx, hb, hml, hr, hlk, hown, hts, hK, hX, hA, -, -⟩ := C0
  obtain ⟨hfm, hfi⟩ := mm_fd_in hf
  obtain ⟨⟨fa, fb⟩, fc, fk, fn, fw⟩ := f
  cases hfi
  obtain ⟨r, hr1, hr2, hr3⟩ := mm_fact hfm
  obtain ⟨hin, -, -⟩ := mm_kind hr1
  have key : ∀ (o : Nat) (fs : List (Option Nat)) (v : Value) (rest : List mm_V) (v' : mm_V), st = .inr o :: rest → mm_shape[o]? = some (.inl (fc, fs)) → (fs.mapIdx (mm_fv ad (M o)))[fk]? = some v → v = mm_tv ad v' → mm_G p l e R s m args below meth c nc ns Q j D ad cI cC A (pc + 3, lo, v' :: rest, M) → mm_G p l e R s m args below meth c nc ns Q j D ad cI cC A (pc, lo, st, M) := by
    intro o fs v rest v' hst ho hv hv' k1
    subst hst
    intro H locs ls hP hD hS hl hn
    have w := k1 H locs ls hP hD hS hl hn
    cases fn with
    | false => exact va_get (tys := mm_tys cI cC) hx hb hts hin hown hK hP o (mm_get_w ho) hr1 fk hr2 (hts _ (hr3 rfl)) (fun _ z => z) (by rw [hv, hv']) hd w
    | true => exact va_getN (host := "LimbScore") (tys := mm_tys cI cC) hx hb hts hin hown hK hP o (mm_get_w ho) hr1 fk hr2 (va_Nw.use rfl (hX.1 _ hfm rfl r hr1)) (fun _ z => z) (by rw [hv, hv']) hd w
  unfold mm_get at h
  split at h
  · rename_i o rest
    split at h
    · rename_i ci fs ho
      split at h
      · rename_i hci
        simp only at hci
        subst hci
        split at h
        · rename_i hfs
          exact key o fs _ rest (.inl (M o fk)) rfl ho (by rw [List.getElem?_mapIdx, hfs]; rfl) rfl (mm_s_nx h k)
        · rename_i g hfs
          exact key o fs _ rest (.inr g) rfl ho (by rw [List.getElem?_mapIdx, hfs]; rfl) rfl (mm_s_nx h k)
        · cases h
      · cases h
    · cases h
  · cases h
theorem mm_s_put {f : (Nat × Nat) × (Nat × Nat × Bool × Nat)} {i : Nat} (C0 : mm_C p R s m args meth c nc ns j D ad cI cC A) (hf : mm_fld (mm_cno j) i = some f) (hd : decode (mm_code j) pc = .ok (.putfield i, 3))
    (h : mm_put f pc lo st M = some (.inl q)) (k : mm_G p l e R s m args below meth c nc ns Q j D ad cI cC A q) : mm_G p l e R s m args below meth c nc ns Q j D ad cI cC A (pc, lo, st, M) := by
  obtain ⟨hx, hb, hml, hr, hlk, hown, hts, hK, hX, hA, -, -⟩ := C0
  obtain ⟨hfm, hfi⟩ := mm_fd_in hf
  obtain ⟨⟨fa, fb⟩, fc, fk, fn, fw⟩ := f
  cases hfi
  obtain ⟨r, hr1, hr2, hr3⟩ := mm_fact hfm
  obtain ⟨hin, ⟨ty, hty⟩, hnm⟩ := mm_kind hr1
  unfold mm_put at h
  split at h
  · rename_i v o rest
    split at h
    · rename_i ci fs ho
      split at h
      · rename_i hci
        simp only at hci
        subst hci
        split at h
        · rename_i hfs
          have k1 := mm_s_nx h k
          have hsh := List.all_eq_true.mp mm_shape_ok _ (List.mem_of_getElem? ho)
          simp only [mm_eOk, hr1, Bool.and_eq_true, decide_eq_true_eq] at hsh
          have hs2 := List.all_eq_true.mp hsh.2 fk (List.mem_range.mpr hr2)
          simp only [] at hfs
          rw [if_pos hfs] at hs2
          simp only [Bool.and_eq_true, decide_eq_true_eq, Bool.not_eq_true'] at hs2
          intro H locs ls hP hD hS hl hn
          have go : ∀ (H1 : Heap) (locs1 : List Loc), va_P D vwCl ((mm_world ad cI cC M).set o (ad o, .inr (ci, (fs.mapIdx (mm_fv ad (M o))).set fk (.int v)))) H1 → va_D A ((mm_world ad cI cC M).set o (ad o, .inr (ci, (fs.mapIdx (mm_fv ad (M o))).set fk (.int v)))) → va_S A s.heap H1 locs1 → W p l e R s m args below meth c H1 locs1 nc ns Q (F0 m (pc + 3) ls (rest.map (mm_tv ad))) := by
            intro H1 locs1 hP1 hD1 hS1
            rw [mm_put_w ho hfs] at hP1 hD1
            exact k1 H1 locs1 ls hP1 ⟨hD1, mm_ok_up hD.2 ho⟩ hS1 hl hn
          have hlen : fk < (fs.mapIdx (mm_fv ad (M o))).length := by rw [List.length_mapIdx, hsh.1]; exact hr2
          cases fn with
          | false => exact va_put (tys := mm_tys cI cC) (ty := .int) hx hb hts hin ty hty hnm hown hK hP hD.1 hS o (mm_get_w ho) hr1 fk hr2 (hts _ (hr3 rfl)) (fun _ z => z) hs2.2 hs2.1 rfl rfl hlen hd go
          | true => exact va_putN (host := "LimbScore") (tys := mm_tys cI cC) (ty := .int) hx hb hts hin ty hty hnm hown hK hP hD.1 hS o (mm_get_w ho) hr1 fk hr2 (va_Nw.use rfl (hX.1 _ hfm rfl r hr1)) (fun _ z => z) hs2.2 hs2.1 rfl rfl hlen hd go
        · cases h
      · cases h
    · cases h
  · cases h
theorem mm_s_gst {f : (Nat × Nat) × (Bool × Nat)} {i : Nat} (C0 : mm_C p R s m args meth c nc ns j D ad cI cC A) (hf : mm_stt (mm_cno j) i = some f) (hd : decode (mm_code j) pc = .ok (.getstatic i, 3))
    (h : mm_gst f pc lo st M = some (.inl q)) (k : mm_G p l e R s m args below meth c nc ns Q j D ad cI cC A q) : mm_G p l e R s m args below meth c nc ns Q j D ad cI cC A (pc, lo, st, M) := by
  obtain ⟨hx, hb, hml, hr, hlk, hown, hts, hK, hX, hA, -, -⟩ := C0
  have hfm : f ∈ mm_stats := List.mem_of_find?_eq_some hf
  have hfi := List.find?_some hf
  simp only [Bool.and_eq_true] at hfi
  have e1 := Nat.eq_of_beq_eq_true hfi.1
  have e2 := Nat.eq_of_beq_eq_true hfi.2
  have hw := mm_w_in (List.all_eq_true.mp mm_stats_ok f hfm)
  rw [e1, e2] at hw
  obtain ⟨-, -, ⟨z1, -⟩, ⟨z2, -⟩, -⟩ := hX
  unfold mm_gst at h
  refine mm_s_row (fun H locs ls hl hP hS w => ?_) (mm_s_nx h k)
  cases hfb : f.2.1 with
  | true =>
    rw [hfb] at hw w
    exact va_gets hx hb z1 hS hown (hts _ hw) (fun _ z => z) hd w
  | false =>
    rw [hfb] at hw w
    exact va_gets hx hb z2 hS hown (hts _ hw) (fun _ z => z) hd w
theorem mm_s_len (C0 : mm_C p R s m args meth c nc ns j D ad cI cC A) (hd : decode (mm_code j) pc = .ok (.arraylength, 1))
    (h : mm_len pc lo st M = some (.inl q)) (k : mm_G p l e R s m args below meth c nc ns Q j D ad cI cC A q) : mm_G p l e R s m args below meth c nc ns Q j D ad cI cC A (pc, lo, st, M) := by
  obtain ⟨hx, hb, hml, hr, hlk, hown, hts, hK, hX, hA, -, -⟩ := C0
  unfold mm_len at h
  split at h
  · rename_i o rest
    split at h
    · rename_i n ho
      exact mm_s_row (fun H locs ls hl hP hS w => va_alen (tys := mm_tys cI cC) hx hb hK hP o 0 (mm_get_w ho) rfl rfl hd w) (mm_s_nx h k)
    · cases h
    · cases h
    · split at h
      · rename_i h42
        subst h42
        obtain ⟨-, -, -, -, z3⟩ := hX
        have k1 := mm_s_nx h k
        intro H locs ls hP hD hS hl hn
        have hO : mm_ok ad M := hD.2
        refine va_tlen hx hb z3 hS (v := M 43 0) hO.2.1.symm hd (k1 H locs ls hP hD hS hl hn)
      · cases h
  · cases h
theorem mm_s_ald (C0 : mm_C p R s m args meth c nc ns j D ad cI cC A) (hd : decode (mm_code j) pc = .ok (.iaload, 1))
    (h : mm_ald false pc lo st M = some (.inl q)) (k : mm_G p l e R s m args below meth c nc ns Q j D ad cI cC A q) : mm_G p l e R s m args below meth c nc ns Q j D ad cI cC A (pc, lo, st, M) := by
  obtain ⟨hx, hb, hml, hr, hlk, hown, hts, hK, hX, hA, -, -⟩ := C0
  unfold mm_ald at h
  split at h
  · rename_i i o rest
    split at h
    · rename_i c' n ho
      split at h
      · rename_i hc
        obtain ⟨hc', hin⟩ := hc
        subst hc'
        exact mm_s_row (fun H locs ls hl hP hS w => va_iald (tys := mm_tys cI cC) hx hb hK hP o 0 (mm_get_w ho) rfl hin hd w) (mm_s_nx h k)
      · cases h
    · cases h
    · split at h
      · rename_i h42
        subst h42
        split at h
        · rename_i hc
          obtain ⟨-, hin⟩ := hc
          obtain ⟨-, -, -, -, z3⟩ := hX
          have k1 := mm_s_nx h k
          intro H locs ls hP hD hS hl hn
          have hO : mm_ok ad M := hD.2
          have hin2 : vp_in i (ad 43) := by
            have e0 : (M 43 0).toNatClampNeg = ad 43 := by rw [hO.2.1]; exact nI_clamp hO.1
            rw [e0] at hin
            exact hin
          exact va_ti hx hb z3 hS hin2 (v := .int (M 42 i.toNatClampNeg)) (by rw [hO.2.2]) hd (k1 H locs ls hP hD hS hl hn)
        · cases h
      · split at h
        · rename_i hc
          obtain ⟨-, ho, hin⟩ := hc
          obtain ⟨-, -, ⟨-, z1⟩, ⟨-, z2⟩, -⟩ := hX
          refine mm_s_row (fun H locs ls hl hP hS w => ?_) (mm_s_nx h k)
          by_cases h40 : o = 40
          · subst h40
            exact va_ti hx hb z1 hS hin rfl hd w
          · rcases ho with ho | ho
            · exact absurd ho h40
            · subst ho
              exact va_ti hx hb z2 hS hin rfl hd w
        · cases h
  · cases h
theorem mm_s_ast (C0 : mm_C p R s m args meth c nc ns j D ad cI cC A) (hd : decode (mm_code j) pc = .ok (.iastore, 1))
    (h : mm_ast false pc lo st M = some (.inl q)) (k : mm_G p l e R s m args below meth c nc ns Q j D ad cI cC A q) : mm_G p l e R s m args below meth c nc ns Q j D ad cI cC A (pc, lo, st, M) := by
  obtain ⟨hx, hb, hml, hr, hlk, hown, hts, hK, hX, hA, -, -⟩ := C0
  unfold mm_ast at h
  split at h
  · rename_i v i o rest
    split at h
    · rename_i c' n ho
      split at h
      · rename_i hc
        obtain ⟨hc', hin⟩ := hc
        subst hc'
        have k1 := mm_s_nx h k
        intro H locs ls hP hD hS hl hn
        refine va_iast (tys := mm_tys cI cC) hx hb hK hP hD.1 hS o 0 (mm_get_w ho) rfl hin hd (fun H1 locs1 hP1 hD1 hS1 => ?_)
        have hP1 : va_P D vwCl ((mm_world ad cI cC M).set o (ad o, .inl (if (false : Bool) = true then cC else cI, n, .inl (upd (M o) i.toNatClampNeg v)))) H1 := hP1
        have hD1 : va_D A ((mm_world ad cI cC M).set o (ad o, .inl (if (false : Bool) = true then cC else cI, n, .inl (upd (M o) i.toNatClampNeg v)))) := hD1
        rw [mm_set_w ho] at hP1 hD1
        exact k1 H1 locs1 ls hP1 ⟨hD1, mm_ok_up hD.2 ho⟩ hS1 hl hn
      · cases h
    · cases h
  · cases h
end MMS
