/-! THE WORLD OF THE SMALL MACHINE: its objects at addresses ad 0, ad 1 .. -/
def mm_tv (ad : Nat → Nat) (v : mm_V) : Value := match v with
  | .inl x => .int x
  | .inr o => .ref (ad o)
def mm_fv (ad : Nat → Nat) (r : Nat → Int32) (k : Nat) (f : Option Nat) : Value := match f with
  | none => .int (r k)
  | some q => .ref (ad q)
def mm_ce (ad : Nat → Nat) (cI cC : ClassId) (M : mm_M) (o : Nat) (e : mm_E) : va_E := match e with
  | .inl q => .inr (q.1, q.2.mapIdx (mm_fv ad (M o)))
  | .inr q => .inl (if q.1 = true then cC else cI, q.2, .inl (M o))
def mm_world (ad : Nat → Nat) (cI cC : ClassId) (M : mm_M) : va_W := mm_shape.mapIdx (fun o e => (ad o, mm_ce ad cI cC M o e))
def mm_tys (cI _cC : ClassId) : List (ClassId × FieldType) := [(cI, .int)]
/-- what the memory says of the law's script: its length at 43 0, its numbers at 42; the addresses' row holds the same from 43 and 100 on -/
def mm_ok (ad : Nat → Nat) (M : mm_M) : Prop := ad 43 < 2 ^ 31 ∧ M 43 0 = Int32.ofNat (ad 43) ∧ ∀ j : Nat, M 42 j = Int32.ofNat (ad (100 + j))
theorem mm_ok_cong {ad : Nat → Nat} {M M' : mm_M} (h : mm_ok ad M) (h1 : M' 42 = M 42) (h2 : M' 43 = M 43) : mm_ok ad M' := ⟨h.1, by rw [h2]; exact h.2.1, fun j => by rw [h1]; exact h.2.2 j⟩
theorem mm_ok_up {ad : Nat → Nat} {M : mm_M} {o k : Nat} {v : Int32} {e : mm_E} (h : mm_ok ad M) (ho : mm_shape[o]? = some e) : mm_ok ad (mm_up M o k v) := by
  have hlt : o < 30 := (List.getElem?_eq_some_iff.mp ho).1
  exact mm_ok_cong h (by unfold mm_up; rw [if_neg (by omega)]) (by unfold mm_up; rw [if_neg (by omega)])
theorem mm_ok_set {ad : Nat → Nat} {M : mm_M} {o : Nat} {f : Nat → Int32} {e : mm_E} (h : mm_ok ad M) (ho : mm_shape[o]? = some e) : mm_ok ad (mm_set M o f) := by
  have hlt : o < 30 := (List.getElem?_eq_some_iff.mp ho).1
  exact mm_ok_cong h (by unfold mm_set; rw [if_neg (by omega)]) (by unfold mm_set; rw [if_neg (by omega)])
theorem mm_tv_cat (ad : Nat → Nat) (v : mm_V) : (mm_tv ad v).category = 1 := by cases v <;> rfl
theorem mm_sum (ad : Nat → Nat) (st : List mm_V) : ((st.map (mm_tv ad)).map (fun v => v.category)).sum = st.length := by
  induction st with
  | nil => rfl
  | cons v r ih => simp [mm_tv_cat] at ih ⊢; omega
theorem mm_get_w {ad : Nat → Nat} {cI cC : ClassId} {M : mm_M} {o : Nat} {e : mm_E} (h : mm_shape[o]? = some e) : (mm_world ad cI cC M)[o]? = some (ad o, mm_ce ad cI cC M o e) := by
  simp [mm_world, List.getElem?_mapIdx, h]
theorem mm_addr {ad : Nat → Nat} {cI cC : ClassId} {M M' : mm_M} {k : Nat} {q : Nat × va_E} (h : (mm_world ad cI cC M)[k]? = some q) : ∃ q', (mm_world ad cI cC M')[k]? = some q' ∧ q'.1 = q.1 := by
  simp only [mm_world, List.getElem?_mapIdx, Option.map_eq_some_iff] at h ⊢
  obtain ⟨e, h1, rfl⟩ := h
  exact ⟨_, ⟨e, h1, rfl⟩, rfl⟩
theorem mm_D {ad : Nat → Nat} {cI cC : ClassId} {M M' : mm_M} {A : Nat → Prop} (h : va_D A (mm_world ad cI cC M)) : va_D A (mm_world ad cI cC M') := by
  refine ⟨fun i j p q hi hj hpq => ?_, fun k q hk => ?_⟩
  · obtain ⟨p', h1, e1⟩ := mm_addr (M' := M) hi
    obtain ⟨q', h2, e2⟩ := mm_addr (M' := M) hj
    exact h.1 i j p' q' h1 h2 (by rw [e1, e2, hpq])
  · obtain ⟨q', h1, e1⟩ := mm_addr (M' := M) hk
    rw [← e1]
    exact h.2 k q' h1
theorem mm_A {ad : Nat → Nat} {cI cC : ClassId} {M M' : mm_M} {sz sz' : Nat} (hs : sz ≤ sz') : ∀ q, va_A (mm_world ad cI cC M') sz' q → va_A (mm_world ad cI cC M) sz q := by
  intro q h
  rcases h with ⟨k, e, h⟩ | h
  · obtain ⟨q', h1, e1⟩ := mm_addr (M' := M) h
    exact Or.inl ⟨k, q'.2, h1.trans (congrArg some (Prod.ext e1 rfl))⟩
  · exact Or.inr (by omega)
theorem mm_set_w {ad : Nat → Nat} {cI cC : ClassId} {M : mm_M} {o : Nat} {ch : Bool} {n : Nat} (h : mm_shape[o]? = some (.inr (ch, n))) (f : Nat → Int32) :
    (mm_world ad cI cC M).set o (ad o, .inl (if ch = true then cC else cI, n, .inl f)) = mm_world ad cI cC (mm_set M o f) := by
  apply List.ext_getElem?
  intro i
  rw [List.getElem?_set]
  have hlt : o < (mm_world ad cI cC M).length := by
    simp only [mm_world, List.length_mapIdx]
    exact (List.getElem?_eq_some_iff.mp h).1
  by_cases hi : o = i
  · subst hi
    rw [if_pos rfl, if_pos hlt, mm_get_w h]
    simp [mm_ce, mm_set]
  · rw [if_neg hi]
    simp only [mm_world, List.getElem?_mapIdx]
    cases hs : mm_shape[i]? with
    | none => rfl
    | some e => cases e <;> simp [mm_ce, mm_set, Ne.symm hi]
theorem mm_put_w {ad : Nat → Nat} {cI cC : ClassId} {M : mm_M} {o ci k : Nat} {fs : List (Option Nat)} (h : mm_shape[o]? = some (.inl (ci, fs))) (hk : fs[k]? = some none) (v : Int32) :
    (mm_world ad cI cC M).set o (ad o, .inr (ci, (fs.mapIdx (mm_fv ad (M o))).set k (.int v))) = mm_world ad cI cC (mm_up M o k v) := by
  apply List.ext_getElem?
  intro i
  rw [List.getElem?_set]
  have hlt : o < (mm_world ad cI cC M).length := by
    simp only [mm_world, List.length_mapIdx]
    exact (List.getElem?_eq_some_iff.mp h).1
  by_cases hi : o = i
  · subst hi
    rw [if_pos rfl, if_pos hlt, mm_get_w h]
    simp only [mm_ce]
    refine congrArg (fun l => some (ad o, (Sum.inr (ci, l) : va_E))) ?_
    apply List.ext_getElem?
    intro j
    rw [List.getElem?_set]
    have hk2 := (List.getElem?_eq_some_iff.mp hk).1
    by_cases hj : k = j
    · subst hj
      rw [if_pos rfl, if_pos (by simpa using hk2), List.getElem?_mapIdx, hk]
      simp [mm_fv, mm_up, upd]
    · rw [if_neg hj]
      simp only [List.getElem?_mapIdx]
      cases hf : fs[j]? with
      | none => rfl
      | some f => cases f <;> simp [mm_fv, mm_up, upd, Ne.symm hj]
  · rw [if_neg hi]
    simp only [mm_world, List.getElem?_mapIdx]
    cases hs : mm_shape[i]? with
    | none => rfl
    | some e => cases e <;> simp [mm_ce, mm_up, Ne.symm hi]
-- locals
def mm_ls (ad : Nat → Nat) (lo : mm_L) (ls : Array Slot) : Prop := lv_wf ls ∧ ls.size = lo.length ∧ ∀ (k : Nat) (v : mm_V), lo[k]? = some (some v) → ls[k]? = some (.val (mm_tv ad v))
def mm_lq (ad : Nat → Nat) (lo : mm_L) (k : Nat) : Option (Nat × Value) := match lo[k]? with
  | some (some v) => some (k, mm_tv ad v)
  | _ => none
def mm_lvs (ad : Nat → Nat) (lo : mm_L) : List (Nat × Value) := (List.range lo.length).filterMap (mm_lq ad lo)
theorem mm_lvs_mem {ad : Nat → Nat} {lo : mm_L} {k : Nat} {v : mm_V} (h : lo[k]? = some (some v)) : (k, mm_tv ad v) ∈ mm_lvs ad lo :=
  List.mem_filterMap.mpr ⟨k, List.mem_range.mpr (List.getElem?_eq_some_iff.mp h).1, by simp [mm_lq, h]⟩
theorem mm_lvs_of {ad : Nat → Nat} {lo : mm_L} {q : Nat × Value} (h : q ∈ mm_lvs ad lo) : ∃ v, lo[q.1]? = some (some v) ∧ q.2 = mm_tv ad v := by
  obtain ⟨k, -, hk⟩ := List.mem_filterMap.mp h
  unfold mm_lq at hk
  split at hk
  · cases hk
    exact ⟨_, by assumption, rfl⟩
  · cases hk
theorem mm_ls_has {ad : Nat → Nat} {lo : mm_L} {ls : Array Slot} (h : mm_ls ad lo ls) : lv_has ls lo.length (mm_lvs ad lo) := by
  refine ⟨h.2.1, h.1, fun q hq => ?_⟩
  obtain ⟨v, h1, h2⟩ := mm_lvs_of hq
  rw [h.2.2 _ _ h1, h2]
theorem mm_ls_set {ad : Nat → Nat} {lo : mm_L} {ls : Array Slot} {k : Nat} {v : mm_V}
    (h : lv_has ls lo.length ((k, mm_tv ad v) :: (mm_lvs ad lo).filter (fun q => !(q.1 == k) && !(q.1 + 1 == k && q.2.category == 2)))) : mm_ls ad (lo.set k (some v)) ls := by
  refine ⟨h.2.1, by rw [List.length_set]; exact h.1, fun j w hw => ?_⟩
  rw [List.getElem?_set] at hw
  by_cases hj : k = j
  · subst hj
    rw [if_pos rfl] at hw
    split at hw
    · cases hw
      exact h.2.2 (k, mm_tv ad v) List.mem_cons_self
    · cases hw
  · rw [if_neg hj] at hw
    refine h.2.2 (j, mm_tv ad w) (List.mem_cons_of_mem _ (List.mem_filter.mpr ⟨mm_lvs_mem hw, ?_⟩))
    have hc := mm_tv_cat ad w
    simp [Ne.symm hj, hc]
theorem mm_sl (ad : Nat → Nat) (as : List mm_V) : lg_sl (as.map (mm_tv ad)) = as.map (fun v => Slot.val (mm_tv ad v)) := by
  induction as with
  | nil => rfl
  | cons v r ih =>
    have hc := mm_tv_cat ad v
    simp only [List.map_cons, lg_sl, List.flatMap_cons] at ih ⊢
    rw [ih]
    simp [hc]
theorem mm_lv_args (ad : Nat → Nat) (as : List mm_V) : ∀ (i k : Nat) (v : mm_V), as[k]? = some v → (i + k, mm_tv ad v) ∈ lv_args i (as.map (mm_tv ad)) := by
  induction as with
  | nil => intro i k v h; simp at h
  | cons w r ih =>
    intro i k v h
    have hc := mm_tv_cat ad w
    simp only [List.map_cons, lv_args, hc]
    cases k with
    | zero =>
      simp at h
      subst h
      exact List.mem_cons_self
    | succ k =>
      simp at h
      have h1 := ih (i + 1) k v h
      rw [show i + 1 + k = i + (k + 1) by omega] at h1
      exact List.mem_cons_of_mem _ (by simpa using h1)
theorem mm_ent_len {k : Nat} {as : List mm_V} (h : as.length ≤ mm_maxL k) : (mm_ent k as).length = mm_maxL k := by
  simp [mm_ent]; omega
theorem mm_ls_ent {ad : Nat → Nat} {k : Nat} {as : List mm_V} (h : as.length ≤ mm_maxL k) : mm_ls ad (mm_ent k as) ((lg_sl (as.map (mm_tv ad)) ++ List.replicate (mm_maxL k - (lg_sl (as.map (mm_tv ad))).length) Slot.unset).toArray) := by
  have hlen : (lg_sl (as.map (mm_tv ad))).length = as.length := by rw [mm_sl]; simp
  have h1 := lv_entry (as.map (mm_tv ad)) (n := mm_maxL k) (by rw [hlen]; exact h)
  refine ⟨h1.2.1, by rw [h1.1, mm_ent_len h], fun j v hj => ?_⟩
  have h2 : as[j]? = some v := by
    simp only [mm_ent] at hj
    by_cases hjl : j < as.length
    · rw [List.getElem?_append_left (by simpa using hjl), List.getElem?_map] at hj
      cases ha : as[j]? with
      | none => rw [ha] at hj; cases hj
      | some w => rw [ha] at hj; simp at hj; rw [hj]
    · rw [List.getElem?_append_right (by simpa using hjl), List.getElem?_replicate] at hj
      split at hj <;> cases hj
  have h3 := mm_lv_args ad as 0 j v h2
  rw [Nat.zero_add] at h3
  exact h1.2.2 _ h3
