theorem lw_inst {k : Nat} {q : vw_C} (h : vwCl[k]? = some q) : Cond.instantiable q.1 q.2.2 ∈ mm_GW := by
  match k, h with
  | 0, h => cases h; exact mm_w_in (i := 143) (by decide +kernel)
  | 1, h => cases h; exact mm_w_in (i := 73) (by decide +kernel)
  | 2, h => cases h; exact mm_w_in (i := 39) (by decide +kernel)
  | 3, h => cases h; exact mm_w_in (i := 159) (by decide +kernel)
  | 4, h => cases h; exact mm_w_in (i := 115) (by decide +kernel)
  | 5, h => cases h; exact mm_w_in (i := 87) (by decide +kernel)
  | 6, h => cases h; exact mm_w_in (i := 31) (by decide +kernel)
  | k + 7, h => simp [vwCl] at h
theorem lw_kinds {s : State} {args : Array Value} (hts : ∀ w ∈ mm_GW, w.before args s = true) : ∃ (D : va_G) (cI cC : ClassId), va_K D vwCl (mm_tys cI cC) s := by
  have key : ∀ k : Nat, ∃ (c0 : ClassId) (iS : Nat → Nat), ∀ q : vw_C, vwCl[k]? = some q → u_Kn s q.1 q.2.1 q.2.2 c0 iS := by
    intro k
    cases hq : vwCl[k]? with
    | none => exact ⟨0, fun _ => 0, fun q h => by cases h⟩
    | some q =>
      obtain ⟨c0, iS, h⟩ := u_known (n := q.2.2) hts (mm_kind hq).1 (hts _ (lw_inst hq))
      exact ⟨c0, iS, fun q' h' => by cases h'; exact h⟩
  have arr : ∀ ty : FieldType, (Cond.arrayClass ty).before args s = true → ∃ cA : ClassId, ArrOfT s cA ty ∧ s.vm.findClass ("[" ++ ty.toString) = some cA := by
    intro ty h
    obtain ⟨cA, kA, comp, h1, h2, h3⟩ := Cond.arrayClass_spec h
    exact ⟨cA, fun n z => ⟨fun k h => (by cases h), kA, h2, comp, h3⟩, h1⟩
  obtain ⟨cI, i1, i2⟩ := arr .int (hts _ (mm_w_in (i := 71) (w := .arrayClass .int) (by decide +kernel)))
  let cC : ClassId := cI
  refine ⟨(fun k => Classical.choose (key k), fun k => Classical.choose (Classical.choose_spec (key k))), cI, cC, fun k q hq => Classical.choose_spec (Classical.choose_spec (key k)) q hq, fun k q hq => ?_⟩
  match k, hq with
  | 0, hq => cases hq; exact ⟨i1, i2⟩
  | k + 1, hq => simp [mm_tys] at hq
theorem lw_stat {s : State} {args : Array Value} {A : Nat → Prop} (hts : ∀ w ∈ lw_tbl, w.before args s = true) (hg : (Jvm.Cond.and given_1 narrow_1).before args s = true) (hA : ∀ a : Nat, a < s.heap.size → ¬ A a) :
    (∃ tX : Nat, va_Z "LimbScore$Walk" "UNIT_X" "[I" (.ref tX) A s s.heap ∧ va_T .int tX 8 (fun j => .int (mm_ux j)) A s s.heap) ∧ (∃ tY : Nat, va_Z "LimbScore$Walk" "UNIT_Y" "[I" (.ref tY) A s s.heap ∧ va_T .int tY 8 (fun j => .int (mm_uy j)) A s s.heap) := by
  have hs := flat_of_before _ hg
  have hini : (Cond.initialized "LimbScore$Walk").before args s = true := hts _ (List.mem_of_getElem? (i := 23) (by decide +kernel))
  constructor
  · have hl : (Cond.laysStatic "LimbScore$Walk" "UNIT_X" "[I").before args s = true := hts _ (List.mem_of_getElem? (i := 566) (by decide +kernel))
    have harr : (Cond.arrayOf (.static "LimbScore$Walk" "UNIT_X" "[I") .int).before args s = true := hs _ (by decide +kernel)
    have hlen : (Term.length (.static "LimbScore$Walk" "UNIT_X" "[I")).eval args s none [] s = some (.int (Int32.ofNat 8)) := va_eqt (z := 8) (hs (Cond.eq (.length (.static "LimbScore$Walk" "UNIT_X" "[I")) (.int 8)) (by decide +kernel))
    have hel : ∀ j : Nat, j < 8 → (Term.elem (.static "LimbScore$Walk" "UNIT_X" "[I") (.int (Int32.ofNat j))).eval args s none [] s = some (.int (mm_ux j)) := by
      intro j hj
      match j, hj with
      | 0, _ => exact va_eqt (z := 0) (hs (Cond.eq (.elem (.static "LimbScore$Walk" "UNIT_X" "[I") (.int 0)) (.int (0))) (by decide +kernel))
      | 1, _ => exact va_eqt (z := 1) (hs (Cond.eq (.elem (.static "LimbScore$Walk" "UNIT_X" "[I") (.int 1)) (.int (1))) (by decide +kernel))
      | 2, _ => exact va_eqt (z := 1) (hs (Cond.eq (.elem (.static "LimbScore$Walk" "UNIT_X" "[I") (.int 2)) (.int (1))) (by decide +kernel))
      | 3, _ => exact va_eqt (z := 1) (hs (Cond.eq (.elem (.static "LimbScore$Walk" "UNIT_X" "[I") (.int 3)) (.int (1))) (by decide +kernel))
      | 4, _ => exact va_eqt (z := 0) (hs (Cond.eq (.elem (.static "LimbScore$Walk" "UNIT_X" "[I") (.int 4)) (.int (0))) (by decide +kernel))
      | 5, _ => exact va_eqt (z := -1) (hs (Cond.eq (.elem (.static "LimbScore$Walk" "UNIT_X" "[I") (.int 5)) (.int (-1))) (by decide +kernel))
      | 6, _ => exact va_eqt (z := -1) (hs (Cond.eq (.elem (.static "LimbScore$Walk" "UNIT_X" "[I") (.int 6)) (.int (-1))) (by decide +kernel))
      | 7, _ => exact va_eqt (z := -1) (hs (Cond.eq (.elem (.static "LimbScore$Walk" "UNIT_X" "[I") (.int 7)) (.int (-1))) (by decide +kernel))
      | j + 8, h => exact absurd h (by omega)
    obtain ⟨t, ht, hT⟩ := va_Tof (f := fun j => .int (mm_ux j)) (by decide) harr hlen hel hA
    exact ⟨t, va_Zref hl hini ht hA, hT⟩
  · have hl : (Cond.laysStatic "LimbScore$Walk" "UNIT_Y" "[I").before args s = true := hts _ (List.mem_of_getElem? (i := 568) (by decide +kernel))
    have harr : (Cond.arrayOf (.static "LimbScore$Walk" "UNIT_Y" "[I") .int).before args s = true := hs _ (by decide +kernel)
    have hlen : (Term.length (.static "LimbScore$Walk" "UNIT_Y" "[I")).eval args s none [] s = some (.int (Int32.ofNat 8)) := va_eqt (z := 8) (hs (Cond.eq (.length (.static "LimbScore$Walk" "UNIT_Y" "[I")) (.int 8)) (by decide +kernel))
    have hel : ∀ j : Nat, j < 8 → (Term.elem (.static "LimbScore$Walk" "UNIT_Y" "[I") (.int (Int32.ofNat j))).eval args s none [] s = some (.int (mm_uy j)) := by
      intro j hj
      match j, hj with
      | 0, _ => exact va_eqt (z := 1) (hs (Cond.eq (.elem (.static "LimbScore$Walk" "UNIT_Y" "[I") (.int 0)) (.int (1))) (by decide +kernel))
      | 1, _ => exact va_eqt (z := 1) (hs (Cond.eq (.elem (.static "LimbScore$Walk" "UNIT_Y" "[I") (.int 1)) (.int (1))) (by decide +kernel))
      | 2, _ => exact va_eqt (z := 0) (hs (Cond.eq (.elem (.static "LimbScore$Walk" "UNIT_Y" "[I") (.int 2)) (.int (0))) (by decide +kernel))
      | 3, _ => exact va_eqt (z := -1) (hs (Cond.eq (.elem (.static "LimbScore$Walk" "UNIT_Y" "[I") (.int 3)) (.int (-1))) (by decide +kernel))
      | 4, _ => exact va_eqt (z := -1) (hs (Cond.eq (.elem (.static "LimbScore$Walk" "UNIT_Y" "[I") (.int 4)) (.int (-1))) (by decide +kernel))
      | 5, _ => exact va_eqt (z := -1) (hs (Cond.eq (.elem (.static "LimbScore$Walk" "UNIT_Y" "[I") (.int 5)) (.int (-1))) (by decide +kernel))
      | 6, _ => exact va_eqt (z := 0) (hs (Cond.eq (.elem (.static "LimbScore$Walk" "UNIT_Y" "[I") (.int 6)) (.int (0))) (by decide +kernel))
      | 7, _ => exact va_eqt (z := 1) (hs (Cond.eq (.elem (.static "LimbScore$Walk" "UNIT_Y" "[I") (.int 7)) (.int (1))) (by decide +kernel))
      | j + 8, h => exact absurd h (by omega)
    obtain ⟨t, ht, hT⟩ := va_Tof (f := fun j => .int (mm_uy j)) (by decide) harr hlen hel hA
    exact ⟨t, va_Zref hl hini ht hA, hT⟩
/-- from a frame of the law in the small machine to the law's end -/
theorem lw_go {p : Program} {e : Env} {s : State} {m : MethodId} {below : List Frame} {meth : Method} {c : Code} (l : Launch) {b L : Nat} {xs : Nat → Int32} (C0 : lw_At p s m meth c b L xs) {D : va_G} {ad : Nat → Nat} {cI cC : ClassId} {M : mm_M} {H : Heap} {locs : List Loc} {ls : Array Slot} {pc : Nat} {lo : mm_L}
    (hts : ∀ w ∈ mm_GW, w.before #[Value.ref b] s = true) (hK : va_K D vwCl (mm_tys cI cC) s) (hX : mm_X ad (fun q : Nat => s.heap.size ≤ q) s s.heap) (hO : mm_ok ad M) (hW : wp 169 pc lo [] M (fun r _ => r = some (nI 1))) (hP : va_P D vwCl (mm_world ad cI cC M) H) (hD : va_D (fun q : Nat => s.heap.size ≤ q) (mm_world ad cI cC M)) (hS : va_S (fun q : Nat => s.heap.size ≤ q) s.heap H locs) (hls : mm_ls ad lo ls) (hlen : lo.length = 12) :
    W p l e room_1 s m #[Value.ref b] below meth c H locs 30 1634 (lw_Z below #[Value.ref b] s) (F0 m pc ls []) := by
  obtain ⟨hx, hb, hr, hml, hown, hts0, hXs, hbl, hlocks, hgv⟩ := C0
  obtain ⟨n, r, M0, hrun, hr1⟩ := hW
  subst hr1
  have e1 : (nI 1 : Int32) = 1 := by decide
  rw [e1] at hrun
  have C1 : mm_C p room_1 s m #[Value.ref b] meth c 30 1634 169 D ad cI cC (fun q : Nat => s.heap.size ≤ q) :=
    ⟨hx, by rw [kcL_law]; exact hb, by rw [kmL_law]; exact hml, by rw [krL_law]; exact hr, hlocks, by rw [knL_law]; exact hown, hts, hK, hX, fun _ h => h, by rw [kfL_law]; exact Nat.le_of_ble_eq_true rfl, by rw [klL_law]; exact Nat.le_of_ble_eq_true rfl, Nat.le_of_ble_eq_true rfl, Nat.le_of_ble_eq_true rfl⟩
  have fin := (mm_sound l n).1 169 pc lo [] M (some 1) M0 hrun p e room_1 s m #[Value.ref b] below meth c D ad cI cC (fun q : Nat => s.heap.size ≤ q) 30 1634 (lw_Z below #[Value.ref b] s) C1 (fun pc' lo' st' hst => by
    obtain ⟨hd, hst2⟩ := mm_ret_inv hst
    subst hst2
    intro H2 locs2 ls2 hP2 hD2 hS2 hl2 hn2
    refine va_forget (fun q hq => hS2.2.2 q hq) ?_
    rw [kcL_law] at hd
    exact lw_ret hx hb hr hlocks hd)
  exact fin H locs ls hP ⟨hD, hO⟩ hS hls (by rw [kmL_law]; exact hlen)
