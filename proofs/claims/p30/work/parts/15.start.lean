theorem lw_inst {k : Nat} {q : vw_C} (h : vwCl[k]? = some q) : Cond.instantiable q.1 q.2.2 ∈ mm_GW := by
  match k, h with
  | 0, h => cases h; exact mm_w_in (i := 143) (by decide +kernel)
  | 1, h => cases h; exact mm_w_in (i := 73) (by decide +kernel)
  | 2, h => cases h; exact mm_w_in (i := 39) (by decide +kernel)
  | 3, h => cases h; exact mm_w_in (i := 159) (by decide +kernel)
  | 4, h => cases h; exact mm_w_in (i := 115) (by decide +kernel)
  | 5, h => cases h; exact mm_w_in (i := 87) (by decide +kernel)
  | 6, h => cases h; exact mm_w_in (i := 31) (by decide +kernel)
  | k + 7, h => simp [vwCl] at h
theorem lw_kinds {s : State} {args : Array Value} (hts : ∀ w ∈ mm_GW, w.before args s = true) : ∃ (D : va_G) (cI cC : ClassId), va_K D vwCl (mm_tys cI cC) s := by
  have key : ∀ k : Nat, ∃ (c0 : ClassId) (iS : Nat → Nat), ∀ q : vw_C, vwCl[k]? = some q → u_Kn s q.1 q.2.1 q.2.2 c0 iS := by
    intro k
    cases hq : vwCl[k]? with
    | none => exact ⟨0, fun _ => 0, fun q h => by cases h⟩
    | some q =>
      obtain ⟨c0, iS, h⟩ := u_known (n := q.2.2) hts (mm_kind hq).1 (hts _ (lw_inst hq))
      exact ⟨c0, iS, fun q' h' => by cases h'; exact h⟩
  have arr : ∀ ty : FieldType, (Cond.arrayClass ty).before args s = true → ∃ cA : ClassId, ArrOfT s cA ty ∧ s.vm.findClass ("[" ++ ty.toString) = some cA := by
    intro ty h
    obtain ⟨cA, kA, comp, h1, h2, h3⟩ := Cond.arrayClass_spec h
    exact ⟨cA, fun n z => ⟨fun k h => (by cases h), kA, h2, comp, h3⟩, h1⟩
  obtain ⟨cI, i1, i2⟩ := arr .int (hts _ (mm_w_in (i := 71) (w := .arrayClass .int) (by decide +kernel)))
  let cC : ClassId := cI
  refine ⟨(fun k => Classical.choose (key k), fun k => Classical.choose (Classical.choose_spec (key k))), cI, cC, fun k q hq => Classical.choose_spec (Classical.choose_spec (key k)) q hq, fun k q hq => ?_⟩
  match k, hq with
  | 0, hq => cases hq; exact ⟨i1, i2⟩
  | k + 1, hq => simp [mm_tys] at hq
theorem lw_stat {s : State} {args : Array Value} {A : Nat → Prop} (hts : ∀ w ∈ lw_tbl, w.before args s = true) (hg : (Jvm.Cond.and given_1 narrow_1).before args s = true) (hA : ∀ a : Nat, a < s.heap.size → ¬ A a) :
    (∃ tX : Nat, va_Z "LimbScore$Walk" "UNIT_X" "[I" (.ref tX) A s s.heap ∧ va_T .int tX 8 (fun j => .int (mm_ux j)) A s s.heap) ∧ (∃ tY : Nat, va_Z "LimbScore$Walk" "UNIT_Y" "[I" (.ref tY) A s s.heap ∧ va_T .int tY 8 (fun j => .int (mm_uy j)) A s s.heap) := by
  have hs := flat_of_before _ hg
  have hini : (Cond.initialized "LimbScore$Walk").before args s = true := hts _ (List.mem_of_getElem? (i := 23) (by decide +kernel))
  constructor
  · have hl : (Cond.laysStatic "LimbScore$Walk" "UNIT_X" "[I").before args s = true := hts _ (List.mem_of_getElem? (i := 566) (by decide +kernel))
    have harr : (Cond.arrayOf (.static "LimbScore$Walk" "UNIT_X" "[I") .int).before args s = true := hs _ (by decide +kernel)
    have hlen : (Term.length (.static "LimbScore$Walk" "UNIT_X" "[I")).eval args s none [] s = some (.int (Int32.ofNat 8)) := va_eqt (z := 8) (hs (Cond.eq (.length (.static "LimbScore$Walk" "UNIT_X" "[I")) (.int 8)) (by decide +kernel))
    have hel : ∀ j : Nat, j < 8 → (Term.elem (.static "LimbScore$Walk" "UNIT_X" "[I") (.int (Int32.ofNat j))).eval args s none [] s = some (.int (mm_ux j)) := by
      intro j hj
      match j, hj with
      | 0, _ => exact va_eqt (z := 0) (hs (Cond.eq (.elem (.static "LimbScore$Walk" "UNIT_X" "[I") (.int 0)) (.int (0))) (by decide +kernel))
      | 1, _ => exact va_eqt (z := 1) (hs (Cond.eq (.elem (.static "LimbScore$Walk" "UNIT_X" "[I") (.int 1)) (.int (1))) (by decide +kernel))
      | 2, _ => exact va_eqt (z := 1) (hs (Cond.eq (.elem (.static "LimbScore$Walk" "UNIT_X" "[I") (.int 2)) (.int (1))) (by decide +kernel))
      | 3, _ => exact va_eqt (z := 1) (hs (Cond.eq (.elem (.static "LimbScore$Walk" "UNIT_X" "[I") (.int 3)) (.int (1))) (by decide +kernel))
      | 4, _ => exact va_eqt (z := 0) (hs (Cond.eq (.elem (.static "LimbScore$Walk" "UNIT_X" "[I") (.int 4)) (.int (0))) (by decide +kernel))
      | 5, _ => exact va_eqt (z := -1) (hs (Cond.eq (.elem (.static "LimbScore$Walk" "UNIT_X" "[I") (.int 5)) (.int (-1))) (by decide +kernel))
      | 6, _ => exact va_eqt (z := -1) (hs (Cond.eq (.elem (.static "LimbScore$Walk" "UNIT_X" "[I") (.int 6)) (.int (-1))) (by decide +kernel))
      | 7, _ => exact va_eqt (z := -1) (hs (Cond.eq (.elem (.static "LimbScore$Walk" "UNIT_X" "[I") (.int 7)) (.int (-1))) (by decide +kernel))
      | j + 8, h => exact absurd h (by omega)
    obtain ⟨t, ht, hT⟩ := va_Tof (f := fun j => .int (mm_ux j)) (by decide) harr hlen hel hA
    exact ⟨t, va_Zref hl hini ht hA, hT⟩
  · have hl : (Cond.laysStatic "LimbScore$Walk" "UNIT_Y" "[I").before args s = true := hts _ (List.mem_of_getElem? (i := 568) (by decide +kernel))
    have harr : (Cond.arrayOf (.static "LimbScore$Walk" "UNIT_Y" "[I") .int).before args s = true := hs _ (by decide +kernel)
    have hlen : (Term.length (.static "LimbScore$Walk" "UNIT_Y" "[I")).eval args s none [] s = some (.int (Int32.ofNat 8)) := va_eqt (z := 8) (hs (Cond.eq (.length (.static "LimbScore$Walk" "UNIT_Y" "[I")) (.int 8)) (by decide +kernel))
    have hel : ∀ j : Nat, j < 8 → (Term.elem (.static "LimbScore$Walk" "UNIT_Y" "[I") (.int (Int32.ofNat j))).eval args s none [] s = some (.int (mm_uy j)) := by
      intro j hj
      match j, hj with
      | 0, _ => exact va_eqt (z := 1) (hs (Cond.eq (.elem (.static "LimbScore$Walk" "UNIT_Y" "[I") (.int 0)) (.int (1))) (by decide +kernel))
      | 1, _ => exact va_eqt (z := 1) (hs (Cond.eq (.elem (.static "LimbScore$Walk" "UNIT_Y" "[I") (.int 1)) (.int (1))) (by decide +kernel))
      | 2, _ => exact va_eqt (z := 0) (hs (Cond.eq (.elem (.static "LimbScore$Walk" "UNIT_Y" "[I") (.int 2)) (.int (0))) (by decide +kernel))
      | 3, _ => exact va_eqt (z := -1) (hs (Cond.eq (.elem (.static "LimbScore$Walk" "UNIT_Y" "[I") (.int 3)) (.int (-1))) (by decide +kernel))
      | 4, _ => exact va_eqt (z := -1) (hs (Cond.eq (.elem (.static "LimbScore$Walk" "UNIT_Y" "[I") (.int 4)) (.int (-1))) (by decide +kernel))
      | 5, _ => exact va_eqt (z := -1) (hs (Cond.eq (.elem (.static "LimbScore$Walk" "UNIT_Y" "[I") (.int 5)) (.int (-1))) (by decide +kernel))
      | 6, _ => exact va_eqt (z := 0) (hs (Cond.eq (.elem (.static "LimbScore$Walk" "UNIT_Y" "[I") (.int 6)) (.int (0))) (by decide +kernel))
      | 7, _ => exact va_eqt (z := 1) (hs (Cond.eq (.elem (.static "LimbScore$Walk" "UNIT_Y" "[I") (.int 7)) (.int (1))) (by decide +kernel))
      | j + 8, h => exact absurd h (by omega)
    obtain ⟨t, ht, hT⟩ := va_Tof (f := fun j => .int (mm_uy j)) (by decide) harr hlen hel hA
    exact ⟨t, va_Zref hl hini ht hA, hT⟩
set_option maxHeartbeats 8000000 in
set_option maxRecDepth 100000 in
theorem lw_begin {p : Program} {e : Env} {s : State} {m : MethodId} {below : List Frame} {meth : Method} {c : Code} (l : Launch) {b L : Nat} {xs : Nat → Int32} (hL : L ≤ 260) (C0 : lw_At p s m meth c b L xs) (hW : wp 169 8 [some (.inr 42), some (.inr 0), none, none, none, none, none, none, none, none, none, none] [] (mm_M0 xs (fun _ => nI L)) (fun r _ => r = some (nI 1))) :
    W p l e room_1 s m #[Value.ref b] below meth c s.heap [] 0 0 (lw_Z below #[Value.ref b] s) (entryFrame m ([Value.ref b] : List Value).toArray 12) := by
  obtain ⟨hx, hb, hr, hml, hown, hts0, hXs, hbl, hlocks, hgv⟩ := id C0
  have hts : ∀ w ∈ mm_GW, w.before #[Value.ref b] s = true := fun w hw => hts0 w (mm_gw_lw hw)
  have hA : ∀ q : Nat, s.heap.size ≤ q → (fun q : Nat => s.heap.size ≤ q) q := fun _ h => h
  obtain ⟨D, cI, cC, hK⟩ := lw_kinds hts
  obtain ⟨⟨tX, zX1, zX2⟩, tY, zY1, zY2⟩ := lw_stat (A := fun q : Nat => s.heap.size ≤ q) hts0 hgv (fun a h => Nat.not_le.mpr h)
  have hNf : ∀ f ∈ mm_flds, f.2.2.2.1 = true → ∀ q, vwCl[f.2.1]? = some q → va_Nw (.fieldLinkNest (mm_cn f.1.1) f.1.2 (q.2.1 f.2.2.1).1 (q.2.1 f.2.2.1).2.1 (q.2.1 f.2.2.1).2.2.1 "LimbScore") s := by
    intro f hf hn q hq
    have h := List.all_eq_true.mp mm_flds_ok f hf
    unfold mm_fOk at h
    rw [hq] at h
    simp only [hn, Bool.and_eq_true, decide_eq_true_eq] at h
    exact va_Nw.of rfl (hts0 _ (List.mem_of_getElem? h.2))
  have hNc : ∀ f ∈ mm_calls, f.2.1 = 2 → va_Nw (.methodLinkNest (mm_cn f.1.1) f.1.2 (mm_y f.2.2.1) "LimbScore") s := by
    intro f hf hn
    have h := List.all_eq_true.mp mm_calls_ok f hf
    obtain ⟨⟨fa, fb⟩, kd, fk, fc, i1, i2, i3, i4⟩ := f
    simp only at hn
    subst hn
    simp only [mm_cOk, Bool.and_eq_true, decide_eq_true_eq] at h
    exact va_Nw.of rfl (hts0 _ (List.mem_of_getElem? h.1.1.2))
  have hNi : ci_Nn s := ⟨va_Nw.of rfl (hts0 _ (List.mem_of_getElem? (i := 40) (by decide +kernel))), va_Nw.of rfl (hts0 _ (List.mem_of_getElem? (i := 74) (by decide +kernel))), va_Nw.of rfl (hts0 _ (List.mem_of_getElem? (i := 88) (by decide +kernel))), va_Nw.of rfl (hts0 _ (List.mem_of_getElem? (i := 116) (by decide +kernel))), va_Nw.of rfl (hts0 _ (List.mem_of_getElem? (i := 144) (by decide +kernel))), va_Nw.of rfl (hts0 _ (List.mem_of_getElem? (i := 160) (by decide +kernel)))⟩
  have hS : va_S (fun q : Nat => s.heap.size ≤ q) s.heap s.heap [] := va_S.rf
  have hP : va_P D vwCl [] s.heap := fun k q h => by simp at h
  have hD : va_D (fun q : Nat => s.heap.size ≤ q) [] := ⟨fun i j p q h => by simp at h, fun k q h => by simp at h⟩
  have hl := lv_entry ([.ref b]) (n := 12) (Nat.le_of_ble_eq_true rfl)
  rw [lg_entry_eq]
  generalize (lg_sl ([.ref b]) ++ List.replicate (12 - (lg_sl ([.ref b])).length) Slot.unset).toArray = ls at hl ⊢
  have hl : lv_has ls 12 [(0, .ref b)] := hl
  refine va_new (ci := 6) (fs := [.null, .null, .null, .null, .null, .null, .null, .null, .null]) (C := RX7) (T := TX7) (N := 9) hx hb hts (mm_kind (ci := 6) rfl).1 tyX7 tyX7_ok hown (hts _ (mm_w_in (i := 30) (w := .classLink R_law 10 RX7) (by decide +kernel))) (hts _ (mm_w_in (i := 31) (w := .instantiable RX7 9) (by decide +kernel))) (hts _ (mm_w_in (i := 19) (w := .initialized RX7) (by decide +kernel))) hK hP hD hS hA rfl (fun j hj => by rcases (show j = 0 ∨ j = 1 ∨ j = 2 ∨ j = 3 ∨ j = 4 ∨ j = 5 ∨ j = 6 ∨ j = 7 ∨ j = 8 by omega) with rfl | rfl | rfl | rfl | rfl | rfl | rfl | rfl | rfl <;> rfl) (Nat.le_of_ble_eq_true rfl) (Nat.le_of_ble_eq_true rfl) dL_law_0 (fun a0 H hP hD hS => ?_)
  replace hP : va_P D vwCl [(a0, .inr (6, [.null, .null, .null, .null, .null, .null, .null, .null, .null]))] H := hP
  replace hD : va_D (fun q : Nat => s.heap.size ≤ q) [(a0, .inr (6, [.null, .null, .null, .null, .null, .null, .null, .null, .null]))] := hD
  refine W.widen (k := 1) (n := 9) (Nat.le_of_ble_eq_true rfl) (Nat.le_of_ble_eq_true rfl) ?_
  refine lv_dup hx hb dL_law_3 rfl ?_
  have hPc := hP.sub (ws' := [(a0, .inr (6, [.null, .null, .null, .null, .null, .null, .null, .null, .null]))]) [0] rfl
  have hDc := hD.sub (ws' := [(a0, .inr (6, [.null, .null, .null, .null, .null, .null, .null, .null, .null]))]) [0] (by decide) rfl
  have hFc := va_free (wc := [(a0, .inr (6, [.null, .null, .null, .null, .null, .null, .null, .null, .null]))]) hD hS hA [0] rfl
  refine va_callv (a := #[Value.ref a0]) (va_runI (nL := 12) (own := R_law) (Ts := mm_GW) (As := []) (rest := [.ref a0]) ⟨hx, hb, hml, hown, hts⟩ (ci_X7 l D cI cC a0 H.size) (cwI 0 hts (ci_good (mm_w_in (i := 34) (by decide +kernel))) rfl rfl rfl (hts _ (mm_w_in (i := 19) (w := .initialized RX7) (by decide +kernel))) (hts _ (mm_w_in (i := 32) (w := .methodLink R_law 77 yX7_init) (by decide +kernel))) (hts _ (mm_w_in (i := 33) (w := .instanceMethod yX7_init) (by decide +kernel))) rfl (by decide +kernel) ⟨Nat.le_of_ble_eq_true rfl, Nat.le_of_ble_eq_true rfl⟩) ⟨fun a U g mk q => by obtain ⟨q0, q1, qP, qK, qD, qN⟩ := q; exact ⟨q0, q1, qP, va_K.moved (u := U) (U := U.calling g mk a) (Vm.Alike.refl U.vm) qK, qD, by obtain ⟨n0, n1, n2, n3, n4, n5⟩ := qN; exact ⟨va_Nw.same rfl (u := U) rfl n0, va_Nw.same rfl (u := U) rfl n1, va_Nw.same rfl (u := U) rfl n2, va_Nw.same rfl (u := U) rfl n3, va_Nw.same rfl (u := U) rfl n4, va_Nw.same rfl (u := U) rfl n5⟩⟩, fun U hU hW => ⟨rfl, by rw [hU], by rw [hU]; exact hPc, va_K.moved hW.alike hK, hDc.weaken (fun _ _ _ _ => trivial), by obtain ⟨n0, n1, n2, n3, n4, n5⟩ := hNi; exact ⟨va_Nw.warmM hW n0, va_Nw.warmM hW n1, va_Nw.warmM hW n2, va_Nw.warmM hW n3, va_Nw.warmM hW n4, va_Nw.warmM hW n5⟩⟩⟩ rfl rfl hl.1 rfl (lv_room (Nat.le_of_ble_eq_true rfl)) dL_law_4 ⟨Nat.le_of_ble_eq_true rfl, Nat.le_of_ble_eq_true rfl⟩) hS (fun q _ h => hFc q h) hFc (fun u t H1 locs ht hvm hw hB hz1 hk1 hS => ?_)
  obtain ⟨a1, a2, a3, a4, a5, a6, a7, a8, a9, a10, a11, a12, a13, a14, a15, a16, a17, a18, a19, a20, a21, a22, a23, a24, a25, a26, a27, a28, a29, hP1, -, hD1⟩ := hB
  rw [ht] at hP1
  obtain ⟨hP, hD⟩ := va_join (wr := []) (w1 := [(a0, .inr (6, [.ref a1, .ref a3, .ref a5, .ref a7, .ref a9, .ref a15, .ref a22, .ref a26, .ref a29])), (a1, .inr (2, [.int 16, .int 1, .int 0, .ref a2])), (a2, .inl (cI, 120, .inl (fun _ => 0))), (a3, .inr (2, [.int 16, .int 1, .int 0, .ref a4])), (a4, .inl (cI, 120, .inl (fun _ => 0))), (a5, .inr (2, [.int 16, .int 1, .int 0, .ref a6])), (a6, .inl (cI, 120, .inl (fun _ => 0))), (a7, .inr (1, [.int 0, .ref a8])), (a8, .inl (cI, 378, .inl (fun _ => 0))), (a9, .inr (5, [.int 0, .int 0, .ref a10, .ref a11, .ref a12, .ref a13, .ref a14])), (a10, .inl (cI, 48, .inl (fun _ => 0))), (a11, .inl (cI, 48, .inl (fun _ => 0))), (a12, .inl (cI, 48, .inl (fun _ => 0))), (a13, .inl (cI, 48, .inl (fun _ => 0))), (a14, .inl (cI, 48, .inl (fun _ => 0))), (a15, .inr (4, [.ref a16, .ref a17, .ref a18, .ref a19, .ref a20, .ref a21])), (a16, .inl (cI, 49, .inl (fun _ => 0))), (a17, .inl (cI, 49, .inl (fun _ => 0))), (a18, .inl (cI, 49, .inl (fun _ => 0))), (a19, .inl (cI, 49, .inl (fun _ => 0))), (a20, .inl (cI, 49, .inl (fun _ => 0))), (a21, .inl (cI, 49, .inl (fun _ => 0))), (a22, .inr (0, [.ref a23, .ref a24, .ref a25])), (a23, .inl (cI, 48, .inl (fun _ => 0))), (a24, .inl (cI, 48, .inl (fun _ => 0))), (a25, .inl (cI, 48, .inl (fun _ => 0))), (a26, .inr (3, [.int 0, .int 0, .ref a27, .ref a28])), (a27, .inl (cI, 120, .inl (fun _ => 0))), (a28, .inl (cI, 7, .inl (fun _ => 0))), (a29, .inl (cI, 48, .inl (fun _ => 0)))]) hP hD [0] [] rfl rfl (by decide) (by decide) hk1 hFc hP1 hD1
  generalize H1 = H at hP hS ⊢
  replace hP : va_P D vwCl [(a0, .inr (6, [.ref a1, .ref a3, .ref a5, .ref a7, .ref a9, .ref a15, .ref a22, .ref a26, .ref a29])), (a1, .inr (2, [.int 16, .int 1, .int 0, .ref a2])), (a2, .inl (cI, 120, .inl (fun _ => 0))), (a3, .inr (2, [.int 16, .int 1, .int 0, .ref a4])), (a4, .inl (cI, 120, .inl (fun _ => 0))), (a5, .inr (2, [.int 16, .int 1, .int 0, .ref a6])), (a6, .inl (cI, 120, .inl (fun _ => 0))), (a7, .inr (1, [.int 0, .ref a8])), (a8, .inl (cI, 378, .inl (fun _ => 0))), (a9, .inr (5, [.int 0, .int 0, .ref a10, .ref a11, .ref a12, .ref a13, .ref a14])), (a10, .inl (cI, 48, .inl (fun _ => 0))), (a11, .inl (cI, 48, .inl (fun _ => 0))), (a12, .inl (cI, 48, .inl (fun _ => 0))), (a13, .inl (cI, 48, .inl (fun _ => 0))), (a14, .inl (cI, 48, .inl (fun _ => 0))), (a15, .inr (4, [.ref a16, .ref a17, .ref a18, .ref a19, .ref a20, .ref a21])), (a16, .inl (cI, 49, .inl (fun _ => 0))), (a17, .inl (cI, 49, .inl (fun _ => 0))), (a18, .inl (cI, 49, .inl (fun _ => 0))), (a19, .inl (cI, 49, .inl (fun _ => 0))), (a20, .inl (cI, 49, .inl (fun _ => 0))), (a21, .inl (cI, 49, .inl (fun _ => 0))), (a22, .inr (0, [.ref a23, .ref a24, .ref a25])), (a23, .inl (cI, 48, .inl (fun _ => 0))), (a24, .inl (cI, 48, .inl (fun _ => 0))), (a25, .inl (cI, 48, .inl (fun _ => 0))), (a26, .inr (3, [.int 0, .int 0, .ref a27, .ref a28])), (a27, .inl (cI, 120, .inl (fun _ => 0))), (a28, .inl (cI, 7, .inl (fun _ => 0))), (a29, .inl (cI, 48, .inl (fun _ => 0)))] H := hP
  replace hD : va_D (fun q : Nat => s.heap.size ≤ q) [(a0, .inr (6, [.ref a1, .ref a3, .ref a5, .ref a7, .ref a9, .ref a15, .ref a22, .ref a26, .ref a29])), (a1, .inr (2, [.int 16, .int 1, .int 0, .ref a2])), (a2, .inl (cI, 120, .inl (fun _ => 0))), (a3, .inr (2, [.int 16, .int 1, .int 0, .ref a4])), (a4, .inl (cI, 120, .inl (fun _ => 0))), (a5, .inr (2, [.int 16, .int 1, .int 0, .ref a6])), (a6, .inl (cI, 120, .inl (fun _ => 0))), (a7, .inr (1, [.int 0, .ref a8])), (a8, .inl (cI, 378, .inl (fun _ => 0))), (a9, .inr (5, [.int 0, .int 0, .ref a10, .ref a11, .ref a12, .ref a13, .ref a14])), (a10, .inl (cI, 48, .inl (fun _ => 0))), (a11, .inl (cI, 48, .inl (fun _ => 0))), (a12, .inl (cI, 48, .inl (fun _ => 0))), (a13, .inl (cI, 48, .inl (fun _ => 0))), (a14, .inl (cI, 48, .inl (fun _ => 0))), (a15, .inr (4, [.ref a16, .ref a17, .ref a18, .ref a19, .ref a20, .ref a21])), (a16, .inl (cI, 49, .inl (fun _ => 0))), (a17, .inl (cI, 49, .inl (fun _ => 0))), (a18, .inl (cI, 49, .inl (fun _ => 0))), (a19, .inl (cI, 49, .inl (fun _ => 0))), (a20, .inl (cI, 49, .inl (fun _ => 0))), (a21, .inl (cI, 49, .inl (fun _ => 0))), (a22, .inr (0, [.ref a23, .ref a24, .ref a25])), (a23, .inl (cI, 48, .inl (fun _ => 0))), (a24, .inl (cI, 48, .inl (fun _ => 0))), (a25, .inl (cI, 48, .inl (fun _ => 0))), (a26, .inr (3, [.int 0, .int 0, .ref a27, .ref a28])), (a27, .inl (cI, 120, .inl (fun _ => 0))), (a28, .inl (cI, 7, .inl (fun _ => 0))), (a29, .inl (cI, 48, .inl (fun _ => 0)))] := hD
  refine W.widen (k := 30) (n := 1634) (Nat.le_of_ble_eq_true rfl) (Nat.le_of_ble_eq_true rfl) ?_
  refine lv_astore_n (lv' := [(1, .ref a0), (0, .ref b)]) hx hb dL_law_7 rfl hl (by decide) rfl (fun ls hl => ?_)
  rw [← mm_world0 tX tY b L xs (fun _ => nI L)] at hP hD
  have hT : va_T .int b L (fun j => .int (Int32.ofNat ((mm_ad tX tY b L xs [a0, a1, a2, a3, a4, a5, a6, a7, a8, a9, a10, a11, a12, a13, a14, a15, a16, a17, a18, a19, a20, a21, a22, a23, a24, a25, a26, a27, a28, a29]) (100 + j)))) (fun q : Nat => s.heap.size ≤ q) s s.heap := by
    obtain ⟨scr, g1, g2, g3, g4, g5⟩ := hXs
    refine ⟨scr, g1, g2, g3, by rw [g4]; exact Nat.le_refl L, by rw [g4]; rfl, fun j hj => ?_, Nat.not_le.mpr hbl⟩
    rw [g5 j hj, ← (mm_ok0 tX tY b L xs [a0, a1, a2, a3, a4, a5, a6, a7, a8, a9, a10, a11, a12, a13, a14, a15, a16, a17, a18, a19, a20, a21, a22, a23, a24, a25, a26, a27, a28, a29] (by omega)).2.2 j]
    rfl
  have hX : mm_X (mm_ad tX tY b L xs [a0, a1, a2, a3, a4, a5, a6, a7, a8, a9, a10, a11, a12, a13, a14, a15, a16, a17, a18, a19, a20, a21, a22, a23, a24, a25, a26, a27, a28, a29]) (fun q : Nat => s.heap.size ≤ q) s s.heap := ⟨hNf, hNc, ⟨zX1, zX2⟩, ⟨zY1, zY2⟩, hT⟩
  have hO := mm_ok0 tX tY b L xs [a0, a1, a2, a3, a4, a5, a6, a7, a8, a9, a10, a11, a12, a13, a14, a15, a16, a17, a18, a19, a20, a21, a22, a23, a24, a25, a26, a27, a28, a29] (by omega)
  have hls : mm_ls (mm_ad tX tY b L xs [a0, a1, a2, a3, a4, a5, a6, a7, a8, a9, a10, a11, a12, a13, a14, a15, a16, a17, a18, a19, a20, a21, a22, a23, a24, a25, a26, a27, a28, a29]) [some (.inr 42), some (.inr 0), none, none, none, none, none, none, none, none, none, none] ls := by
    refine ⟨hl.2.1, hl.1, fun k v hk => ?_⟩
    match k, hk with
    | 0, hk => cases hk; exact hl.2.2 (0, .ref b) (by simp)
    | 1, hk => cases hk; exact hl.2.2 (1, .ref a0) (by simp)
    | k + 2, hk =>
      have hk : (List.replicate 10 (none : Option mm_V))[k]? = some (some v) := hk
      rw [List.getElem?_replicate] at hk
      split at hk <;> cases hk
  generalize (mm_ad tX tY b L xs [a0, a1, a2, a3, a4, a5, a6, a7, a8, a9, a10, a11, a12, a13, a14, a15, a16, a17, a18, a19, a20, a21, a22, a23, a24, a25, a26, a27, a28, a29]) = ad at hP hD hX hO hls
  obtain ⟨n, r, M0, hrun, hr1⟩ := hW
  subst hr1
  refine (mm_sound l n).1 169 8 _ [] _ (some (nI 1)) M0 hrun p e room_1 s m #[Value.ref b] below meth c D ad cI cC (fun q : Nat => s.heap.size ≤ q) 30 1634 (lw_Z below #[Value.ref b] s) ⟨hx, by rw [kcL_law]; exact hb, by rw [kmL_law]; exact hml, by rw [krL_law]; exact hr, hlocks, by rw [knL_law]; exact hown, hts, hK, hX, hA, by rw [kfL_law]; exact Nat.le_of_ble_eq_true rfl, by rw [klL_law]; exact Nat.le_of_ble_eq_true rfl, Nat.le_of_ble_eq_true rfl, Nat.le_of_ble_eq_true rfl⟩ (fun pc' lo' st' hst => ?_) H _ ls hP ⟨hD, hO⟩ hS hls (by rw [kmL_law]; rfl)
  obtain ⟨hd, rfl⟩ := mm_ret_inv hst
  intro H2 locs2 ls2 hP2 hD2 hS2 hl2 hn2
  refine va_forget (fun q hq => hS2.2.2 q hq) ?_
  rw [kcL_law] at hd
  exact lw_ret hx hb hr hlocks hd
