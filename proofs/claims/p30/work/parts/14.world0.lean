/-! THE LAW FROM ITS ENTRY ON -/
def mm_M0 (X V : Nat → Int32) : mm_M := fun o => match o with
  | 1 => fun k => match k with | 0 => 16 | 1 => 1 | _ => 0
  | 3 => fun k => match k with | 0 => 16 | 1 => 1 | _ => 0
  | 5 => fun k => match k with | 0 => 16 | 1 => 1 | _ => 0
  | 42 => X
  | 43 => V
  | _ => fun _ => 0
def mm_ad (tX tY b L : Nat) (X : Nat → Int32) (l : List Nat) : Nat → Nat := fun o => if o = 40 then tX else if o = 41 then tY else if o = 42 then b else if o = 43 then L else if 100 ≤ o then (X (o - 100)).toBitVec.toNat else l.getD o 0
theorem i_back (x : Int32) : Int32.ofNat x.toBitVec.toNat = x := by
  apply Int32.toBitVec_inj.mp
  apply BitVec.eq_of_toNat_eq
  exact pk_tn x.toBitVec.isLt
theorem mm_ok0 (tX tY b L : Nat) (X : Nat → Int32) (l : List Nat) (hL : L < 2 ^ 31) : mm_ok (mm_ad tX tY b L X l) (mm_M0 X (fun _ => nI L)) := by
  refine ⟨hL, rfl, fun j => ?_⟩
  have e : mm_ad tX tY b L X l (100 + j) = (X j).toBitVec.toNat := by
    unfold mm_ad
    rw [if_neg (by omega), if_neg (by omega), if_neg (by omega), if_neg (by omega), if_pos (by omega), Nat.add_sub_cancel_left]
  rw [e, i_back]
  rfl
theorem st_tt {s : State} {b L : Nat} {xs : Nat → Int32} (hXs : va_X b L xs s s.heap) (hbl : b < s.heap.size) (hL : L < 2 ^ 31) (tX tY : Nat) (l : List Nat) : va_T .int b L (fun j => .int (Int32.ofNat (mm_ad tX tY b L xs l (100 + j)))) (fun q : Nat => s.heap.size ≤ q) s s.heap := by
  obtain ⟨scr, g1, g2, g3, g4, g5⟩ := hXs
  refine ⟨scr, g1, g2, g3, by rw [g4]; exact Nat.le_refl L, by rw [g4], fun j hj => ?_, Nat.not_le.mpr hbl⟩
  have e : mm_M0 xs (fun _ => nI L) 42 j = Int32.ofNat (mm_ad tX tY b L xs l (100 + j)) := (mm_ok0 tX tY b L xs l hL).2.2 j
  have e2 : mm_M0 xs (fun _ => nI L) 42 j = xs j := rfl
  have e3 : xs j = Int32.ofNat (mm_ad tX tY b L xs l (100 + j)) := e2.symm.trans e
  show scr.slots[j]? = some (.int (Int32.ofNat (mm_ad tX tY b L xs l (100 + j))))
  rw [← e3]
  exact g5 j hj
theorem st_lo {ad : Nat → Nat} {a0 b : Nat} {ls : Array Slot} (h0 : ad 0 = a0) (h42 : ad 42 = b) (hl : lv_has ls 12 [(1, .ref a0), (0, .ref b)]) : mm_ls ad [some (.inr 42), some (.inr 0), none, none, none, none, none, none, none, none, none, none] ls := by
  refine ⟨hl.2.1, hl.1, fun k v hk => ?_⟩
  match k, hk with
  | 0, hk =>
    cases hk
    have := hl.2.2 (0, .ref b) (by simp)
    rw [← h42] at this
    exact this
  | 1, hk =>
    cases hk
    have := hl.2.2 (1, .ref a0) (by simp)
    rw [← h0] at this
    exact this
  | k + 2, hk =>
    have hk : (List.replicate 10 (none : Option mm_V))[k]? = some (some v) := hk
    rw [List.getElem?_replicate] at hk
    split at hk <;> cases hk
set_option maxHeartbeats 4000000 in
set_option maxRecDepth 100000 in
theorem mm_world0 (tX tY b L : Nat) (X V : Nat → Int32) (a0 a1 a2 a3 a4 a5 a6 a7 a8 a9 a10 a11 a12 a13 a14 a15 a16 a17 a18 a19 a20 a21 a22 a23 a24 a25 a26 a27 a28 a29 : Nat) (cI cC : ClassId) : mm_world (mm_ad tX tY b L X [a0, a1, a2, a3, a4, a5, a6, a7, a8, a9, a10, a11, a12, a13, a14, a15, a16, a17, a18, a19, a20, a21, a22, a23, a24, a25, a26, a27, a28, a29]) cI cC (mm_M0 X V) = [(a0, .inr (6, [.ref a1, .ref a3, .ref a5, .ref a7, .ref a9, .ref a15, .ref a22, .ref a26, .ref a29])), (a1, .inr (2, [.int 16, .int 1, .int 0, .ref a2])), (a2, .inl (cI, 120, .inl (fun _ => 0))), (a3, .inr (2, [.int 16, .int 1, .int 0, .ref a4])), (a4, .inl (cI, 120, .inl (fun _ => 0))), (a5, .inr (2, [.int 16, .int 1, .int 0, .ref a6])), (a6, .inl (cI, 120, .inl (fun _ => 0))), (a7, .inr (1, [.int 0, .ref a8])), (a8, .inl (cI, 378, .inl (fun _ => 0))), (a9, .inr (5, [.int 0, .int 0, .ref a10, .ref a11, .ref a12, .ref a13, .ref a14])), (a10, .inl (cI, 48, .inl (fun _ => 0))), (a11, .inl (cI, 48, .inl (fun _ => 0))), (a12, .inl (cI, 48, .inl (fun _ => 0))), (a13, .inl (cI, 48, .inl (fun _ => 0))), (a14, .inl (cI, 48, .inl (fun _ => 0))), (a15, .inr (4, [.ref a16, .ref a17, .ref a18, .ref a19, .ref a20, .ref a21])), (a16, .inl (cI, 49, .inl (fun _ => 0))), (a17, .inl (cI, 49, .inl (fun _ => 0))), (a18, .inl (cI, 49, .inl (fun _ => 0))), (a19, .inl (cI, 49, .inl (fun _ => 0))), (a20, .inl (cI, 49, .inl (fun _ => 0))), (a21, .inl (cI, 49, .inl (fun _ => 0))), (a22, .inr (0, [.ref a23, .ref a24, .ref a25])), (a23, .inl (cI, 48, .inl (fun _ => 0))), (a24, .inl (cI, 48, .inl (fun _ => 0))), (a25, .inl (cI, 48, .inl (fun _ => 0))), (a26, .inr (3, [.int 0, .int 0, .ref a27, .ref a28])), (a27, .inl (cI, 120, .inl (fun _ => 0))), (a28, .inl (cI, 7, .inl (fun _ => 0))), (a29, .inl (cI, 48, .inl (fun _ => 0)))] := by
  apply List.ext_getElem?
  intro i
  match i with
  | 0 => exact (mm_get_w (o := 0) rfl).trans rfl
  | 1 => exact (mm_get_w (o := 1) rfl).trans rfl
  | 2 => exact (mm_get_w (o := 2) rfl).trans rfl
  | 3 => exact (mm_get_w (o := 3) rfl).trans rfl
  | 4 => exact (mm_get_w (o := 4) rfl).trans rfl
  | 5 => exact (mm_get_w (o := 5) rfl).trans rfl
  | 6 => exact (mm_get_w (o := 6) rfl).trans rfl
  | 7 => exact (mm_get_w (o := 7) rfl).trans rfl
  | 8 => exact (mm_get_w (o := 8) rfl).trans rfl
  | 9 => exact (mm_get_w (o := 9) rfl).trans rfl
  | 10 => exact (mm_get_w (o := 10) rfl).trans rfl
  | 11 => exact (mm_get_w (o := 11) rfl).trans rfl
  | 12 => exact (mm_get_w (o := 12) rfl).trans rfl
  | 13 => exact (mm_get_w (o := 13) rfl).trans rfl
  | 14 => exact (mm_get_w (o := 14) rfl).trans rfl
  | 15 => exact (mm_get_w (o := 15) rfl).trans rfl
  | 16 => exact (mm_get_w (o := 16) rfl).trans rfl
  | 17 => exact (mm_get_w (o := 17) rfl).trans rfl
  | 18 => exact (mm_get_w (o := 18) rfl).trans rfl
  | 19 => exact (mm_get_w (o := 19) rfl).trans rfl
  | 20 => exact (mm_get_w (o := 20) rfl).trans rfl
  | 21 => exact (mm_get_w (o := 21) rfl).trans rfl
  | 22 => exact (mm_get_w (o := 22) rfl).trans rfl
  | 23 => exact (mm_get_w (o := 23) rfl).trans rfl
  | 24 => exact (mm_get_w (o := 24) rfl).trans rfl
  | 25 => exact (mm_get_w (o := 25) rfl).trans rfl
  | 26 => exact (mm_get_w (o := 26) rfl).trans rfl
  | 27 => exact (mm_get_w (o := 27) rfl).trans rfl
  | 28 => exact (mm_get_w (o := 28) rfl).trans rfl
  | 29 => exact (mm_get_w (o := 29) rfl).trans rfl
  | n + 30 =>
    rw [List.getElem?_eq_none (by simp [mm_world, mm_shape]), List.getElem?_eq_none (by simp)]
