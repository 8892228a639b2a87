/-! THE LAW'S LOOP, over any invariant that the pairs of calls keep -/
/-- a call of the class, then the same of the reference: one answer, and the invariant again -/
def lw_pair (I : mm_M → Prop) (M : mm_M) (kx km : Nat) (as : List mm_V) : Prop := wc kx (.inr 0 :: as) M (fun r M1 => ∃ v : Int32, r = some v ∧ wc km (.inr 30 :: as) M1 (fun r2 M2 => r2 = some v ∧ I M2))
section LWC
variable {p : Program} {l : Launch} {e : Env} {s : State} {m : MethodId} {below : List Frame} {meth : Method} {c : Code} {b L : Nat} {xs : Nat → Int32} {D : va_G} {ad : Nat → Nat} {cI cC : ClassId} {Q : State → Prop} {M : mm_M} {H : Heap} {locs : List Loc} {ls : Array Slot} {pc : Nat}
theorem lw_call (C0 : lw_At p s m meth c b L xs) (hK : va_K D vwCl (mm_tys cI cC) s) (hX : mm_X ad (fun q : Nat => s.heap.size ≤ q) s s.heap) {k o idx ci : Nat} {fs : List (Option Nat)} {as : List mm_V} {rest : List Value} {P : Int32 → mm_M → Prop}
    (hk : k < mm_tab.length) (hlen : as.length + 1 ≤ mm_maxL k) (hnp : as.length = mm_np k) (hwc : wc k (.inr o :: as) M (fun r M1 => ∃ v : Int32, r = some v ∧ P v M1)) (ho : mm_shape[o]? = some (.inl (ci, fs))) (hci : (vwCl[ci]?).map (fun q => q.1) = some (mm_y k).cls)
    (w1 : Cond.methodLink R_law idx (mm_y k) ∈ mm_GW) (w2 : Cond.instanceMethod (mm_y k) ∈ mm_GW) (w3 : Cond.selects (mm_y k).cls (mm_y k) (mm_y k) ∈ mm_GW)
    (hP : va_P D vwCl (mm_world ad cI cC M) H) (hD : va_D (fun q : Nat => s.heap.size ≤ q) (mm_world ad cI cC M)) (hS : va_S (fun q : Nat => s.heap.size ≤ q) s.heap H locs) (hls : ls.size = 4)
    (hfr : mm_fr k + 1 ≤ 10) (hlo : 8 + (mm_maxL k + 11) + mm_lo k ≤ 350) (hrest : (rest.map fun v => v.category).sum ≤ 8) (hd : decode code pc = .ok (.invokevirtual idx, 3))
    (kk : ∀ (v : Int32) (M' : mm_M) (H' : Heap) (locs' : List Loc), P v M' → va_P D vwCl (mm_world ad cI cC M') H' → va_D (fun q : Nat => s.heap.size ≤ q) (mm_world ad cI cC M') → va_S (fun q : Nat => s.heap.size ≤ q) s.heap H' locs' → W p l e room_1 s m #[Value.ref b] below meth c H' locs' 38 8251 Q (F0 m (pc + 3) ls (.int v :: rest))) :
    W p l e room_1 s m #[Value.ref b] below meth c H locs 38 8251 Q (F0 m pc ls ((as.map (mm_tv ad)).reverse ++ .ref (ad o) :: rest)) := by
  obtain ⟨hx, hb, hr, hml, hown, hts0, hXs, hbl, hlocks, hgv⟩ := C0
  have hts : ∀ w ∈ mm_GW, w.before #[Value.ref b] s = true := fun w hw => hts0 w (mm_gw_lw hw)
  obtain ⟨n, r, M1, hrun, v, hr1, hPv⟩ := hwc
  subst hr1
  have hM1 := (mm_sound l n).2 k (.inr o :: as) M (some v) M1 hk (by simpa using hlen) hrun D ad cI cC H.size
  have hrk := mm_rec_ok hk
  have hF : ∀ q, va_A (mm_world ad cI cC M) H.size q → s.heap.size ≤ q := by
    intro q h
    rcases h with ⟨i, e0, h⟩ | h
    · exact hD.2 i (q, e0) h
    · exact Nat.le_trans hS.1 h
  obtain ⟨rq, hrq1, hrq2⟩ : ∃ rq : vw_C, vwCl[ci]? = some rq ∧ rq.1 = (mm_y k).cls := by
    cases hv : vwCl[ci]? with
    | none => rw [hv] at hci; cases hci
    | some rq => rw [hv] at hci; exact ⟨rq, rfl, Option.some.inj hci⟩
  have hrec : ∃ cellB : Cell, H[ad o]? = some cellB ∧ cellB.vm.isStatics = false ∧ s.vm.findClass (mm_y k).cls = some cellB.cls := by
    rw [← hrq2]
    exact va_recv hK hP hrq1 (mm_get_w ho)
  refine va_calli (a := (Value.ref (ad o) :: as.map (mm_tv ad)).toArray) (va_runV (As := as.map (mm_tv ad)) (nL := 4) (own := R_law) (Ts := mm_GW) ⟨hx, hb, hml, hown, hts⟩ hM1
    (cwV (C := (mm_y k).cls) (mm_np k) hts (mm_ws_good hk [.methodLink R_law idx (mm_y k), .instanceMethod (mm_y k), .selects (mm_y k).cls (mm_y k) (mm_y k), .initialized (mm_y k).cls] ?_) rfl rfl rfl ⟨rfl, hrk.2.2.2.2⟩ ⟨hfr, hlo⟩)
    ⟨mm_blind, hrec, fun U hU hW => ⟨rfl, by rw [hU], by rw [hU]; exact hP, va_K.moved hW.alike hK, hD.weaken (fun _ _ _ _ => trivial), mm_X_go hX hW hU hS hF⟩⟩ rfl (by rw [List.length_map]; exact hnp) hls rfl (lv_room hrest) hd ⟨Nat.le_of_ble_eq_true rfl, Nat.le_of_ble_eq_true rfl⟩) hS (fun q _ h => hF q h) hF (fun r1 u t H1 locs1 ht hvm hw hB hz1 hk1 hS1 => ?_)
  · intro w hw
    simp only [List.mem_cons, List.not_mem_nil, or_false] at hw
    rcases hw with rfl | rfl | rfl | rfl
    · exact w1
    · exact w2
    · exact w3
    · exact hrk.2.2.1
  · obtain ⟨rfl, rfl⟩ := hw
    obtain ⟨hP1, -⟩ := hB
    rw [ht] at hP1
    exact kk _ _ H1 locs1 hPv hP1 (mm_D hD) hS1
end LWC
/-- all the pairs of the law -/
def lw_pairs (I : mm_M → Prop) : Prop := ∀ M : mm_M, I M → (∀ (a1 : Int32), lw_pair I M 62 111 [.inl a1]) ∧ (∀ (a1 : Int32) (a2 : Int32) (a3 : Int32) (a4 : Int32) (a5 : Int32), lw_pair I M 63 112 [.inl a1, .inl a2, .inl a3, .inl a4, .inl a5]) ∧ (∀ (a1 : Int32) (a2 : Int32), lw_pair I M 64 113 [.inl a1, .inl a2]) ∧ (∀ (a1 : Int32) (a2 : Int32) (a3 : Int32), lw_pair I M 65 114 [.inl a1, .inl a2, .inl a3]) ∧ (∀ (a1 : Int32) (a2 : Int32) (a3 : Int32), lw_pair I M 66 115 [.inl a1, .inl a2, .inl a3]) ∧ (∀ (a1 : Int32), lw_pair I M 67 116 [.inl a1]) ∧ (∀ (a1 : Int32) (a2 : Int32) (a3 : Int32) (a4 : Int32) (a5 : Int32), lw_pair I M 68 120 [.inl a1, .inl a2, .inl a3, .inl a4, .inl a5]) ∧ (∀ (a1 : Int32), lw_pair I M 69 121 [.inl a1]) ∧ (∀ (_ : Unit), lw_pair I M 70 163 []) ∧ (∀ (_ : Unit), lw_pair I M 71 122 []) ∧ (∀ (a1 : Int32), lw_pair I M 72 123 [.inl a1]) ∧ (∀ (a1 : Int32) (a2 : Int32), lw_pair I M 73 124 [.inl a1, .inl a2]) ∧ (∀ (a1 : Int32) (a2 : Int32), lw_pair I M 74 125 [.inl a1, .inl a2]) ∧ (∀ (a1 : Int32), lw_pair I M 75 132 [.inl a1]) ∧ (∀ (a1 : Int32), lw_pair I M 76 133 [.inl a1]) ∧ (∀ (a1 : Int32), lw_pair I M 77 134 [.inl a1]) ∧ (∀ (a1 : Int32), lw_pair I M 78 135 [.inl a1]) ∧ (∀ (a1 : Int32), lw_pair I M 79 136 [.inl a1]) ∧ (∀ (_ : Unit), lw_pair I M 80 137 []) ∧ (∀ (a1 : Int32) (a2 : Int32), lw_pair I M 81 138 [.inl a1, .inl a2]) ∧ (∀ (a1 : Int32) (a2 : Int32), lw_pair I M 82 143 [.inl a1, .inl a2]) ∧ (∀ (_ : Unit), lw_pair I M 83 144 []) ∧ (∀ (_ : Unit), lw_pair I M 84 146 []) ∧ (∀ (a1 : Int32) (a2 : Int32) (a3 : Int32) (a4 : Int32), lw_pair I M 85 148 [.inl a1, .inl a2, .inl a3, .inl a4]) ∧ (∀ (a1 : Int32), lw_pair I M 86 149 [.inl a1]) ∧ (∀ (_ : Unit), lw_pair I M 87 150 []) ∧ (∀ (_ : Unit), lw_pair I M 88 162 [])
theorem lw_ix {i k L : Nat} (h : i + 6 ≤ L) (hL : L ≤ 3072) (hk : k < 6) : vp_in (nI i + nI k) L := by
  rw [nI_add]
  exact vp_in_nI (by omega) (by omega)
set_option maxHeartbeats 4000000 in
set_option maxRecDepth 100000 in
theorem lw_case_0 {p : Program} {l : Launch} {e : Env} {s : State} {m : MethodId} {below : List Frame} {meth : Method} {c : Code} {b L : Nat} {xs : Nat → Int32} {D : va_G} {ad : Nat → Nat} {cI cC : ClassId} {I : mm_M → Prop} (hL : L ≤ 3072) (C0 : lw_At p s m meth c b L xs) (hK : va_K D vwCl (mm_tys cI cC) s) (hX : mm_X ad (fun q : Nat => s.heap.size ≤ q) s s.heap) {M : mm_M} {H : Heap} {locs : List Loc} {ls : Array Slot} {i : Nat} (hi : i + 6 ≤ L) (hp : ∀ (a1 : Int32), lw_pair I M 62 111 [.inl a1]) (hP : va_P D vwCl (mm_world ad cI cC M) H) (hD : va_D (fun q : Nat => s.heap.size ≤ q) (mm_world ad cI cC M)) (hS : va_S (fun q : Nat => s.heap.size ≤ q) s.heap H locs) (hl : lv_has ls 4 [(0, .ref b), (1, .ref (ad 0)), (2, .ref (ad 30)), (3, .int (nI i))])
    (kk : ∀ (M' : mm_M) (H' : Heap) (locs' : List Loc), I M' → va_P D vwCl (mm_world ad cI cC M') H' → va_D (fun q : Nat => s.heap.size ≤ q) (mm_world ad cI cC M') → va_S (fun q : Nat => s.heap.size ≤ q) s.heap H' locs' → W p l e room_1 s m #[Value.ref b] below meth c H' locs' 38 8251 (lw_Z below #[Value.ref b] s) (F0 m 907 ls [])) : W p l e room_1 s m #[Value.ref b] below meth c H locs 38 8251 (lw_Z below #[Value.ref b] s) (F0 m 156 ls []) := by
  obtain ⟨hx, hb, hr, hml, hown, hts0, hXs, hbl, hlocks, hgv⟩ := id C0
  have hbA : ¬ (fun q : Nat => s.heap.size ≤ q) b := Nat.not_le.mpr hbl
  refine lv_aload_n hx hb dL_law_156 rfl (lv_at hl 1 rfl) ?_
  refine lv_aload_n hx hb dL_law_157 rfl (lv_at hl 0 rfl) ?_
  refine lv_iload_n hx hb dL_law_158 rfl (lv_at hl 3 rfl) ?_
  refine lv_iconst (v := nI 1) hx hb dL_law_159 (by decide +kernel) ?_
  refine lv_iadd hx hb dL_law_160 ?_
  refine va_sld hx hb hXs hbl hbA hS (lw_ix hi hL (by decide : 1 < 6)) dL_law_161 ?_
  refine W.eq (g2 := F0 m 162 ls (([.inl (xs (nI i + nI 1).toNatClampNeg)].map (mm_tv ad)).reverse ++ .ref (ad 0) :: [])) rfl ?_
  refine lw_call (k := 62) (o := 0) (ci := 6) C0 hK hX (by decide +kernel) (by rw [kmX7_reset]; exact Nat.le_of_ble_eq_true rfl) (by rw [kpX7_reset]; rfl) (hp (xs (nI i + nI 1).toNatClampNeg)) rfl (by rw [kyX7_reset]; rfl) (kyX7_reset ▸ (mm_w_in (i := 241) (w := .methodLink R_law 13 yX7_reset) (by decide +kernel))) (kyX7_reset ▸ (mm_w_in (i := 242) (w := .instanceMethod yX7_reset) (by decide +kernel))) (kyX7_reset ▸ (mm_w_in (i := 243) (w := .selects RX7 yX7_reset yX7_reset) (by decide +kernel))) hP hD hS hl.1 (by rw [kfX7_reset]; decide) (by rw [kmX7_reset, klX7_reset]; decide) (Nat.le_of_ble_eq_true rfl) dL_law_162 ?_
  intro v1 M1 H1 locs1 hp1 hP hD hS
  refine lv_aload_n hx hb dL_law_165 rfl (lv_at hl 2 rfl) ?_
  refine lv_aload_n hx hb dL_law_166 rfl (lv_at hl 0 rfl) ?_
  refine lv_iload_n hx hb dL_law_167 rfl (lv_at hl 3 rfl) ?_
  refine lv_iconst (v := nI 1) hx hb dL_law_168 (by decide +kernel) ?_
  refine lv_iadd hx hb dL_law_169 ?_
  refine va_sld hx hb hXs hbl hbA hS (lw_ix hi hL (by decide : 1 < 6)) dL_law_170 ?_
  refine W.eq (g2 := F0 m 171 ls (([.inl (xs (nI i + nI 1).toNatClampNeg)].map (mm_tv ad)).reverse ++ .ref (ad 30) :: [.int v1])) rfl ?_
  refine lw_call (k := 111) (o := 30) (ci := 7) C0 hK hX (by decide +kernel) (by rw [kmX8_reset]; exact Nat.le_of_ble_eq_true rfl) (by rw [kpX8_reset]; rfl) (wc_mono (Q' := fun r M2 => ∃ v : Int32, r = some v ∧ (v = v1 ∧ I M2)) hp1 (fun r M2 h => ⟨v1, h.1, rfl, h.2⟩)) rfl (by rw [kyX8_reset]; rfl) (kyX8_reset ▸ (mm_w_in (i := 711) (w := .methodLink R_law 17 yX8_reset) (by decide +kernel))) (kyX8_reset ▸ (mm_w_in (i := 712) (w := .instanceMethod yX8_reset) (by decide +kernel))) (kyX8_reset ▸ (mm_w_in (i := 713) (w := .selects RX8 yX8_reset yX8_reset) (by decide +kernel))) hP hD hS hl.1 (by rw [kfX8_reset]; decide) (by rw [kmX8_reset, klX8_reset]; decide) (Nat.le_of_ble_eq_true rfl) dL_law_171 ?_
  intro v2 M2 H2 locs2 hp2 hP hD hS
  obtain ⟨he, hI⟩ := hp2
  refine lv_icmp_eq (tgt := 907) hx hb dL_law_174 (by decide) (fun _ => kk M2 H2 locs2 hI hP hD hS) (fun hne => absurd (show v1 = v2 from he.symm) hne)
set_option maxHeartbeats 4000000 in
set_option maxRecDepth 100000 in
theorem lw_case_1 {p : Program} {l : Launch} {e : Env} {s : State} {m : MethodId} {below : List Frame} {meth : Method} {c : Code} {b L : Nat} {xs : Nat → Int32} {D : va_G} {ad : Nat → Nat} {cI cC : ClassId} {I : mm_M → Prop} (hL : L ≤ 3072) (C0 : lw_At p s m meth c b L xs) (hK : va_K D vwCl (mm_tys cI cC) s) (hX : mm_X ad (fun q : Nat => s.heap.size ≤ q) s s.heap) {M : mm_M} {H : Heap} {locs : List Loc} {ls : Array Slot} {i : Nat} (hi : i + 6 ≤ L) (hp : ∀ (a1 : Int32) (a2 : Int32) (a3 : Int32) (a4 : Int32) (a5 : Int32), lw_pair I M 63 112 [.inl a1, .inl a2, .inl a3, .inl a4, .inl a5]) (hP : va_P D vwCl (mm_world ad cI cC M) H) (hD : va_D (fun q : Nat => s.heap.size ≤ q) (mm_world ad cI cC M)) (hS : va_S (fun q : Nat => s.heap.size ≤ q) s.heap H locs) (hl : lv_has ls 4 [(0, .ref b), (1, .ref (ad 0)), (2, .ref (ad 30)), (3, .int (nI i))])
    (kk : ∀ (M' : mm_M) (H' : Heap) (locs' : List Loc), I M' → va_P D vwCl (mm_world ad cI cC M') H' → va_D (fun q : Nat => s.heap.size ≤ q) (mm_world ad cI cC M') → va_S (fun q : Nat => s.heap.size ≤ q) s.heap H' locs' → W p l e room_1 s m #[Value.ref b] below meth c H' locs' 38 8251 (lw_Z below #[Value.ref b] s) (F0 m 907 ls [])) : W p l e room_1 s m #[Value.ref b] below meth c H locs 38 8251 (lw_Z below #[Value.ref b] s) (F0 m 179 ls []) := by
  obtain ⟨hx, hb, hr, hml, hown, hts0, hXs, hbl, hlocks, hgv⟩ := id C0
  have hbA : ¬ (fun q : Nat => s.heap.size ≤ q) b := Nat.not_le.mpr hbl
  refine lv_aload_n hx hb dL_law_179 rfl (lv_at hl 1 rfl) ?_
  refine lv_aload_n hx hb dL_law_180 rfl (lv_at hl 0 rfl) ?_
  refine lv_iload_n hx hb dL_law_181 rfl (lv_at hl 3 rfl) ?_
  refine lv_iconst (v := nI 1) hx hb dL_law_182 (by decide +kernel) ?_
  refine lv_iadd hx hb dL_law_183 ?_
  refine va_sld hx hb hXs hbl hbA hS (lw_ix hi hL (by decide : 1 < 6)) dL_law_184 ?_
  refine lv_aload_n hx hb dL_law_185 rfl (lv_at hl 0 rfl) ?_
  refine lv_iload_n hx hb dL_law_186 rfl (lv_at hl 3 rfl) ?_
  refine lv_iconst (v := nI 2) hx hb dL_law_187 (by decide +kernel) ?_
  refine lv_iadd hx hb dL_law_188 ?_
  refine va_sld hx hb hXs hbl hbA hS (lw_ix hi hL (by decide : 2 < 6)) dL_law_189 ?_
  refine lv_aload_n hx hb dL_law_190 rfl (lv_at hl 0 rfl) ?_
  refine lv_iload_n hx hb dL_law_191 rfl (lv_at hl 3 rfl) ?_
  refine lv_iconst (v := nI 3) hx hb dL_law_192 (by decide +kernel) ?_
  refine lv_iadd hx hb dL_law_193 ?_
  refine va_sld hx hb hXs hbl hbA hS (lw_ix hi hL (by decide : 3 < 6)) dL_law_194 ?_
  refine lv_aload_n hx hb dL_law_195 rfl (lv_at hl 0 rfl) ?_
  refine lv_iload_n hx hb dL_law_196 rfl (lv_at hl 3 rfl) ?_
  refine lv_iconst (v := nI 4) hx hb dL_law_197 (by decide +kernel) ?_
  refine lv_iadd hx hb dL_law_198 ?_
  refine va_sld hx hb hXs hbl hbA hS (lw_ix hi hL (by decide : 4 < 6)) dL_law_199 ?_
  refine lv_aload_n hx hb dL_law_200 rfl (lv_at hl 0 rfl) ?_
  refine lv_iload_n hx hb dL_law_201 rfl (lv_at hl 3 rfl) ?_
  refine lv_iconst (v := nI 5) hx hb dL_law_202 (by decide +kernel) ?_
  refine lv_iadd hx hb dL_law_203 ?_
  refine va_sld hx hb hXs hbl hbA hS (lw_ix hi hL (by decide : 5 < 6)) dL_law_204 ?_
  refine W.eq (g2 := F0 m 205 ls (([.inl (xs (nI i + nI 1).toNatClampNeg), .inl (xs (nI i + nI 2).toNatClampNeg), .inl (xs (nI i + nI 3).toNatClampNeg), .inl (xs (nI i + nI 4).toNatClampNeg), .inl (xs (nI i + nI 5).toNatClampNeg)].map (mm_tv ad)).reverse ++ .ref (ad 0) :: [])) rfl ?_
  refine lw_call (k := 63) (o := 0) (ci := 6) C0 hK hX (by decide +kernel) (by rw [kmX7_addMove]; exact Nat.le_of_ble_eq_true rfl) (by rw [kpX7_addMove]; rfl) (hp (xs (nI i + nI 1).toNatClampNeg) (xs (nI i + nI 2).toNatClampNeg) (xs (nI i + nI 3).toNatClampNeg) (xs (nI i + nI 4).toNatClampNeg) (xs (nI i + nI 5).toNatClampNeg)) rfl (by rw [kyX7_addMove]; rfl) (kyX7_addMove ▸ (mm_w_in (i := 259) (w := .methodLink R_law 18 yX7_addMove) (by decide +kernel))) (kyX7_addMove ▸ (mm_w_in (i := 260) (w := .instanceMethod yX7_addMove) (by decide +kernel))) (kyX7_addMove ▸ (mm_w_in (i := 261) (w := .selects RX7 yX7_addMove yX7_addMove) (by decide +kernel))) hP hD hS hl.1 (by rw [kfX7_addMove]; decide) (by rw [kmX7_addMove, klX7_addMove]; decide) (Nat.le_of_ble_eq_true rfl) dL_law_205 ?_
  intro v1 M1 H1 locs1 hp1 hP hD hS
  refine lv_aload_n hx hb dL_law_208 rfl (lv_at hl 2 rfl) ?_
  refine lv_aload_n hx hb dL_law_209 rfl (lv_at hl 0 rfl) ?_
  refine lv_iload_n hx hb dL_law_210 rfl (lv_at hl 3 rfl) ?_
  refine lv_iconst (v := nI 1) hx hb dL_law_211 (by decide +kernel) ?_
  refine lv_iadd hx hb dL_law_212 ?_
  refine va_sld hx hb hXs hbl hbA hS (lw_ix hi hL (by decide : 1 < 6)) dL_law_213 ?_
  refine lv_aload_n hx hb dL_law_214 rfl (lv_at hl 0 rfl) ?_
  refine lv_iload_n hx hb dL_law_215 rfl (lv_at hl 3 rfl) ?_
  refine lv_iconst (v := nI 2) hx hb dL_law_216 (by decide +kernel) ?_
  refine lv_iadd hx hb dL_law_217 ?_
  refine va_sld hx hb hXs hbl hbA hS (lw_ix hi hL (by decide : 2 < 6)) dL_law_218 ?_
  refine lv_aload_n hx hb dL_law_219 rfl (lv_at hl 0 rfl) ?_
  refine lv_iload_n hx hb dL_law_220 rfl (lv_at hl 3 rfl) ?_
  refine lv_iconst (v := nI 3) hx hb dL_law_221 (by decide +kernel) ?_
  refine lv_iadd hx hb dL_law_222 ?_
  refine va_sld hx hb hXs hbl hbA hS (lw_ix hi hL (by decide : 3 < 6)) dL_law_223 ?_
  refine lv_aload_n hx hb dL_law_224 rfl (lv_at hl 0 rfl) ?_
  refine lv_iload_n hx hb dL_law_225 rfl (lv_at hl 3 rfl) ?_
  refine lv_iconst (v := nI 4) hx hb dL_law_226 (by decide +kernel) ?_
  refine lv_iadd hx hb dL_law_227 ?_
  refine va_sld hx hb hXs hbl hbA hS (lw_ix hi hL (by decide : 4 < 6)) dL_law_228 ?_
  refine lv_aload_n hx hb dL_law_229 rfl (lv_at hl 0 rfl) ?_
  refine lv_iload_n hx hb dL_law_230 rfl (lv_at hl 3 rfl) ?_
  refine lv_iconst (v := nI 5) hx hb dL_law_231 (by decide +kernel) ?_
  refine lv_iadd hx hb dL_law_232 ?_
  refine va_sld hx hb hXs hbl hbA hS (lw_ix hi hL (by decide : 5 < 6)) dL_law_233 ?_
  refine W.eq (g2 := F0 m 234 ls (([.inl (xs (nI i + nI 1).toNatClampNeg), .inl (xs (nI i + nI 2).toNatClampNeg), .inl (xs (nI i + nI 3).toNatClampNeg), .inl (xs (nI i + nI 4).toNatClampNeg), .inl (xs (nI i + nI 5).toNatClampNeg)].map (mm_tv ad)).reverse ++ .ref (ad 30) :: [.int v1])) rfl ?_
  refine lw_call (k := 112) (o := 30) (ci := 7) C0 hK hX (by decide +kernel) (by rw [kmX8_addMove]; exact Nat.le_of_ble_eq_true rfl) (by rw [kpX8_addMove]; rfl) (wc_mono (Q' := fun r M2 => ∃ v : Int32, r = some v ∧ (v = v1 ∧ I M2)) hp1 (fun r M2 h => ⟨v1, h.1, rfl, h.2⟩)) rfl (by rw [kyX8_addMove]; rfl) (kyX8_addMove ▸ (mm_w_in (i := 722) (w := .methodLink R_law 22 yX8_addMove) (by decide +kernel))) (kyX8_addMove ▸ (mm_w_in (i := 723) (w := .instanceMethod yX8_addMove) (by decide +kernel))) (kyX8_addMove ▸ (mm_w_in (i := 724) (w := .selects RX8 yX8_addMove yX8_addMove) (by decide +kernel))) hP hD hS hl.1 (by rw [kfX8_addMove]; decide) (by rw [kmX8_addMove, klX8_addMove]; decide) (Nat.le_of_ble_eq_true rfl) dL_law_234 ?_
  intro v2 M2 H2 locs2 hp2 hP hD hS
  obtain ⟨he, hI⟩ := hp2
  refine lv_icmp_eq (tgt := 907) hx hb dL_law_237 (by decide) (fun _ => kk M2 H2 locs2 hI hP hD hS) (fun hne => absurd (show v1 = v2 from he.symm) hne)
set_option maxHeartbeats 4000000 in
set_option maxRecDepth 100000 in
theorem lw_case_2 {p : Program} {l : Launch} {e : Env} {s : State} {m : MethodId} {below : List Frame} {meth : Method} {c : Code} {b L : Nat} {xs : Nat → Int32} {D : va_G} {ad : Nat → Nat} {cI cC : ClassId} {I : mm_M → Prop} (hL : L ≤ 3072) (C0 : lw_At p s m meth c b L xs) (hK : va_K D vwCl (mm_tys cI cC) s) (hX : mm_X ad (fun q : Nat => s.heap.size ≤ q) s s.heap) {M : mm_M} {H : Heap} {locs : List Loc} {ls : Array Slot} {i : Nat} (hi : i + 6 ≤ L) (hp : ∀ (a1 : Int32) (a2 : Int32), lw_pair I M 64 113 [.inl a1, .inl a2]) (hP : va_P D vwCl (mm_world ad cI cC M) H) (hD : va_D (fun q : Nat => s.heap.size ≤ q) (mm_world ad cI cC M)) (hS : va_S (fun q : Nat => s.heap.size ≤ q) s.heap H locs) (hl : lv_has ls 4 [(0, .ref b), (1, .ref (ad 0)), (2, .ref (ad 30)), (3, .int (nI i))])
    (kk : ∀ (M' : mm_M) (H' : Heap) (locs' : List Loc), I M' → va_P D vwCl (mm_world ad cI cC M') H' → va_D (fun q : Nat => s.heap.size ≤ q) (mm_world ad cI cC M') → va_S (fun q : Nat => s.heap.size ≤ q) s.heap H' locs' → W p l e room_1 s m #[Value.ref b] below meth c H' locs' 38 8251 (lw_Z below #[Value.ref b] s) (F0 m 907 ls [])) : W p l e room_1 s m #[Value.ref b] below meth c H locs 38 8251 (lw_Z below #[Value.ref b] s) (F0 m 242 ls []) := by
  obtain ⟨hx, hb, hr, hml, hown, hts0, hXs, hbl, hlocks, hgv⟩ := id C0
  have hbA : ¬ (fun q : Nat => s.heap.size ≤ q) b := Nat.not_le.mpr hbl
  refine lv_aload_n hx hb dL_law_242 rfl (lv_at hl 1 rfl) ?_
  refine lv_aload_n hx hb dL_law_243 rfl (lv_at hl 0 rfl) ?_
  refine lv_iload_n hx hb dL_law_244 rfl (lv_at hl 3 rfl) ?_
  refine lv_iconst (v := nI 1) hx hb dL_law_245 (by decide +kernel) ?_
  refine lv_iadd hx hb dL_law_246 ?_
  refine va_sld hx hb hXs hbl hbA hS (lw_ix hi hL (by decide : 1 < 6)) dL_law_247 ?_
  refine lv_aload_n hx hb dL_law_248 rfl (lv_at hl 0 rfl) ?_
  refine lv_iload_n hx hb dL_law_249 rfl (lv_at hl 3 rfl) ?_
  refine lv_iconst (v := nI 2) hx hb dL_law_250 (by decide +kernel) ?_
  refine lv_iadd hx hb dL_law_251 ?_
  refine va_sld hx hb hXs hbl hbA hS (lw_ix hi hL (by decide : 2 < 6)) dL_law_252 ?_
  refine W.eq (g2 := F0 m 253 ls (([.inl (xs (nI i + nI 1).toNatClampNeg), .inl (xs (nI i + nI 2).toNatClampNeg)].map (mm_tv ad)).reverse ++ .ref (ad 0) :: [])) rfl ?_
  refine lw_call (k := 64) (o := 0) (ci := 6) C0 hK hX (by decide +kernel) (by rw [kmX7_addHold]; exact Nat.le_of_ble_eq_true rfl) (by rw [kpX7_addHold]; rfl) (hp (xs (nI i + nI 1).toNatClampNeg) (xs (nI i + nI 2).toNatClampNeg)) rfl (by rw [kyX7_addHold]; rfl) (kyX7_addHold ▸ (mm_w_in (i := 302) (w := .methodLink R_law 23 yX7_addHold) (by decide +kernel))) (kyX7_addHold ▸ (mm_w_in (i := 303) (w := .instanceMethod yX7_addHold) (by decide +kernel))) (kyX7_addHold ▸ (mm_w_in (i := 304) (w := .selects RX7 yX7_addHold yX7_addHold) (by decide +kernel))) hP hD hS hl.1 (by rw [kfX7_addHold]; decide) (by rw [kmX7_addHold, klX7_addHold]; decide) (Nat.le_of_ble_eq_true rfl) dL_law_253 ?_
  intro v1 M1 H1 locs1 hp1 hP hD hS
  refine lv_aload_n hx hb dL_law_256 rfl (lv_at hl 2 rfl) ?_
  refine lv_aload_n hx hb dL_law_257 rfl (lv_at hl 0 rfl) ?_
  refine lv_iload_n hx hb dL_law_258 rfl (lv_at hl 3 rfl) ?_
  refine lv_iconst (v := nI 1) hx hb dL_law_259 (by decide +kernel) ?_
  refine lv_iadd hx hb dL_law_260 ?_
  refine va_sld hx hb hXs hbl hbA hS (lw_ix hi hL (by decide : 1 < 6)) dL_law_261 ?_
  refine lv_aload_n hx hb dL_law_262 rfl (lv_at hl 0 rfl) ?_
  refine lv_iload_n hx hb dL_law_263 rfl (lv_at hl 3 rfl) ?_
  refine lv_iconst (v := nI 2) hx hb dL_law_264 (by decide +kernel) ?_
  refine lv_iadd hx hb dL_law_265 ?_
  refine va_sld hx hb hXs hbl hbA hS (lw_ix hi hL (by decide : 2 < 6)) dL_law_266 ?_
  refine W.eq (g2 := F0 m 267 ls (([.inl (xs (nI i + nI 1).toNatClampNeg), .inl (xs (nI i + nI 2).toNatClampNeg)].map (mm_tv ad)).reverse ++ .ref (ad 30) :: [.int v1])) rfl ?_
  refine lw_call (k := 113) (o := 30) (ci := 7) C0 hK hX (by decide +kernel) (by rw [kmX8_addHold]; exact Nat.le_of_ble_eq_true rfl) (by rw [kpX8_addHold]; rfl) (wc_mono (Q' := fun r M2 => ∃ v : Int32, r = some v ∧ (v = v1 ∧ I M2)) hp1 (fun r M2 h => ⟨v1, h.1, rfl, h.2⟩)) rfl (by rw [kyX8_addHold]; rfl) (kyX8_addHold ▸ (mm_w_in (i := 754) (w := .methodLink R_law 27 yX8_addHold) (by decide +kernel))) (kyX8_addHold ▸ (mm_w_in (i := 755) (w := .instanceMethod yX8_addHold) (by decide +kernel))) (kyX8_addHold ▸ (mm_w_in (i := 756) (w := .selects RX8 yX8_addHold yX8_addHold) (by decide +kernel))) hP hD hS hl.1 (by rw [kfX8_addHold]; decide) (by rw [kmX8_addHold, klX8_addHold]; decide) (Nat.le_of_ble_eq_true rfl) dL_law_267 ?_
  intro v2 M2 H2 locs2 hp2 hP hD hS
  obtain ⟨he, hI⟩ := hp2
  refine lv_icmp_eq (tgt := 907) hx hb dL_law_270 (by decide) (fun _ => kk M2 H2 locs2 hI hP hD hS) (fun hne => absurd (show v1 = v2 from he.symm) hne)
set_option maxHeartbeats 4000000 in
set_option maxRecDepth 100000 in
theorem lw_case_3 {p : Program} {l : Launch} {e : Env} {s : State} {m : MethodId} {below : List Frame} {meth : Method} {c : Code} {b L : Nat} {xs : Nat → Int32} {D : va_G} {ad : Nat → Nat} {cI cC : ClassId} {I : mm_M → Prop} (hL : L ≤ 3072) (C0 : lw_At p s m meth c b L xs) (hK : va_K D vwCl (mm_tys cI cC) s) (hX : mm_X ad (fun q : Nat => s.heap.size ≤ q) s s.heap) {M : mm_M} {H : Heap} {locs : List Loc} {ls : Array Slot} {i : Nat} (hi : i + 6 ≤ L) (hp : ∀ (a1 : Int32) (a2 : Int32) (a3 : Int32), lw_pair I M 65 114 [.inl a1, .inl a2, .inl a3]) (hP : va_P D vwCl (mm_world ad cI cC M) H) (hD : va_D (fun q : Nat => s.heap.size ≤ q) (mm_world ad cI cC M)) (hS : va_S (fun q : Nat => s.heap.size ≤ q) s.heap H locs) (hl : lv_has ls 4 [(0, .ref b), (1, .ref (ad 0)), (2, .ref (ad 30)), (3, .int (nI i))])
    (kk : ∀ (M' : mm_M) (H' : Heap) (locs' : List Loc), I M' → va_P D vwCl (mm_world ad cI cC M') H' → va_D (fun q : Nat => s.heap.size ≤ q) (mm_world ad cI cC M') → va_S (fun q : Nat => s.heap.size ≤ q) s.heap H' locs' → W p l e room_1 s m #[Value.ref b] below meth c H' locs' 38 8251 (lw_Z below #[Value.ref b] s) (F0 m 907 ls [])) : W p l e room_1 s m #[Value.ref b] below meth c H locs 38 8251 (lw_Z below #[Value.ref b] s) (F0 m 275 ls []) := by
  obtain ⟨hx, hb, hr, hml, hown, hts0, hXs, hbl, hlocks, hgv⟩ := id C0
  have hbA : ¬ (fun q : Nat => s.heap.size ≤ q) b := Nat.not_le.mpr hbl
  refine lv_aload_n hx hb dL_law_275 rfl (lv_at hl 1 rfl) ?_
  refine lv_aload_n hx hb dL_law_276 rfl (lv_at hl 0 rfl) ?_
  refine lv_iload_n hx hb dL_law_277 rfl (lv_at hl 3 rfl) ?_
  refine lv_iconst (v := nI 1) hx hb dL_law_278 (by decide +kernel) ?_
  refine lv_iadd hx hb dL_law_279 ?_
  refine va_sld hx hb hXs hbl hbA hS (lw_ix hi hL (by decide : 1 < 6)) dL_law_280 ?_
  refine lv_aload_n hx hb dL_law_281 rfl (lv_at hl 0 rfl) ?_
  refine lv_iload_n hx hb dL_law_282 rfl (lv_at hl 3 rfl) ?_
  refine lv_iconst (v := nI 2) hx hb dL_law_283 (by decide +kernel) ?_
  refine lv_iadd hx hb dL_law_284 ?_
  refine va_sld hx hb hXs hbl hbA hS (lw_ix hi hL (by decide : 2 < 6)) dL_law_285 ?_
  refine lv_aload_n hx hb dL_law_286 rfl (lv_at hl 0 rfl) ?_
  refine lv_iload_n hx hb dL_law_287 rfl (lv_at hl 3 rfl) ?_
  refine lv_iconst (v := nI 3) hx hb dL_law_288 (by decide +kernel) ?_
  refine lv_iadd hx hb dL_law_289 ?_
  refine va_sld hx hb hXs hbl hbA hS (lw_ix hi hL (by decide : 3 < 6)) dL_law_290 ?_
  refine W.eq (g2 := F0 m 291 ls (([.inl (xs (nI i + nI 1).toNatClampNeg), .inl (xs (nI i + nI 2).toNatClampNeg), .inl (xs (nI i + nI 3).toNatClampNeg)].map (mm_tv ad)).reverse ++ .ref (ad 0) :: [])) rfl ?_
  refine lw_call (k := 65) (o := 0) (ci := 6) C0 hK hX (by decide +kernel) (by rw [kmX7_addTurn]; exact Nat.le_of_ble_eq_true rfl) (by rw [kpX7_addTurn]; rfl) (hp (xs (nI i + nI 1).toNatClampNeg) (xs (nI i + nI 2).toNatClampNeg) (xs (nI i + nI 3).toNatClampNeg)) rfl (by rw [kyX7_addTurn]; rfl) (kyX7_addTurn ▸ (mm_w_in (i := 312) (w := .methodLink R_law 28 yX7_addTurn) (by decide +kernel))) (kyX7_addTurn ▸ (mm_w_in (i := 313) (w := .instanceMethod yX7_addTurn) (by decide +kernel))) (kyX7_addTurn ▸ (mm_w_in (i := 314) (w := .selects RX7 yX7_addTurn yX7_addTurn) (by decide +kernel))) hP hD hS hl.1 (by rw [kfX7_addTurn]; decide) (by rw [kmX7_addTurn, klX7_addTurn]; decide) (Nat.le_of_ble_eq_true rfl) dL_law_291 ?_
  intro v1 M1 H1 locs1 hp1 hP hD hS
  refine lv_aload_n hx hb dL_law_294 rfl (lv_at hl 2 rfl) ?_
  refine lv_aload_n hx hb dL_law_295 rfl (lv_at hl 0 rfl) ?_
  refine lv_iload_n hx hb dL_law_296 rfl (lv_at hl 3 rfl) ?_
  refine lv_iconst (v := nI 1) hx hb dL_law_297 (by decide +kernel) ?_
  refine lv_iadd hx hb dL_law_298 ?_
  refine va_sld hx hb hXs hbl hbA hS (lw_ix hi hL (by decide : 1 < 6)) dL_law_299 ?_
  refine lv_aload_n hx hb dL_law_300 rfl (lv_at hl 0 rfl) ?_
  refine lv_iload_n hx hb dL_law_301 rfl (lv_at hl 3 rfl) ?_
  refine lv_iconst (v := nI 2) hx hb dL_law_302 (by decide +kernel) ?_
  refine lv_iadd hx hb dL_law_303 ?_
  refine va_sld hx hb hXs hbl hbA hS (lw_ix hi hL (by decide : 2 < 6)) dL_law_304 ?_
  refine lv_aload_n hx hb dL_law_305 rfl (lv_at hl 0 rfl) ?_
  refine lv_iload_n hx hb dL_law_306 rfl (lv_at hl 3 rfl) ?_
  refine lv_iconst (v := nI 3) hx hb dL_law_307 (by decide +kernel) ?_
  refine lv_iadd hx hb dL_law_308 ?_
  refine va_sld hx hb hXs hbl hbA hS (lw_ix hi hL (by decide : 3 < 6)) dL_law_309 ?_
  refine W.eq (g2 := F0 m 310 ls (([.inl (xs (nI i + nI 1).toNatClampNeg), .inl (xs (nI i + nI 2).toNatClampNeg), .inl (xs (nI i + nI 3).toNatClampNeg)].map (mm_tv ad)).reverse ++ .ref (ad 30) :: [.int v1])) rfl ?_
  refine lw_call (k := 114) (o := 30) (ci := 7) C0 hK hX (by decide +kernel) (by rw [kmX8_addTurn]; exact Nat.le_of_ble_eq_true rfl) (by rw [kpX8_addTurn]; rfl) (wc_mono (Q' := fun r M2 => ∃ v : Int32, r = some v ∧ (v = v1 ∧ I M2)) hp1 (fun r M2 h => ⟨v1, h.1, rfl, h.2⟩)) rfl (by rw [kyX8_addTurn]; rfl) (kyX8_addTurn ▸ (mm_w_in (i := 761) (w := .methodLink R_law 32 yX8_addTurn) (by decide +kernel))) (kyX8_addTurn ▸ (mm_w_in (i := 762) (w := .instanceMethod yX8_addTurn) (by decide +kernel))) (kyX8_addTurn ▸ (mm_w_in (i := 763) (w := .selects RX8 yX8_addTurn yX8_addTurn) (by decide +kernel))) hP hD hS hl.1 (by rw [kfX8_addTurn]; decide) (by rw [kmX8_addTurn, klX8_addTurn]; decide) (Nat.le_of_ble_eq_true rfl) dL_law_310 ?_
  intro v2 M2 H2 locs2 hp2 hP hD hS
  obtain ⟨he, hI⟩ := hp2
  refine lv_icmp_eq (tgt := 907) hx hb dL_law_313 (by decide) (fun _ => kk M2 H2 locs2 hI hP hD hS) (fun hne => absurd (show v1 = v2 from he.symm) hne)
set_option maxHeartbeats 4000000 in
set_option maxRecDepth 100000 in
theorem lw_case_4 {p : Program} {l : Launch} {e : Env} {s : State} {m : MethodId} {below : List Frame} {meth : Method} {c : Code} {b L : Nat} {xs : Nat → Int32} {D : va_G} {ad : Nat → Nat} {cI cC : ClassId} {I : mm_M → Prop} (hL : L ≤ 3072) (C0 : lw_At p s m meth c b L xs) (hK : va_K D vwCl (mm_tys cI cC) s) (hX : mm_X ad (fun q : Nat => s.heap.size ≤ q) s s.heap) {M : mm_M} {H : Heap} {locs : List Loc} {ls : Array Slot} {i : Nat} (hi : i + 6 ≤ L) (hp : ∀ (a1 : Int32) (a2 : Int32) (a3 : Int32), lw_pair I M 66 115 [.inl a1, .inl a2, .inl a3]) (hP : va_P D vwCl (mm_world ad cI cC M) H) (hD : va_D (fun q : Nat => s.heap.size ≤ q) (mm_world ad cI cC M)) (hS : va_S (fun q : Nat => s.heap.size ≤ q) s.heap H locs) (hl : lv_has ls 4 [(0, .ref b), (1, .ref (ad 0)), (2, .ref (ad 30)), (3, .int (nI i))])
    (kk : ∀ (M' : mm_M) (H' : Heap) (locs' : List Loc), I M' → va_P D vwCl (mm_world ad cI cC M') H' → va_D (fun q : Nat => s.heap.size ≤ q) (mm_world ad cI cC M') → va_S (fun q : Nat => s.heap.size ≤ q) s.heap H' locs' → W p l e room_1 s m #[Value.ref b] below meth c H' locs' 38 8251 (lw_Z below #[Value.ref b] s) (F0 m 907 ls [])) : W p l e room_1 s m #[Value.ref b] below meth c H locs 38 8251 (lw_Z below #[Value.ref b] s) (F0 m 318 ls []) := by
  obtain ⟨hx, hb, hr, hml, hown, hts0, hXs, hbl, hlocks, hgv⟩ := id C0
  have hbA : ¬ (fun q : Nat => s.heap.size ≤ q) b := Nat.not_le.mpr hbl
  refine lv_aload_n hx hb dL_law_318 rfl (lv_at hl 1 rfl) ?_
  refine lv_aload_n hx hb dL_law_319 rfl (lv_at hl 0 rfl) ?_
  refine lv_iload_n hx hb dL_law_320 rfl (lv_at hl 3 rfl) ?_
  refine lv_iconst (v := nI 1) hx hb dL_law_321 (by decide +kernel) ?_
  refine lv_iadd hx hb dL_law_322 ?_
  refine va_sld hx hb hXs hbl hbA hS (lw_ix hi hL (by decide : 1 < 6)) dL_law_323 ?_
  refine lv_aload_n hx hb dL_law_324 rfl (lv_at hl 0 rfl) ?_
  refine lv_iload_n hx hb dL_law_325 rfl (lv_at hl 3 rfl) ?_
  refine lv_iconst (v := nI 2) hx hb dL_law_326 (by decide +kernel) ?_
  refine lv_iadd hx hb dL_law_327 ?_
  refine va_sld hx hb hXs hbl hbA hS (lw_ix hi hL (by decide : 2 < 6)) dL_law_328 ?_
  refine lv_aload_n hx hb dL_law_329 rfl (lv_at hl 0 rfl) ?_
  refine lv_iload_n hx hb dL_law_330 rfl (lv_at hl 3 rfl) ?_
  refine lv_iconst (v := nI 3) hx hb dL_law_331 (by decide +kernel) ?_
  refine lv_iadd hx hb dL_law_332 ?_
  refine va_sld hx hb hXs hbl hbA hS (lw_ix hi hL (by decide : 3 < 6)) dL_law_333 ?_
  refine W.eq (g2 := F0 m 334 ls (([.inl (xs (nI i + nI 1).toNatClampNeg), .inl (xs (nI i + nI 2).toNatClampNeg), .inl (xs (nI i + nI 3).toNatClampNeg)].map (mm_tv ad)).reverse ++ .ref (ad 0) :: [])) rfl ?_
  refine lw_call (k := 66) (o := 0) (ci := 6) C0 hK hX (by decide +kernel) (by rw [kmX7_addRelease]; exact Nat.le_of_ble_eq_true rfl) (by rw [kpX7_addRelease]; rfl) (hp (xs (nI i + nI 1).toNatClampNeg) (xs (nI i + nI 2).toNatClampNeg) (xs (nI i + nI 3).toNatClampNeg)) rfl (by rw [kyX7_addRelease]; rfl) (kyX7_addRelease ▸ (mm_w_in (i := 319) (w := .methodLink R_law 33 yX7_addRelease) (by decide +kernel))) (kyX7_addRelease ▸ (mm_w_in (i := 320) (w := .instanceMethod yX7_addRelease) (by decide +kernel))) (kyX7_addRelease ▸ (mm_w_in (i := 321) (w := .selects RX7 yX7_addRelease yX7_addRelease) (by decide +kernel))) hP hD hS hl.1 (by rw [kfX7_addRelease]; decide) (by rw [kmX7_addRelease, klX7_addRelease]; decide) (Nat.le_of_ble_eq_true rfl) dL_law_334 ?_
  intro v1 M1 H1 locs1 hp1 hP hD hS
  refine lv_aload_n hx hb dL_law_337 rfl (lv_at hl 2 rfl) ?_
  refine lv_aload_n hx hb dL_law_338 rfl (lv_at hl 0 rfl) ?_
  refine lv_iload_n hx hb dL_law_339 rfl (lv_at hl 3 rfl) ?_
  refine lv_iconst (v := nI 1) hx hb dL_law_340 (by decide +kernel) ?_
  refine lv_iadd hx hb dL_law_341 ?_
  refine va_sld hx hb hXs hbl hbA hS (lw_ix hi hL (by decide : 1 < 6)) dL_law_342 ?_
  refine lv_aload_n hx hb dL_law_343 rfl (lv_at hl 0 rfl) ?_
  refine lv_iload_n hx hb dL_law_344 rfl (lv_at hl 3 rfl) ?_
  refine lv_iconst (v := nI 2) hx hb dL_law_345 (by decide +kernel) ?_
  refine lv_iadd hx hb dL_law_346 ?_
  refine va_sld hx hb hXs hbl hbA hS (lw_ix hi hL (by decide : 2 < 6)) dL_law_347 ?_
  refine lv_aload_n hx hb dL_law_348 rfl (lv_at hl 0 rfl) ?_
  refine lv_iload_n hx hb dL_law_349 rfl (lv_at hl 3 rfl) ?_
  refine lv_iconst (v := nI 3) hx hb dL_law_350 (by decide +kernel) ?_
  refine lv_iadd hx hb dL_law_351 ?_
  refine va_sld hx hb hXs hbl hbA hS (lw_ix hi hL (by decide : 3 < 6)) dL_law_352 ?_
  refine W.eq (g2 := F0 m 353 ls (([.inl (xs (nI i + nI 1).toNatClampNeg), .inl (xs (nI i + nI 2).toNatClampNeg), .inl (xs (nI i + nI 3).toNatClampNeg)].map (mm_tv ad)).reverse ++ .ref (ad 30) :: [.int v1])) rfl ?_
  refine lw_call (k := 115) (o := 30) (ci := 7) C0 hK hX (by decide +kernel) (by rw [kmX8_addRelease]; exact Nat.le_of_ble_eq_true rfl) (by rw [kpX8_addRelease]; rfl) (wc_mono (Q' := fun r M2 => ∃ v : Int32, r = some v ∧ (v = v1 ∧ I M2)) hp1 (fun r M2 h => ⟨v1, h.1, rfl, h.2⟩)) rfl (by rw [kyX8_addRelease]; rfl) (kyX8_addRelease ▸ (mm_w_in (i := 765) (w := .methodLink R_law 36 yX8_addRelease) (by decide +kernel))) (kyX8_addRelease ▸ (mm_w_in (i := 766) (w := .instanceMethod yX8_addRelease) (by decide +kernel))) (kyX8_addRelease ▸ (mm_w_in (i := 767) (w := .selects RX8 yX8_addRelease yX8_addRelease) (by decide +kernel))) hP hD hS hl.1 (by rw [kfX8_addRelease]; decide) (by rw [kmX8_addRelease, klX8_addRelease]; decide) (Nat.le_of_ble_eq_true rfl) dL_law_353 ?_
  intro v2 M2 H2 locs2 hp2 hP hD hS
  obtain ⟨he, hI⟩ := hp2
  refine lv_icmp_eq (tgt := 907) hx hb dL_law_356 (by decide) (fun _ => kk M2 H2 locs2 hI hP hD hS) (fun hne => absurd (show v1 = v2 from he.symm) hne)
set_option maxHeartbeats 4000000 in
set_option maxRecDepth 100000 in
theorem lw_case_5 {p : Program} {l : Launch} {e : Env} {s : State} {m : MethodId} {below : List Frame} {meth : Method} {c : Code} {b L : Nat} {xs : Nat → Int32} {D : va_G} {ad : Nat → Nat} {cI cC : ClassId} {I : mm_M → Prop} (hL : L ≤ 3072) (C0 : lw_At p s m meth c b L xs) (hK : va_K D vwCl (mm_tys cI cC) s) (hX : mm_X ad (fun q : Nat => s.heap.size ≤ q) s s.heap) {M : mm_M} {H : Heap} {locs : List Loc} {ls : Array Slot} {i : Nat} (hi : i + 6 ≤ L) (hp : ∀ (a1 : Int32), lw_pair I M 67 116 [.inl a1]) (hP : va_P D vwCl (mm_world ad cI cC M) H) (hD : va_D (fun q : Nat => s.heap.size ≤ q) (mm_world ad cI cC M)) (hS : va_S (fun q : Nat => s.heap.size ≤ q) s.heap H locs) (hl : lv_has ls 4 [(0, .ref b), (1, .ref (ad 0)), (2, .ref (ad 30)), (3, .int (nI i))])
    (kk : ∀ (M' : mm_M) (H' : Heap) (locs' : List Loc), I M' → va_P D vwCl (mm_world ad cI cC M') H' → va_D (fun q : Nat => s.heap.size ≤ q) (mm_world ad cI cC M') → va_S (fun q : Nat => s.heap.size ≤ q) s.heap H' locs' → W p l e room_1 s m #[Value.ref b] below meth c H' locs' 38 8251 (lw_Z below #[Value.ref b] s) (F0 m 907 ls [])) : W p l e room_1 s m #[Value.ref b] below meth c H locs 38 8251 (lw_Z below #[Value.ref b] s) (F0 m 361 ls []) := by
  obtain ⟨hx, hb, hr, hml, hown, hts0, hXs, hbl, hlocks, hgv⟩ := id C0
  have hbA : ¬ (fun q : Nat => s.heap.size ≤ q) b := Nat.not_le.mpr hbl
  refine lv_aload_n hx hb dL_law_361 rfl (lv_at hl 1 rfl) ?_
  refine lv_aload_n hx hb dL_law_362 rfl (lv_at hl 0 rfl) ?_
  refine lv_iload_n hx hb dL_law_363 rfl (lv_at hl 3 rfl) ?_
  refine lv_iconst (v := nI 1) hx hb dL_law_364 (by decide +kernel) ?_
  refine lv_iadd hx hb dL_law_365 ?_
  refine va_sld hx hb hXs hbl hbA hS (lw_ix hi hL (by decide : 1 < 6)) dL_law_366 ?_
  refine W.eq (g2 := F0 m 367 ls (([.inl (xs (nI i + nI 1).toNatClampNeg)].map (mm_tv ad)).reverse ++ .ref (ad 0) :: [])) rfl ?_
  refine lw_call (k := 67) (o := 0) (ci := 6) C0 hK hX (by decide +kernel) (by rw [kmX7_removeSign]; exact Nat.le_of_ble_eq_true rfl) (by rw [kpX7_removeSign]; rfl) (hp (xs (nI i + nI 1).toNatClampNeg)) rfl (by rw [kyX7_removeSign]; rfl) (kyX7_removeSign ▸ (mm_w_in (i := 326) (w := .methodLink R_law 37 yX7_removeSign) (by decide +kernel))) (kyX7_removeSign ▸ (mm_w_in (i := 327) (w := .instanceMethod yX7_removeSign) (by decide +kernel))) (kyX7_removeSign ▸ (mm_w_in (i := 328) (w := .selects RX7 yX7_removeSign yX7_removeSign) (by decide +kernel))) hP hD hS hl.1 (by rw [kfX7_removeSign]; decide) (by rw [kmX7_removeSign, klX7_removeSign]; decide) (Nat.le_of_ble_eq_true rfl) dL_law_367 ?_
  intro v1 M1 H1 locs1 hp1 hP hD hS
  refine lv_aload_n hx hb dL_law_370 rfl (lv_at hl 2 rfl) ?_
  refine lv_aload_n hx hb dL_law_371 rfl (lv_at hl 0 rfl) ?_
  refine lv_iload_n hx hb dL_law_372 rfl (lv_at hl 3 rfl) ?_
  refine lv_iconst (v := nI 1) hx hb dL_law_373 (by decide +kernel) ?_
  refine lv_iadd hx hb dL_law_374 ?_
  refine va_sld hx hb hXs hbl hbA hS (lw_ix hi hL (by decide : 1 < 6)) dL_law_375 ?_
  refine W.eq (g2 := F0 m 376 ls (([.inl (xs (nI i + nI 1).toNatClampNeg)].map (mm_tv ad)).reverse ++ .ref (ad 30) :: [.int v1])) rfl ?_
  refine lw_call (k := 116) (o := 30) (ci := 7) C0 hK hX (by decide +kernel) (by rw [kmX8_removeSign]; exact Nat.le_of_ble_eq_true rfl) (by rw [kpX8_removeSign]; rfl) (wc_mono (Q' := fun r M2 => ∃ v : Int32, r = some v ∧ (v = v1 ∧ I M2)) hp1 (fun r M2 h => ⟨v1, h.1, rfl, h.2⟩)) rfl (by rw [kyX8_removeSign]; rfl) (kyX8_removeSign ▸ (mm_w_in (i := 769) (w := .methodLink R_law 40 yX8_removeSign) (by decide +kernel))) (kyX8_removeSign ▸ (mm_w_in (i := 770) (w := .instanceMethod yX8_removeSign) (by decide +kernel))) (kyX8_removeSign ▸ (mm_w_in (i := 771) (w := .selects RX8 yX8_removeSign yX8_removeSign) (by decide +kernel))) hP hD hS hl.1 (by rw [kfX8_removeSign]; decide) (by rw [kmX8_removeSign, klX8_removeSign]; decide) (Nat.le_of_ble_eq_true rfl) dL_law_376 ?_
  intro v2 M2 H2 locs2 hp2 hP hD hS
  obtain ⟨he, hI⟩ := hp2
  refine lv_icmp_eq (tgt := 907) hx hb dL_law_379 (by decide) (fun _ => kk M2 H2 locs2 hI hP hD hS) (fun hne => absurd (show v1 = v2 from he.symm) hne)
set_option maxHeartbeats 4000000 in
set_option maxRecDepth 100000 in
theorem lw_case_6 {p : Program} {l : Launch} {e : Env} {s : State} {m : MethodId} {below : List Frame} {meth : Method} {c : Code} {b L : Nat} {xs : Nat → Int32} {D : va_G} {ad : Nat → Nat} {cI cC : ClassId} {I : mm_M → Prop} (hL : L ≤ 3072) (C0 : lw_At p s m meth c b L xs) (hK : va_K D vwCl (mm_tys cI cC) s) (hX : mm_X ad (fun q : Nat => s.heap.size ≤ q) s s.heap) {M : mm_M} {H : Heap} {locs : List Loc} {ls : Array Slot} {i : Nat} (hi : i + 6 ≤ L) (hp : ∀ (a1 : Int32) (a2 : Int32) (a3 : Int32) (a4 : Int32) (a5 : Int32), lw_pair I M 68 120 [.inl a1, .inl a2, .inl a3, .inl a4, .inl a5]) (hP : va_P D vwCl (mm_world ad cI cC M) H) (hD : va_D (fun q : Nat => s.heap.size ≤ q) (mm_world ad cI cC M)) (hS : va_S (fun q : Nat => s.heap.size ≤ q) s.heap H locs) (hl : lv_has ls 4 [(0, .ref b), (1, .ref (ad 0)), (2, .ref (ad 30)), (3, .int (nI i))])
    (kk : ∀ (M' : mm_M) (H' : Heap) (locs' : List Loc), I M' → va_P D vwCl (mm_world ad cI cC M') H' → va_D (fun q : Nat => s.heap.size ≤ q) (mm_world ad cI cC M') → va_S (fun q : Nat => s.heap.size ≤ q) s.heap H' locs' → W p l e room_1 s m #[Value.ref b] below meth c H' locs' 38 8251 (lw_Z below #[Value.ref b] s) (F0 m 907 ls [])) : W p l e room_1 s m #[Value.ref b] below meth c H locs 38 8251 (lw_Z below #[Value.ref b] s) (F0 m 384 ls []) := by
  obtain ⟨hx, hb, hr, hml, hown, hts0, hXs, hbl, hlocks, hgv⟩ := id C0
  have hbA : ¬ (fun q : Nat => s.heap.size ≤ q) b := Nat.not_le.mpr hbl
  refine lv_aload_n hx hb dL_law_384 rfl (lv_at hl 1 rfl) ?_
  refine lv_aload_n hx hb dL_law_385 rfl (lv_at hl 0 rfl) ?_
  refine lv_iload_n hx hb dL_law_386 rfl (lv_at hl 3 rfl) ?_
  refine lv_iconst (v := nI 1) hx hb dL_law_387 (by decide +kernel) ?_
  refine lv_iadd hx hb dL_law_388 ?_
  refine va_sld hx hb hXs hbl hbA hS (lw_ix hi hL (by decide : 1 < 6)) dL_law_389 ?_
  refine lv_aload_n hx hb dL_law_390 rfl (lv_at hl 0 rfl) ?_
  refine lv_iload_n hx hb dL_law_391 rfl (lv_at hl 3 rfl) ?_
  refine lv_iconst (v := nI 2) hx hb dL_law_392 (by decide +kernel) ?_
  refine lv_iadd hx hb dL_law_393 ?_
  refine va_sld hx hb hXs hbl hbA hS (lw_ix hi hL (by decide : 2 < 6)) dL_law_394 ?_
  refine lv_aload_n hx hb dL_law_395 rfl (lv_at hl 0 rfl) ?_
  refine lv_iload_n hx hb dL_law_396 rfl (lv_at hl 3 rfl) ?_
  refine lv_iconst (v := nI 3) hx hb dL_law_397 (by decide +kernel) ?_
  refine lv_iadd hx hb dL_law_398 ?_
  refine va_sld hx hb hXs hbl hbA hS (lw_ix hi hL (by decide : 3 < 6)) dL_law_399 ?_
  refine lv_aload_n hx hb dL_law_400 rfl (lv_at hl 0 rfl) ?_
  refine lv_iload_n hx hb dL_law_401 rfl (lv_at hl 3 rfl) ?_
  refine lv_iconst (v := nI 4) hx hb dL_law_402 (by decide +kernel) ?_
  refine lv_iadd hx hb dL_law_403 ?_
  refine va_sld hx hb hXs hbl hbA hS (lw_ix hi hL (by decide : 4 < 6)) dL_law_404 ?_
  refine lv_aload_n hx hb dL_law_405 rfl (lv_at hl 0 rfl) ?_
  refine lv_iload_n hx hb dL_law_406 rfl (lv_at hl 3 rfl) ?_
  refine lv_iconst (v := nI 5) hx hb dL_law_407 (by decide +kernel) ?_
  refine lv_iadd hx hb dL_law_408 ?_
  refine va_sld hx hb hXs hbl hbA hS (lw_ix hi hL (by decide : 5 < 6)) dL_law_409 ?_
  refine W.eq (g2 := F0 m 410 ls (([.inl (xs (nI i + nI 1).toNatClampNeg), .inl (xs (nI i + nI 2).toNatClampNeg), .inl (xs (nI i + nI 3).toNatClampNeg), .inl (xs (nI i + nI 4).toNatClampNeg), .inl (xs (nI i + nI 5).toNatClampNeg)].map (mm_tv ad)).reverse ++ .ref (ad 0) :: [])) rfl ?_
  refine lw_call (k := 68) (o := 0) (ci := 6) C0 hK hX (by decide +kernel) (by rw [kmX7_copyPhrase]; exact Nat.le_of_ble_eq_true rfl) (by rw [kpX7_copyPhrase]; rfl) (hp (xs (nI i + nI 1).toNatClampNeg) (xs (nI i + nI 2).toNatClampNeg) (xs (nI i + nI 3).toNatClampNeg) (xs (nI i + nI 4).toNatClampNeg) (xs (nI i + nI 5).toNatClampNeg)) rfl (by rw [kyX7_copyPhrase]; rfl) (kyX7_copyPhrase ▸ (mm_w_in (i := 334) (w := .methodLink R_law 41 yX7_copyPhrase) (by decide +kernel))) (kyX7_copyPhrase ▸ (mm_w_in (i := 335) (w := .instanceMethod yX7_copyPhrase) (by decide +kernel))) (kyX7_copyPhrase ▸ (mm_w_in (i := 336) (w := .selects RX7 yX7_copyPhrase yX7_copyPhrase) (by decide +kernel))) hP hD hS hl.1 (by rw [kfX7_copyPhrase]; decide) (by rw [kmX7_copyPhrase, klX7_copyPhrase]; decide) (Nat.le_of_ble_eq_true rfl) dL_law_410 ?_
  intro v1 M1 H1 locs1 hp1 hP hD hS
  refine lv_aload_n hx hb dL_law_413 rfl (lv_at hl 2 rfl) ?_
  refine lv_aload_n hx hb dL_law_414 rfl (lv_at hl 0 rfl) ?_
  refine lv_iload_n hx hb dL_law_415 rfl (lv_at hl 3 rfl) ?_
  refine lv_iconst (v := nI 1) hx hb dL_law_416 (by decide +kernel) ?_
  refine lv_iadd hx hb dL_law_417 ?_
  refine va_sld hx hb hXs hbl hbA hS (lw_ix hi hL (by decide : 1 < 6)) dL_law_418 ?_
  refine lv_aload_n hx hb dL_law_419 rfl (lv_at hl 0 rfl) ?_
  refine lv_iload_n hx hb dL_law_420 rfl (lv_at hl 3 rfl) ?_
  refine lv_iconst (v := nI 2) hx hb dL_law_421 (by decide +kernel) ?_
  refine lv_iadd hx hb dL_law_422 ?_
  refine va_sld hx hb hXs hbl hbA hS (lw_ix hi hL (by decide : 2 < 6)) dL_law_423 ?_
  refine lv_aload_n hx hb dL_law_424 rfl (lv_at hl 0 rfl) ?_
  refine lv_iload_n hx hb dL_law_425 rfl (lv_at hl 3 rfl) ?_
  refine lv_iconst (v := nI 3) hx hb dL_law_426 (by decide +kernel) ?_
  refine lv_iadd hx hb dL_law_427 ?_
  refine va_sld hx hb hXs hbl hbA hS (lw_ix hi hL (by decide : 3 < 6)) dL_law_428 ?_
  refine lv_aload_n hx hb dL_law_429 rfl (lv_at hl 0 rfl) ?_
  refine lv_iload_n hx hb dL_law_430 rfl (lv_at hl 3 rfl) ?_
  refine lv_iconst (v := nI 4) hx hb dL_law_431 (by decide +kernel) ?_
  refine lv_iadd hx hb dL_law_432 ?_
  refine va_sld hx hb hXs hbl hbA hS (lw_ix hi hL (by decide : 4 < 6)) dL_law_433 ?_
  refine lv_aload_n hx hb dL_law_434 rfl (lv_at hl 0 rfl) ?_
  refine lv_iload_n hx hb dL_law_435 rfl (lv_at hl 3 rfl) ?_
  refine lv_iconst (v := nI 5) hx hb dL_law_436 (by decide +kernel) ?_
  refine lv_iadd hx hb dL_law_437 ?_
  refine va_sld hx hb hXs hbl hbA hS (lw_ix hi hL (by decide : 5 < 6)) dL_law_438 ?_
  refine W.eq (g2 := F0 m 439 ls (([.inl (xs (nI i + nI 1).toNatClampNeg), .inl (xs (nI i + nI 2).toNatClampNeg), .inl (xs (nI i + nI 3).toNatClampNeg), .inl (xs (nI i + nI 4).toNatClampNeg), .inl (xs (nI i + nI 5).toNatClampNeg)].map (mm_tv ad)).reverse ++ .ref (ad 30) :: [.int v1])) rfl ?_
  refine lw_call (k := 120) (o := 30) (ci := 7) C0 hK hX (by decide +kernel) (by rw [kmX8_copyPhrase]; exact Nat.le_of_ble_eq_true rfl) (by rw [kpX8_copyPhrase]; rfl) (wc_mono (Q' := fun r M2 => ∃ v : Int32, r = some v ∧ (v = v1 ∧ I M2)) hp1 (fun r M2 h => ⟨v1, h.1, rfl, h.2⟩)) rfl (by rw [kyX8_copyPhrase]; rfl) (kyX8_copyPhrase ▸ (mm_w_in (i := 777) (w := .methodLink R_law 44 yX8_copyPhrase) (by decide +kernel))) (kyX8_copyPhrase ▸ (mm_w_in (i := 778) (w := .instanceMethod yX8_copyPhrase) (by decide +kernel))) (kyX8_copyPhrase ▸ (mm_w_in (i := 779) (w := .selects RX8 yX8_copyPhrase yX8_copyPhrase) (by decide +kernel))) hP hD hS hl.1 (by rw [kfX8_copyPhrase]; decide) (by rw [kmX8_copyPhrase, klX8_copyPhrase]; decide) (Nat.le_of_ble_eq_true rfl) dL_law_439 ?_
  intro v2 M2 H2 locs2 hp2 hP hD hS
  obtain ⟨he, hI⟩ := hp2
  refine lv_icmp_eq (tgt := 907) hx hb dL_law_442 (by decide) (fun _ => kk M2 H2 locs2 hI hP hD hS) (fun hne => absurd (show v1 = v2 from he.symm) hne)
set_option maxHeartbeats 4000000 in
set_option maxRecDepth 100000 in
theorem lw_case_7 {p : Program} {l : Launch} {e : Env} {s : State} {m : MethodId} {below : List Frame} {meth : Method} {c : Code} {b L : Nat} {xs : Nat → Int32} {D : va_G} {ad : Nat → Nat} {cI cC : ClassId} {I : mm_M → Prop} (hL : L ≤ 3072) (C0 : lw_At p s m meth c b L xs) (hK : va_K D vwCl (mm_tys cI cC) s) (hX : mm_X ad (fun q : Nat => s.heap.size ≤ q) s s.heap) {M : mm_M} {H : Heap} {locs : List Loc} {ls : Array Slot} {i : Nat} (hi : i + 6 ≤ L) (hp : ∀ (a1 : Int32), lw_pair I M 69 121 [.inl a1]) (hP : va_P D vwCl (mm_world ad cI cC M) H) (hD : va_D (fun q : Nat => s.heap.size ≤ q) (mm_world ad cI cC M)) (hS : va_S (fun q : Nat => s.heap.size ≤ q) s.heap H locs) (hl : lv_has ls 4 [(0, .ref b), (1, .ref (ad 0)), (2, .ref (ad 30)), (3, .int (nI i))])
    (kk : ∀ (M' : mm_M) (H' : Heap) (locs' : List Loc), I M' → va_P D vwCl (mm_world ad cI cC M') H' → va_D (fun q : Nat => s.heap.size ≤ q) (mm_world ad cI cC M') → va_S (fun q : Nat => s.heap.size ≤ q) s.heap H' locs' → W p l e room_1 s m #[Value.ref b] below meth c H' locs' 38 8251 (lw_Z below #[Value.ref b] s) (F0 m 907 ls [])) : W p l e room_1 s m #[Value.ref b] below meth c H locs 38 8251 (lw_Z below #[Value.ref b] s) (F0 m 447 ls []) := by
  obtain ⟨hx, hb, hr, hml, hown, hts0, hXs, hbl, hlocks, hgv⟩ := id C0
  have hbA : ¬ (fun q : Nat => s.heap.size ≤ q) b := Nat.not_le.mpr hbl
  refine lv_aload_n hx hb dL_law_447 rfl (lv_at hl 1 rfl) ?_
  refine lv_aload_n hx hb dL_law_448 rfl (lv_at hl 0 rfl) ?_
  refine lv_iload_n hx hb dL_law_449 rfl (lv_at hl 3 rfl) ?_
  refine lv_iconst (v := nI 1) hx hb dL_law_450 (by decide +kernel) ?_
  refine lv_iadd hx hb dL_law_451 ?_
  refine va_sld hx hb hXs hbl hbA hS (lw_ix hi hL (by decide : 1 < 6)) dL_law_452 ?_
  refine W.eq (g2 := F0 m 453 ls (([.inl (xs (nI i + nI 1).toNatClampNeg)].map (mm_tv ad)).reverse ++ .ref (ad 0) :: [])) rfl ?_
  refine lw_call (k := 69) (o := 0) (ci := 6) C0 hK hX (by decide +kernel) (by rw [kmX7_setLeap]; exact Nat.le_of_ble_eq_true rfl) (by rw [kpX7_setLeap]; rfl) (hp (xs (nI i + nI 1).toNatClampNeg)) rfl (by rw [kyX7_setLeap]; rfl) (kyX7_setLeap ▸ (mm_w_in (i := 398) (w := .methodLink R_law 45 yX7_setLeap) (by decide +kernel))) (kyX7_setLeap ▸ (mm_w_in (i := 399) (w := .instanceMethod yX7_setLeap) (by decide +kernel))) (kyX7_setLeap ▸ (mm_w_in (i := 400) (w := .selects RX7 yX7_setLeap yX7_setLeap) (by decide +kernel))) hP hD hS hl.1 (by rw [kfX7_setLeap]; decide) (by rw [kmX7_setLeap, klX7_setLeap]; decide) (Nat.le_of_ble_eq_true rfl) dL_law_453 ?_
  intro v1 M1 H1 locs1 hp1 hP hD hS
  refine lv_aload_n hx hb dL_law_456 rfl (lv_at hl 2 rfl) ?_
  refine lv_aload_n hx hb dL_law_457 rfl (lv_at hl 0 rfl) ?_
  refine lv_iload_n hx hb dL_law_458 rfl (lv_at hl 3 rfl) ?_
  refine lv_iconst (v := nI 1) hx hb dL_law_459 (by decide +kernel) ?_
  refine lv_iadd hx hb dL_law_460 ?_
  refine va_sld hx hb hXs hbl hbA hS (lw_ix hi hL (by decide : 1 < 6)) dL_law_461 ?_
  refine W.eq (g2 := F0 m 462 ls (([.inl (xs (nI i + nI 1).toNatClampNeg)].map (mm_tv ad)).reverse ++ .ref (ad 30) :: [.int v1])) rfl ?_
  refine lw_call (k := 121) (o := 30) (ci := 7) C0 hK hX (by decide +kernel) (by rw [kmX8_setLeap]; exact Nat.le_of_ble_eq_true rfl) (by rw [kpX8_setLeap]; rfl) (wc_mono (Q' := fun r M2 => ∃ v : Int32, r = some v ∧ (v = v1 ∧ I M2)) hp1 (fun r M2 h => ⟨v1, h.1, rfl, h.2⟩)) rfl (by rw [kyX8_setLeap]; rfl) (kyX8_setLeap ▸ (mm_w_in (i := 795) (w := .methodLink R_law 48 yX8_setLeap) (by decide +kernel))) (kyX8_setLeap ▸ (mm_w_in (i := 796) (w := .instanceMethod yX8_setLeap) (by decide +kernel))) (kyX8_setLeap ▸ (mm_w_in (i := 797) (w := .selects RX8 yX8_setLeap yX8_setLeap) (by decide +kernel))) hP hD hS hl.1 (by rw [kfX8_setLeap]; decide) (by rw [kmX8_setLeap, klX8_setLeap]; decide) (Nat.le_of_ble_eq_true rfl) dL_law_462 ?_
  intro v2 M2 H2 locs2 hp2 hP hD hS
  obtain ⟨he, hI⟩ := hp2
  refine lv_icmp_eq (tgt := 907) hx hb dL_law_465 (by decide) (fun _ => kk M2 H2 locs2 hI hP hD hS) (fun hne => absurd (show v1 = v2 from he.symm) hne)
set_option maxHeartbeats 4000000 in
set_option maxRecDepth 100000 in
theorem lw_case_8 {p : Program} {l : Launch} {e : Env} {s : State} {m : MethodId} {below : List Frame} {meth : Method} {c : Code} {b L : Nat} {xs : Nat → Int32} {D : va_G} {ad : Nat → Nat} {cI cC : ClassId} {I : mm_M → Prop} (hL : L ≤ 3072) (C0 : lw_At p s m meth c b L xs) (hK : va_K D vwCl (mm_tys cI cC) s) (hX : mm_X ad (fun q : Nat => s.heap.size ≤ q) s s.heap) {M : mm_M} {H : Heap} {locs : List Loc} {ls : Array Slot} {i : Nat} (hi : i + 6 ≤ L) (hp : lw_pair I M 70 163 []) (hP : va_P D vwCl (mm_world ad cI cC M) H) (hD : va_D (fun q : Nat => s.heap.size ≤ q) (mm_world ad cI cC M)) (hS : va_S (fun q : Nat => s.heap.size ≤ q) s.heap H locs) (hl : lv_has ls 4 [(0, .ref b), (1, .ref (ad 0)), (2, .ref (ad 30)), (3, .int (nI i))])
    (kk : ∀ (M' : mm_M) (H' : Heap) (locs' : List Loc), I M' → va_P D vwCl (mm_world ad cI cC M') H' → va_D (fun q : Nat => s.heap.size ≤ q) (mm_world ad cI cC M') → va_S (fun q : Nat => s.heap.size ≤ q) s.heap H' locs' → W p l e room_1 s m #[Value.ref b] below meth c H' locs' 38 8251 (lw_Z below #[Value.ref b] s) (F0 m 907 ls [])) : W p l e room_1 s m #[Value.ref b] below meth c H locs 38 8251 (lw_Z below #[Value.ref b] s) (F0 m 470 ls []) := by
  obtain ⟨hx, hb, hr, hml, hown, hts0, hXs, hbl, hlocks, hgv⟩ := id C0
  have hbA : ¬ (fun q : Nat => s.heap.size ≤ q) b := Nat.not_le.mpr hbl
  refine lv_aload_n hx hb dL_law_470 rfl (lv_at hl 1 rfl) ?_
  refine W.eq (g2 := F0 m 471 ls (([].map (mm_tv ad)).reverse ++ .ref (ad 0) :: [])) rfl ?_
  refine lw_call (k := 70) (o := 0) (ci := 6) C0 hK hX (by decide +kernel) (by rw [kmX7_lay]; exact Nat.le_of_ble_eq_true rfl) (by rw [kpX7_lay]; rfl) hp rfl (by rw [kyX7_lay]; rfl) (kyX7_lay ▸ (mm_w_in (i := 402) (w := .methodLink R_law 49 yX7_lay) (by decide +kernel))) (kyX7_lay ▸ (mm_w_in (i := 403) (w := .instanceMethod yX7_lay) (by decide +kernel))) (kyX7_lay ▸ (mm_w_in (i := 404) (w := .selects RX7 yX7_lay yX7_lay) (by decide +kernel))) hP hD hS hl.1 (by rw [kfX7_lay]; decide) (by rw [kmX7_lay, klX7_lay]; decide) (Nat.le_of_ble_eq_true rfl) dL_law_471 ?_
  intro v1 M1 H1 locs1 hp1 hP hD hS
  refine lv_aload_n hx hb dL_law_474 rfl (lv_at hl 2 rfl) ?_
  refine W.eq (g2 := F0 m 475 ls (([].map (mm_tv ad)).reverse ++ .ref (ad 30) :: [.int v1])) rfl ?_
  refine lw_call (k := 163) (o := 30) (ci := 7) C0 hK hX (by decide +kernel) (by rw [kmX8_lay]; exact Nat.le_of_ble_eq_true rfl) (by rw [kpX8_lay]; rfl) (wc_mono (Q' := fun r M2 => ∃ v : Int32, r = some v ∧ (v = v1 ∧ I M2)) hp1 (fun r M2 h => ⟨v1, h.1, rfl, h.2⟩)) rfl (by rw [kyX8_lay]; rfl) (kyX8_lay ▸ (mm_w_in (i := 962) (w := .methodLink R_law 53 yX8_lay) (by decide +kernel))) (kyX8_lay ▸ (mm_w_in (i := 963) (w := .instanceMethod yX8_lay) (by decide +kernel))) (kyX8_lay ▸ (mm_w_in (i := 964) (w := .selects RX8 yX8_lay yX8_lay) (by decide +kernel))) hP hD hS hl.1 (by rw [kfX8_lay]; decide) (by rw [kmX8_lay, klX8_lay]; decide) (Nat.le_of_ble_eq_true rfl) dL_law_475 ?_
  intro v2 M2 H2 locs2 hp2 hP hD hS
  obtain ⟨he, hI⟩ := hp2
  refine lv_icmp_eq (tgt := 907) hx hb dL_law_478 (by decide) (fun _ => kk M2 H2 locs2 hI hP hD hS) (fun hne => absurd (show v1 = v2 from he.symm) hne)
set_option maxHeartbeats 4000000 in
set_option maxRecDepth 100000 in
theorem lw_case_9 {p : Program} {l : Launch} {e : Env} {s : State} {m : MethodId} {below : List Frame} {meth : Method} {c : Code} {b L : Nat} {xs : Nat → Int32} {D : va_G} {ad : Nat → Nat} {cI cC : ClassId} {I : mm_M → Prop} (hL : L ≤ 3072) (C0 : lw_At p s m meth c b L xs) (hK : va_K D vwCl (mm_tys cI cC) s) (hX : mm_X ad (fun q : Nat => s.heap.size ≤ q) s s.heap) {M : mm_M} {H : Heap} {locs : List Loc} {ls : Array Slot} {i : Nat} (hi : i + 6 ≤ L) (hp : lw_pair I M 71 122 []) (hP : va_P D vwCl (mm_world ad cI cC M) H) (hD : va_D (fun q : Nat => s.heap.size ≤ q) (mm_world ad cI cC M)) (hS : va_S (fun q : Nat => s.heap.size ≤ q) s.heap H locs) (hl : lv_has ls 4 [(0, .ref b), (1, .ref (ad 0)), (2, .ref (ad 30)), (3, .int (nI i))])
    (kk : ∀ (M' : mm_M) (H' : Heap) (locs' : List Loc), I M' → va_P D vwCl (mm_world ad cI cC M') H' → va_D (fun q : Nat => s.heap.size ≤ q) (mm_world ad cI cC M') → va_S (fun q : Nat => s.heap.size ≤ q) s.heap H' locs' → W p l e room_1 s m #[Value.ref b] below meth c H' locs' 38 8251 (lw_Z below #[Value.ref b] s) (F0 m 907 ls [])) : W p l e room_1 s m #[Value.ref b] below meth c H locs 38 8251 (lw_Z below #[Value.ref b] s) (F0 m 483 ls []) := by
  obtain ⟨hx, hb, hr, hml, hown, hts0, hXs, hbl, hlocks, hgv⟩ := id C0
  have hbA : ¬ (fun q : Nat => s.heap.size ≤ q) b := Nat.not_le.mpr hbl
  refine lv_aload_n hx hb dL_law_483 rfl (lv_at hl 1 rfl) ?_
  refine W.eq (g2 := F0 m 484 ls (([].map (mm_tv ad)).reverse ++ .ref (ad 0) :: [])) rfl ?_
  refine lw_call (k := 71) (o := 0) (ci := 6) C0 hK hX (by decide +kernel) (by rw [kmX7_undo]; exact Nat.le_of_ble_eq_true rfl) (by rw [kpX7_undo]; rfl) hp rfl (by rw [kyX7_undo]; rfl) (kyX7_undo ▸ (mm_w_in (i := 463) (w := .methodLink R_law 54 yX7_undo) (by decide +kernel))) (kyX7_undo ▸ (mm_w_in (i := 464) (w := .instanceMethod yX7_undo) (by decide +kernel))) (kyX7_undo ▸ (mm_w_in (i := 465) (w := .selects RX7 yX7_undo yX7_undo) (by decide +kernel))) hP hD hS hl.1 (by rw [kfX7_undo]; decide) (by rw [kmX7_undo, klX7_undo]; decide) (Nat.le_of_ble_eq_true rfl) dL_law_484 ?_
  intro v1 M1 H1 locs1 hp1 hP hD hS
  refine lv_aload_n hx hb dL_law_487 rfl (lv_at hl 2 rfl) ?_
  refine W.eq (g2 := F0 m 488 ls (([].map (mm_tv ad)).reverse ++ .ref (ad 30) :: [.int v1])) rfl ?_
  refine lw_call (k := 122) (o := 30) (ci := 7) C0 hK hX (by decide +kernel) (by rw [kmX8_undo]; exact Nat.le_of_ble_eq_true rfl) (by rw [kpX8_undo]; rfl) (wc_mono (Q' := fun r M2 => ∃ v : Int32, r = some v ∧ (v = v1 ∧ I M2)) hp1 (fun r M2 h => ⟨v1, h.1, rfl, h.2⟩)) rfl (by rw [kyX8_undo]; rfl) (kyX8_undo ▸ (mm_w_in (i := 799) (w := .methodLink R_law 57 yX8_undo) (by decide +kernel))) (kyX8_undo ▸ (mm_w_in (i := 800) (w := .instanceMethod yX8_undo) (by decide +kernel))) (kyX8_undo ▸ (mm_w_in (i := 801) (w := .selects RX8 yX8_undo yX8_undo) (by decide +kernel))) hP hD hS hl.1 (by rw [kfX8_undo]; decide) (by rw [kmX8_undo, klX8_undo]; decide) (Nat.le_of_ble_eq_true rfl) dL_law_488 ?_
  intro v2 M2 H2 locs2 hp2 hP hD hS
  obtain ⟨he, hI⟩ := hp2
  refine lv_icmp_eq (tgt := 907) hx hb dL_law_491 (by decide) (fun _ => kk M2 H2 locs2 hI hP hD hS) (fun hne => absurd (show v1 = v2 from he.symm) hne)
set_option maxHeartbeats 4000000 in
set_option maxRecDepth 100000 in
theorem lw_case_10 {p : Program} {l : Launch} {e : Env} {s : State} {m : MethodId} {below : List Frame} {meth : Method} {c : Code} {b L : Nat} {xs : Nat → Int32} {D : va_G} {ad : Nat → Nat} {cI cC : ClassId} {I : mm_M → Prop} (hL : L ≤ 3072) (C0 : lw_At p s m meth c b L xs) (hK : va_K D vwCl (mm_tys cI cC) s) (hX : mm_X ad (fun q : Nat => s.heap.size ≤ q) s s.heap) {M : mm_M} {H : Heap} {locs : List Loc} {ls : Array Slot} {i : Nat} (hi : i + 6 ≤ L) (hp : ∀ (a1 : Int32), lw_pair I M 72 123 [.inl a1]) (hP : va_P D vwCl (mm_world ad cI cC M) H) (hD : va_D (fun q : Nat => s.heap.size ≤ q) (mm_world ad cI cC M)) (hS : va_S (fun q : Nat => s.heap.size ≤ q) s.heap H locs) (hl : lv_has ls 4 [(0, .ref b), (1, .ref (ad 0)), (2, .ref (ad 30)), (3, .int (nI i))])
    (kk : ∀ (M' : mm_M) (H' : Heap) (locs' : List Loc), I M' → va_P D vwCl (mm_world ad cI cC M') H' → va_D (fun q : Nat => s.heap.size ≤ q) (mm_world ad cI cC M') → va_S (fun q : Nat => s.heap.size ≤ q) s.heap H' locs' → W p l e room_1 s m #[Value.ref b] below meth c H' locs' 38 8251 (lw_Z below #[Value.ref b] s) (F0 m 907 ls [])) : W p l e room_1 s m #[Value.ref b] below meth c H locs 38 8251 (lw_Z below #[Value.ref b] s) (F0 m 496 ls []) := by
  obtain ⟨hx, hb, hr, hml, hown, hts0, hXs, hbl, hlocks, hgv⟩ := id C0
  have hbA : ¬ (fun q : Nat => s.heap.size ≤ q) b := Nat.not_le.mpr hbl
  refine lv_aload_n hx hb dL_law_496 rfl (lv_at hl 1 rfl) ?_
  refine lv_aload_n hx hb dL_law_497 rfl (lv_at hl 0 rfl) ?_
  refine lv_iload_n hx hb dL_law_498 rfl (lv_at hl 3 rfl) ?_
  refine lv_iconst (v := nI 1) hx hb dL_law_499 (by decide +kernel) ?_
  refine lv_iadd hx hb dL_law_500 ?_
  refine va_sld hx hb hXs hbl hbA hS (lw_ix hi hL (by decide : 1 < 6)) dL_law_501 ?_
  refine W.eq (g2 := F0 m 502 ls (([.inl (xs (nI i + nI 1).toNatClampNeg)].map (mm_tv ad)).reverse ++ .ref (ad 0) :: [])) rfl ?_
  refine lw_call (k := 72) (o := 0) (ci := 6) C0 hK hX (by decide +kernel) (by rw [kmX7_count]; exact Nat.le_of_ble_eq_true rfl) (by rw [kpX7_count]; rfl) (hp (xs (nI i + nI 1).toNatClampNeg)) rfl (by rw [kyX7_count]; rfl) (kyX7_count ▸ (mm_w_in (i := 471) (w := .methodLink R_law 58 yX7_count) (by decide +kernel))) (kyX7_count ▸ (mm_w_in (i := 472) (w := .instanceMethod yX7_count) (by decide +kernel))) (kyX7_count ▸ (mm_w_in (i := 473) (w := .selects RX7 yX7_count yX7_count) (by decide +kernel))) hP hD hS hl.1 (by rw [kfX7_count]; decide) (by rw [kmX7_count, klX7_count]; decide) (Nat.le_of_ble_eq_true rfl) dL_law_502 ?_
  intro v1 M1 H1 locs1 hp1 hP hD hS
  refine lv_aload_n hx hb dL_law_505 rfl (lv_at hl 2 rfl) ?_
  refine lv_aload_n hx hb dL_law_506 rfl (lv_at hl 0 rfl) ?_
  refine lv_iload_n hx hb dL_law_507 rfl (lv_at hl 3 rfl) ?_
  refine lv_iconst (v := nI 1) hx hb dL_law_508 (by decide +kernel) ?_
  refine lv_iadd hx hb dL_law_509 ?_
  refine va_sld hx hb hXs hbl hbA hS (lw_ix hi hL (by decide : 1 < 6)) dL_law_510 ?_
  refine W.eq (g2 := F0 m 511 ls (([.inl (xs (nI i + nI 1).toNatClampNeg)].map (mm_tv ad)).reverse ++ .ref (ad 30) :: [.int v1])) rfl ?_
  refine lw_call (k := 123) (o := 30) (ci := 7) C0 hK hX (by decide +kernel) (by rw [kmX8_count]; exact Nat.le_of_ble_eq_true rfl) (by rw [kpX8_count]; rfl) (wc_mono (Q' := fun r M2 => ∃ v : Int32, r = some v ∧ (v = v1 ∧ I M2)) hp1 (fun r M2 h => ⟨v1, h.1, rfl, h.2⟩)) rfl (by rw [kyX8_count]; rfl) (kyX8_count ▸ (mm_w_in (i := 803) (w := .methodLink R_law 61 yX8_count) (by decide +kernel))) (kyX8_count ▸ (mm_w_in (i := 804) (w := .instanceMethod yX8_count) (by decide +kernel))) (kyX8_count ▸ (mm_w_in (i := 805) (w := .selects RX8 yX8_count yX8_count) (by decide +kernel))) hP hD hS hl.1 (by rw [kfX8_count]; decide) (by rw [kmX8_count, klX8_count]; decide) (Nat.le_of_ble_eq_true rfl) dL_law_511 ?_
  intro v2 M2 H2 locs2 hp2 hP hD hS
  obtain ⟨he, hI⟩ := hp2
  refine lv_icmp_eq (tgt := 907) hx hb dL_law_514 (by decide) (fun _ => kk M2 H2 locs2 hI hP hD hS) (fun hne => absurd (show v1 = v2 from he.symm) hne)
set_option maxHeartbeats 4000000 in
set_option maxRecDepth 100000 in
theorem lw_case_11 {p : Program} {l : Launch} {e : Env} {s : State} {m : MethodId} {below : List Frame} {meth : Method} {c : Code} {b L : Nat} {xs : Nat → Int32} {D : va_G} {ad : Nat → Nat} {cI cC : ClassId} {I : mm_M → Prop} (hL : L ≤ 3072) (C0 : lw_At p s m meth c b L xs) (hK : va_K D vwCl (mm_tys cI cC) s) (hX : mm_X ad (fun q : Nat => s.heap.size ≤ q) s s.heap) {M : mm_M} {H : Heap} {locs : List Loc} {ls : Array Slot} {i : Nat} (hi : i + 6 ≤ L) (hp : ∀ (a1 : Int32) (a2 : Int32), lw_pair I M 73 124 [.inl a1, .inl a2]) (hP : va_P D vwCl (mm_world ad cI cC M) H) (hD : va_D (fun q : Nat => s.heap.size ≤ q) (mm_world ad cI cC M)) (hS : va_S (fun q : Nat => s.heap.size ≤ q) s.heap H locs) (hl : lv_has ls 4 [(0, .ref b), (1, .ref (ad 0)), (2, .ref (ad 30)), (3, .int (nI i))])
    (kk : ∀ (M' : mm_M) (H' : Heap) (locs' : List Loc), I M' → va_P D vwCl (mm_world ad cI cC M') H' → va_D (fun q : Nat => s.heap.size ≤ q) (mm_world ad cI cC M') → va_S (fun q : Nat => s.heap.size ≤ q) s.heap H' locs' → W p l e room_1 s m #[Value.ref b] below meth c H' locs' 38 8251 (lw_Z below #[Value.ref b] s) (F0 m 907 ls [])) : W p l e room_1 s m #[Value.ref b] below meth c H locs 38 8251 (lw_Z below #[Value.ref b] s) (F0 m 519 ls []) := by
  obtain ⟨hx, hb, hr, hml, hown, hts0, hXs, hbl, hlocks, hgv⟩ := id C0
  have hbA : ¬ (fun q : Nat => s.heap.size ≤ q) b := Nat.not_le.mpr hbl
  refine lv_aload_n hx hb dL_law_519 rfl (lv_at hl 1 rfl) ?_
  refine lv_aload_n hx hb dL_law_520 rfl (lv_at hl 0 rfl) ?_
  refine lv_iload_n hx hb dL_law_521 rfl (lv_at hl 3 rfl) ?_
  refine lv_iconst (v := nI 1) hx hb dL_law_522 (by decide +kernel) ?_
  refine lv_iadd hx hb dL_law_523 ?_
  refine va_sld hx hb hXs hbl hbA hS (lw_ix hi hL (by decide : 1 < 6)) dL_law_524 ?_
  refine lv_aload_n hx hb dL_law_525 rfl (lv_at hl 0 rfl) ?_
  refine lv_iload_n hx hb dL_law_526 rfl (lv_at hl 3 rfl) ?_
  refine lv_iconst (v := nI 2) hx hb dL_law_527 (by decide +kernel) ?_
  refine lv_iadd hx hb dL_law_528 ?_
  refine va_sld hx hb hXs hbl hbA hS (lw_ix hi hL (by decide : 2 < 6)) dL_law_529 ?_
  refine W.eq (g2 := F0 m 530 ls (([.inl (xs (nI i + nI 1).toNatClampNeg), .inl (xs (nI i + nI 2).toNatClampNeg)].map (mm_tv ad)).reverse ++ .ref (ad 0) :: [])) rfl ?_
  refine lw_call (k := 73) (o := 0) (ci := 6) C0 hK hX (by decide +kernel) (by rw [kmX7_sign]; exact Nat.le_of_ble_eq_true rfl) (by rw [kpX7_sign]; rfl) (hp (xs (nI i + nI 1).toNatClampNeg) (xs (nI i + nI 2).toNatClampNeg)) rfl (by rw [kyX7_sign]; rfl) (kyX7_sign ▸ (mm_w_in (i := 475) (w := .methodLink R_law 62 yX7_sign) (by decide +kernel))) (kyX7_sign ▸ (mm_w_in (i := 476) (w := .instanceMethod yX7_sign) (by decide +kernel))) (kyX7_sign ▸ (mm_w_in (i := 477) (w := .selects RX7 yX7_sign yX7_sign) (by decide +kernel))) hP hD hS hl.1 (by rw [kfX7_sign]; decide) (by rw [kmX7_sign, klX7_sign]; decide) (Nat.le_of_ble_eq_true rfl) dL_law_530 ?_
  intro v1 M1 H1 locs1 hp1 hP hD hS
  refine lv_aload_n hx hb dL_law_533 rfl (lv_at hl 2 rfl) ?_
  refine lv_aload_n hx hb dL_law_534 rfl (lv_at hl 0 rfl) ?_
  refine lv_iload_n hx hb dL_law_535 rfl (lv_at hl 3 rfl) ?_
  refine lv_iconst (v := nI 1) hx hb dL_law_536 (by decide +kernel) ?_
  refine lv_iadd hx hb dL_law_537 ?_
  refine va_sld hx hb hXs hbl hbA hS (lw_ix hi hL (by decide : 1 < 6)) dL_law_538 ?_
  refine lv_aload_n hx hb dL_law_539 rfl (lv_at hl 0 rfl) ?_
  refine lv_iload_n hx hb dL_law_540 rfl (lv_at hl 3 rfl) ?_
  refine lv_iconst (v := nI 2) hx hb dL_law_541 (by decide +kernel) ?_
  refine lv_iadd hx hb dL_law_542 ?_
  refine va_sld hx hb hXs hbl hbA hS (lw_ix hi hL (by decide : 2 < 6)) dL_law_543 ?_
  refine W.eq (g2 := F0 m 544 ls (([.inl (xs (nI i + nI 1).toNatClampNeg), .inl (xs (nI i + nI 2).toNatClampNeg)].map (mm_tv ad)).reverse ++ .ref (ad 30) :: [.int v1])) rfl ?_
  refine lw_call (k := 124) (o := 30) (ci := 7) C0 hK hX (by decide +kernel) (by rw [kmX8_sign]; exact Nat.le_of_ble_eq_true rfl) (by rw [kpX8_sign]; rfl) (wc_mono (Q' := fun r M2 => ∃ v : Int32, r = some v ∧ (v = v1 ∧ I M2)) hp1 (fun r M2 h => ⟨v1, h.1, rfl, h.2⟩)) rfl (by rw [kyX8_sign]; rfl) (kyX8_sign ▸ (mm_w_in (i := 807) (w := .methodLink R_law 65 yX8_sign) (by decide +kernel))) (kyX8_sign ▸ (mm_w_in (i := 808) (w := .instanceMethod yX8_sign) (by decide +kernel))) (kyX8_sign ▸ (mm_w_in (i := 809) (w := .selects RX8 yX8_sign yX8_sign) (by decide +kernel))) hP hD hS hl.1 (by rw [kfX8_sign]; decide) (by rw [kmX8_sign, klX8_sign]; decide) (Nat.le_of_ble_eq_true rfl) dL_law_544 ?_
  intro v2 M2 H2 locs2 hp2 hP hD hS
  obtain ⟨he, hI⟩ := hp2
  refine lv_icmp_eq (tgt := 907) hx hb dL_law_547 (by decide) (fun _ => kk M2 H2 locs2 hI hP hD hS) (fun hne => absurd (show v1 = v2 from he.symm) hne)
set_option maxHeartbeats 4000000 in
set_option maxRecDepth 100000 in
theorem lw_case_12 {p : Program} {l : Launch} {e : Env} {s : State} {m : MethodId} {below : List Frame} {meth : Method} {c : Code} {b L : Nat} {xs : Nat → Int32} {D : va_G} {ad : Nat → Nat} {cI cC : ClassId} {I : mm_M → Prop} (hL : L ≤ 3072) (C0 : lw_At p s m meth c b L xs) (hK : va_K D vwCl (mm_tys cI cC) s) (hX : mm_X ad (fun q : Nat => s.heap.size ≤ q) s s.heap) {M : mm_M} {H : Heap} {locs : List Loc} {ls : Array Slot} {i : Nat} (hi : i + 6 ≤ L) (hp : ∀ (a1 : Int32) (a2 : Int32), lw_pair I M 74 125 [.inl a1, .inl a2]) (hP : va_P D vwCl (mm_world ad cI cC M) H) (hD : va_D (fun q : Nat => s.heap.size ≤ q) (mm_world ad cI cC M)) (hS : va_S (fun q : Nat => s.heap.size ≤ q) s.heap H locs) (hl : lv_has ls 4 [(0, .ref b), (1, .ref (ad 0)), (2, .ref (ad 30)), (3, .int (nI i))])
    (kk : ∀ (M' : mm_M) (H' : Heap) (locs' : List Loc), I M' → va_P D vwCl (mm_world ad cI cC M') H' → va_D (fun q : Nat => s.heap.size ≤ q) (mm_world ad cI cC M') → va_S (fun q : Nat => s.heap.size ≤ q) s.heap H' locs' → W p l e room_1 s m #[Value.ref b] below meth c H' locs' 38 8251 (lw_Z below #[Value.ref b] s) (F0 m 907 ls [])) : W p l e room_1 s m #[Value.ref b] below meth c H locs 38 8251 (lw_Z below #[Value.ref b] s) (F0 m 552 ls []) := by
  obtain ⟨hx, hb, hr, hml, hown, hts0, hXs, hbl, hlocks, hgv⟩ := id C0
  have hbA : ¬ (fun q : Nat => s.heap.size ≤ q) b := Nat.not_le.mpr hbl
  refine lv_aload_n hx hb dL_law_552 rfl (lv_at hl 1 rfl) ?_
  refine lv_aload_n hx hb dL_law_553 rfl (lv_at hl 0 rfl) ?_
  refine lv_iload_n hx hb dL_law_554 rfl (lv_at hl 3 rfl) ?_
  refine lv_iconst (v := nI 1) hx hb dL_law_555 (by decide +kernel) ?_
  refine lv_iadd hx hb dL_law_556 ?_
  refine va_sld hx hb hXs hbl hbA hS (lw_ix hi hL (by decide : 1 < 6)) dL_law_557 ?_
  refine lv_aload_n hx hb dL_law_558 rfl (lv_at hl 0 rfl) ?_
  refine lv_iload_n hx hb dL_law_559 rfl (lv_at hl 3 rfl) ?_
  refine lv_iconst (v := nI 2) hx hb dL_law_560 (by decide +kernel) ?_
  refine lv_iadd hx hb dL_law_561 ?_
  refine va_sld hx hb hXs hbl hbA hS (lw_ix hi hL (by decide : 2 < 6)) dL_law_562 ?_
  refine W.eq (g2 := F0 m 563 ls (([.inl (xs (nI i + nI 1).toNatClampNeg), .inl (xs (nI i + nI 2).toNatClampNeg)].map (mm_tv ad)).reverse ++ .ref (ad 0) :: [])) rfl ?_
  refine lw_call (k := 74) (o := 0) (ci := 6) C0 hK hX (by decide +kernel) (by rw [kmX7_signAt]; exact Nat.le_of_ble_eq_true rfl) (by rw [kpX7_signAt]; rfl) (hp (xs (nI i + nI 1).toNatClampNeg) (xs (nI i + nI 2).toNatClampNeg)) rfl (by rw [kyX7_signAt]; rfl) (kyX7_signAt ▸ (mm_w_in (i := 490) (w := .methodLink R_law 66 yX7_signAt) (by decide +kernel))) (kyX7_signAt ▸ (mm_w_in (i := 491) (w := .instanceMethod yX7_signAt) (by decide +kernel))) (kyX7_signAt ▸ (mm_w_in (i := 492) (w := .selects RX7 yX7_signAt yX7_signAt) (by decide +kernel))) hP hD hS hl.1 (by rw [kfX7_signAt]; decide) (by rw [kmX7_signAt, klX7_signAt]; decide) (Nat.le_of_ble_eq_true rfl) dL_law_563 ?_
  intro v1 M1 H1 locs1 hp1 hP hD hS
  refine lv_aload_n hx hb dL_law_566 rfl (lv_at hl 2 rfl) ?_
  refine lv_aload_n hx hb dL_law_567 rfl (lv_at hl 0 rfl) ?_
  refine lv_iload_n hx hb dL_law_568 rfl (lv_at hl 3 rfl) ?_
  refine lv_iconst (v := nI 1) hx hb dL_law_569 (by decide +kernel) ?_
  refine lv_iadd hx hb dL_law_570 ?_
  refine va_sld hx hb hXs hbl hbA hS (lw_ix hi hL (by decide : 1 < 6)) dL_law_571 ?_
  refine lv_aload_n hx hb dL_law_572 rfl (lv_at hl 0 rfl) ?_
  refine lv_iload_n hx hb dL_law_573 rfl (lv_at hl 3 rfl) ?_
  refine lv_iconst (v := nI 2) hx hb dL_law_574 (by decide +kernel) ?_
  refine lv_iadd hx hb dL_law_575 ?_
  refine va_sld hx hb hXs hbl hbA hS (lw_ix hi hL (by decide : 2 < 6)) dL_law_576 ?_
  refine W.eq (g2 := F0 m 577 ls (([.inl (xs (nI i + nI 1).toNatClampNeg), .inl (xs (nI i + nI 2).toNatClampNeg)].map (mm_tv ad)).reverse ++ .ref (ad 30) :: [.int v1])) rfl ?_
  refine lw_call (k := 125) (o := 30) (ci := 7) C0 hK hX (by decide +kernel) (by rw [kmX8_signAt]; exact Nat.le_of_ble_eq_true rfl) (by rw [kpX8_signAt]; rfl) (wc_mono (Q' := fun r M2 => ∃ v : Int32, r = some v ∧ (v = v1 ∧ I M2)) hp1 (fun r M2 h => ⟨v1, h.1, rfl, h.2⟩)) rfl (by rw [kyX8_signAt]; rfl) (kyX8_signAt ▸ (mm_w_in (i := 811) (w := .methodLink R_law 69 yX8_signAt) (by decide +kernel))) (kyX8_signAt ▸ (mm_w_in (i := 812) (w := .instanceMethod yX8_signAt) (by decide +kernel))) (kyX8_signAt ▸ (mm_w_in (i := 813) (w := .selects RX8 yX8_signAt yX8_signAt) (by decide +kernel))) hP hD hS hl.1 (by rw [kfX8_signAt]; decide) (by rw [kmX8_signAt, klX8_signAt]; decide) (Nat.le_of_ble_eq_true rfl) dL_law_577 ?_
  intro v2 M2 H2 locs2 hp2 hP hD hS
  obtain ⟨he, hI⟩ := hp2
  refine lv_icmp_eq (tgt := 907) hx hb dL_law_580 (by decide) (fun _ => kk M2 H2 locs2 hI hP hD hS) (fun hne => absurd (show v1 = v2 from he.symm) hne)
set_option maxHeartbeats 4000000 in
set_option maxRecDepth 100000 in
theorem lw_case_13 {p : Program} {l : Launch} {e : Env} {s : State} {m : MethodId} {below : List Frame} {meth : Method} {c : Code} {b L : Nat} {xs : Nat → Int32} {D : va_G} {ad : Nat → Nat} {cI cC : ClassId} {I : mm_M → Prop} (hL : L ≤ 3072) (C0 : lw_At p s m meth c b L xs) (hK : va_K D vwCl (mm_tys cI cC) s) (hX : mm_X ad (fun q : Nat => s.heap.size ≤ q) s s.heap) {M : mm_M} {H : Heap} {locs : List Loc} {ls : Array Slot} {i : Nat} (hi : i + 6 ≤ L) (hp : ∀ (a1 : Int32), lw_pair I M 75 132 [.inl a1]) (hP : va_P D vwCl (mm_world ad cI cC M) H) (hD : va_D (fun q : Nat => s.heap.size ≤ q) (mm_world ad cI cC M)) (hS : va_S (fun q : Nat => s.heap.size ≤ q) s.heap H locs) (hl : lv_has ls 4 [(0, .ref b), (1, .ref (ad 0)), (2, .ref (ad 30)), (3, .int (nI i))])
    (kk : ∀ (M' : mm_M) (H' : Heap) (locs' : List Loc), I M' → va_P D vwCl (mm_world ad cI cC M') H' → va_D (fun q : Nat => s.heap.size ≤ q) (mm_world ad cI cC M') → va_S (fun q : Nat => s.heap.size ≤ q) s.heap H' locs' → W p l e room_1 s m #[Value.ref b] below meth c H' locs' 38 8251 (lw_Z below #[Value.ref b] s) (F0 m 907 ls [])) : W p l e room_1 s m #[Value.ref b] below meth c H locs 38 8251 (lw_Z below #[Value.ref b] s) (F0 m 585 ls []) := by
  obtain ⟨hx, hb, hr, hml, hown, hts0, hXs, hbl, hlocks, hgv⟩ := id C0
  have hbA : ¬ (fun q : Nat => s.heap.size ≤ q) b := Nat.not_le.mpr hbl
  refine lv_aload_n hx hb dL_law_585 rfl (lv_at hl 1 rfl) ?_
  refine lv_aload_n hx hb dL_law_586 rfl (lv_at hl 0 rfl) ?_
  refine lv_iload_n hx hb dL_law_587 rfl (lv_at hl 3 rfl) ?_
  refine lv_iconst (v := nI 1) hx hb dL_law_588 (by decide +kernel) ?_
  refine lv_iadd hx hb dL_law_589 ?_
  refine va_sld hx hb hXs hbl hbA hS (lw_ix hi hL (by decide : 1 < 6)) dL_law_590 ?_
  refine W.eq (g2 := F0 m 591 ls (([.inl (xs (nI i + nI 1).toNatClampNeg)].map (mm_tv ad)).reverse ++ .ref (ad 0) :: [])) rfl ?_
  refine lw_call (k := 75) (o := 0) (ci := 6) C0 hK hX (by decide +kernel) (by rw [kmX7_bears]; exact Nat.le_of_ble_eq_true rfl) (by rw [kpX7_bears]; rfl) (hp (xs (nI i + nI 1).toNatClampNeg)) rfl (by rw [kyX7_bears]; rfl) (kyX7_bears ▸ (mm_w_in (i := 499) (w := .methodLink R_law 70 yX7_bears) (by decide +kernel))) (kyX7_bears ▸ (mm_w_in (i := 500) (w := .instanceMethod yX7_bears) (by decide +kernel))) (kyX7_bears ▸ (mm_w_in (i := 501) (w := .selects RX7 yX7_bears yX7_bears) (by decide +kernel))) hP hD hS hl.1 (by rw [kfX7_bears]; decide) (by rw [kmX7_bears, klX7_bears]; decide) (Nat.le_of_ble_eq_true rfl) dL_law_591 ?_
  intro v1 M1 H1 locs1 hp1 hP hD hS
  refine lv_aload_n hx hb dL_law_594 rfl (lv_at hl 2 rfl) ?_
  refine lv_aload_n hx hb dL_law_595 rfl (lv_at hl 0 rfl) ?_
  refine lv_iload_n hx hb dL_law_596 rfl (lv_at hl 3 rfl) ?_
  refine lv_iconst (v := nI 1) hx hb dL_law_597 (by decide +kernel) ?_
  refine lv_iadd hx hb dL_law_598 ?_
  refine va_sld hx hb hXs hbl hbA hS (lw_ix hi hL (by decide : 1 < 6)) dL_law_599 ?_
  refine W.eq (g2 := F0 m 600 ls (([.inl (xs (nI i + nI 1).toNatClampNeg)].map (mm_tv ad)).reverse ++ .ref (ad 30) :: [.int v1])) rfl ?_
  refine lw_call (k := 132) (o := 30) (ci := 7) C0 hK hX (by decide +kernel) (by rw [kmX8_bears]; exact Nat.le_of_ble_eq_true rfl) (by rw [kpX8_bears]; rfl) (wc_mono (Q' := fun r M2 => ∃ v : Int32, r = some v ∧ (v = v1 ∧ I M2)) hp1 (fun r M2 h => ⟨v1, h.1, rfl, h.2⟩)) rfl (by rw [kyX8_bears]; rfl) (kyX8_bears ▸ (mm_w_in (i := 815) (w := .methodLink R_law 73 yX8_bears) (by decide +kernel))) (kyX8_bears ▸ (mm_w_in (i := 816) (w := .instanceMethod yX8_bears) (by decide +kernel))) (kyX8_bears ▸ (mm_w_in (i := 817) (w := .selects RX8 yX8_bears yX8_bears) (by decide +kernel))) hP hD hS hl.1 (by rw [kfX8_bears]; decide) (by rw [kmX8_bears, klX8_bears]; decide) (Nat.le_of_ble_eq_true rfl) dL_law_600 ?_
  intro v2 M2 H2 locs2 hp2 hP hD hS
  obtain ⟨he, hI⟩ := hp2
  refine lv_icmp_eq (tgt := 907) hx hb dL_law_603 (by decide) (fun _ => kk M2 H2 locs2 hI hP hD hS) (fun hne => absurd (show v1 = v2 from he.symm) hne)
set_option maxHeartbeats 4000000 in
set_option maxRecDepth 100000 in
theorem lw_case_14 {p : Program} {l : Launch} {e : Env} {s : State} {m : MethodId} {below : List Frame} {meth : Method} {c : Code} {b L : Nat} {xs : Nat → Int32} {D : va_G} {ad : Nat → Nat} {cI cC : ClassId} {I : mm_M → Prop} (hL : L ≤ 3072) (C0 : lw_At p s m meth c b L xs) (hK : va_K D vwCl (mm_tys cI cC) s) (hX : mm_X ad (fun q : Nat => s.heap.size ≤ q) s s.heap) {M : mm_M} {H : Heap} {locs : List Loc} {ls : Array Slot} {i : Nat} (hi : i + 6 ≤ L) (hp : ∀ (a1 : Int32), lw_pair I M 76 133 [.inl a1]) (hP : va_P D vwCl (mm_world ad cI cC M) H) (hD : va_D (fun q : Nat => s.heap.size ≤ q) (mm_world ad cI cC M)) (hS : va_S (fun q : Nat => s.heap.size ≤ q) s.heap H locs) (hl : lv_has ls 4 [(0, .ref b), (1, .ref (ad 0)), (2, .ref (ad 30)), (3, .int (nI i))])
    (kk : ∀ (M' : mm_M) (H' : Heap) (locs' : List Loc), I M' → va_P D vwCl (mm_world ad cI cC M') H' → va_D (fun q : Nat => s.heap.size ≤ q) (mm_world ad cI cC M') → va_S (fun q : Nat => s.heap.size ≤ q) s.heap H' locs' → W p l e room_1 s m #[Value.ref b] below meth c H' locs' 38 8251 (lw_Z below #[Value.ref b] s) (F0 m 907 ls [])) : W p l e room_1 s m #[Value.ref b] below meth c H locs 38 8251 (lw_Z below #[Value.ref b] s) (F0 m 608 ls []) := by
  obtain ⟨hx, hb, hr, hml, hown, hts0, hXs, hbl, hlocks, hgv⟩ := id C0
  have hbA : ¬ (fun q : Nat => s.heap.size ≤ q) b := Nat.not_le.mpr hbl
  refine lv_aload_n hx hb dL_law_608 rfl (lv_at hl 1 rfl) ?_
  refine lv_aload_n hx hb dL_law_609 rfl (lv_at hl 0 rfl) ?_
  refine lv_iload_n hx hb dL_law_610 rfl (lv_at hl 3 rfl) ?_
  refine lv_iconst (v := nI 1) hx hb dL_law_611 (by decide +kernel) ?_
  refine lv_iadd hx hb dL_law_612 ?_
  refine va_sld hx hb hXs hbl hbA hS (lw_ix hi hL (by decide : 1 < 6)) dL_law_613 ?_
  refine W.eq (g2 := F0 m 614 ls (([.inl (xs (nI i + nI 1).toNatClampNeg)].map (mm_tv ad)).reverse ++ .ref (ad 0) :: [])) rfl ?_
  refine lw_call (k := 76) (o := 0) (ci := 6) C0 hK hX (by decide +kernel) (by rw [kmX7_toldTwice]; exact Nat.le_of_ble_eq_true rfl) (by rw [kpX7_toldTwice]; rfl) (hp (xs (nI i + nI 1).toNatClampNeg)) rfl (by rw [kyX7_toldTwice]; rfl) (kyX7_toldTwice ▸ (mm_w_in (i := 528) (w := .methodLink R_law 74 yX7_toldTwice) (by decide +kernel))) (kyX7_toldTwice ▸ (mm_w_in (i := 529) (w := .instanceMethod yX7_toldTwice) (by decide +kernel))) (kyX7_toldTwice ▸ (mm_w_in (i := 530) (w := .selects RX7 yX7_toldTwice yX7_toldTwice) (by decide +kernel))) hP hD hS hl.1 (by rw [kfX7_toldTwice]; decide) (by rw [kmX7_toldTwice, klX7_toldTwice]; decide) (Nat.le_of_ble_eq_true rfl) dL_law_614 ?_
  intro v1 M1 H1 locs1 hp1 hP hD hS
  refine lv_aload_n hx hb dL_law_617 rfl (lv_at hl 2 rfl) ?_
  refine lv_aload_n hx hb dL_law_618 rfl (lv_at hl 0 rfl) ?_
  refine lv_iload_n hx hb dL_law_619 rfl (lv_at hl 3 rfl) ?_
  refine lv_iconst (v := nI 1) hx hb dL_law_620 (by decide +kernel) ?_
  refine lv_iadd hx hb dL_law_621 ?_
  refine va_sld hx hb hXs hbl hbA hS (lw_ix hi hL (by decide : 1 < 6)) dL_law_622 ?_
  refine W.eq (g2 := F0 m 623 ls (([.inl (xs (nI i + nI 1).toNatClampNeg)].map (mm_tv ad)).reverse ++ .ref (ad 30) :: [.int v1])) rfl ?_
  refine lw_call (k := 133) (o := 30) (ci := 7) C0 hK hX (by decide +kernel) (by rw [kmX8_toldTwice]; exact Nat.le_of_ble_eq_true rfl) (by rw [kpX8_toldTwice]; rfl) (wc_mono (Q' := fun r M2 => ∃ v : Int32, r = some v ∧ (v = v1 ∧ I M2)) hp1 (fun r M2 h => ⟨v1, h.1, rfl, h.2⟩)) rfl (by rw [kyX8_toldTwice]; rfl) (kyX8_toldTwice ▸ (mm_w_in (i := 827) (w := .methodLink R_law 77 yX8_toldTwice) (by decide +kernel))) (kyX8_toldTwice ▸ (mm_w_in (i := 828) (w := .instanceMethod yX8_toldTwice) (by decide +kernel))) (kyX8_toldTwice ▸ (mm_w_in (i := 829) (w := .selects RX8 yX8_toldTwice yX8_toldTwice) (by decide +kernel))) hP hD hS hl.1 (by rw [kfX8_toldTwice]; decide) (by rw [kmX8_toldTwice, klX8_toldTwice]; decide) (Nat.le_of_ble_eq_true rfl) dL_law_623 ?_
  intro v2 M2 H2 locs2 hp2 hP hD hS
  obtain ⟨he, hI⟩ := hp2
  refine lv_icmp_eq (tgt := 907) hx hb dL_law_626 (by decide) (fun _ => kk M2 H2 locs2 hI hP hD hS) (fun hne => absurd (show v1 = v2 from he.symm) hne)
set_option maxHeartbeats 4000000 in
set_option maxRecDepth 100000 in
theorem lw_case_15 {p : Program} {l : Launch} {e : Env} {s : State} {m : MethodId} {below : List Frame} {meth : Method} {c : Code} {b L : Nat} {xs : Nat → Int32} {D : va_G} {ad : Nat → Nat} {cI cC : ClassId} {I : mm_M → Prop} (hL : L ≤ 3072) (C0 : lw_At p s m meth c b L xs) (hK : va_K D vwCl (mm_tys cI cC) s) (hX : mm_X ad (fun q : Nat => s.heap.size ≤ q) s s.heap) {M : mm_M} {H : Heap} {locs : List Loc} {ls : Array Slot} {i : Nat} (hi : i + 6 ≤ L) (hp : ∀ (a1 : Int32), lw_pair I M 77 134 [.inl a1]) (hP : va_P D vwCl (mm_world ad cI cC M) H) (hD : va_D (fun q : Nat => s.heap.size ≤ q) (mm_world ad cI cC M)) (hS : va_S (fun q : Nat => s.heap.size ≤ q) s.heap H locs) (hl : lv_has ls 4 [(0, .ref b), (1, .ref (ad 0)), (2, .ref (ad 30)), (3, .int (nI i))])
    (kk : ∀ (M' : mm_M) (H' : Heap) (locs' : List Loc), I M' → va_P D vwCl (mm_world ad cI cC M') H' → va_D (fun q : Nat => s.heap.size ≤ q) (mm_world ad cI cC M') → va_S (fun q : Nat => s.heap.size ≤ q) s.heap H' locs' → W p l e room_1 s m #[Value.ref b] below meth c H' locs' 38 8251 (lw_Z below #[Value.ref b] s) (F0 m 907 ls [])) : W p l e room_1 s m #[Value.ref b] below meth c H locs 38 8251 (lw_Z below #[Value.ref b] s) (F0 m 631 ls []) := by
  obtain ⟨hx, hb, hr, hml, hown, hts0, hXs, hbl, hlocks, hgv⟩ := id C0
  have hbA : ¬ (fun q : Nat => s.heap.size ≤ q) b := Nat.not_le.mpr hbl
  refine lv_aload_n hx hb dL_law_631 rfl (lv_at hl 1 rfl) ?_
  refine lv_aload_n hx hb dL_law_632 rfl (lv_at hl 0 rfl) ?_
  refine lv_iload_n hx hb dL_law_633 rfl (lv_at hl 3 rfl) ?_
  refine lv_iconst (v := nI 1) hx hb dL_law_634 (by decide +kernel) ?_
  refine lv_iadd hx hb dL_law_635 ?_
  refine va_sld hx hb hXs hbl hbA hS (lw_ix hi hL (by decide : 1 < 6)) dL_law_636 ?_
  refine W.eq (g2 := F0 m 637 ls (([.inl (xs (nI i + nI 1).toNatClampNeg)].map (mm_tv ad)).reverse ++ .ref (ad 0) :: [])) rfl ?_
  refine lw_call (k := 77) (o := 0) (ci := 6) C0 hK hX (by decide +kernel) (by rw [kmX7_isFaulty]; exact Nat.le_of_ble_eq_true rfl) (by rw [kpX7_isFaulty]; rfl) (hp (xs (nI i + nI 1).toNatClampNeg)) rfl (by rw [kyX7_isFaulty]; rfl) (kyX7_isFaulty ▸ (mm_w_in (i := 532) (w := .methodLink R_law 78 yX7_isFaulty) (by decide +kernel))) (kyX7_isFaulty ▸ (mm_w_in (i := 533) (w := .instanceMethod yX7_isFaulty) (by decide +kernel))) (kyX7_isFaulty ▸ (mm_w_in (i := 534) (w := .selects RX7 yX7_isFaulty yX7_isFaulty) (by decide +kernel))) hP hD hS hl.1 (by rw [kfX7_isFaulty]; decide) (by rw [kmX7_isFaulty, klX7_isFaulty]; decide) (Nat.le_of_ble_eq_true rfl) dL_law_637 ?_
  intro v1 M1 H1 locs1 hp1 hP hD hS
  refine lv_aload_n hx hb dL_law_640 rfl (lv_at hl 2 rfl) ?_
  refine lv_aload_n hx hb dL_law_641 rfl (lv_at hl 0 rfl) ?_
  refine lv_iload_n hx hb dL_law_642 rfl (lv_at hl 3 rfl) ?_
  refine lv_iconst (v := nI 1) hx hb dL_law_643 (by decide +kernel) ?_
  refine lv_iadd hx hb dL_law_644 ?_
  refine va_sld hx hb hXs hbl hbA hS (lw_ix hi hL (by decide : 1 < 6)) dL_law_645 ?_
  refine W.eq (g2 := F0 m 646 ls (([.inl (xs (nI i + nI 1).toNatClampNeg)].map (mm_tv ad)).reverse ++ .ref (ad 30) :: [.int v1])) rfl ?_
  refine lw_call (k := 134) (o := 30) (ci := 7) C0 hK hX (by decide +kernel) (by rw [kmX8_isFaulty]; exact Nat.le_of_ble_eq_true rfl) (by rw [kpX8_isFaulty]; rfl) (wc_mono (Q' := fun r M2 => ∃ v : Int32, r = some v ∧ (v = v1 ∧ I M2)) hp1 (fun r M2 h => ⟨v1, h.1, rfl, h.2⟩)) rfl (by rw [kyX8_isFaulty]; rfl) (kyX8_isFaulty ▸ (mm_w_in (i := 839) (w := .methodLink R_law 81 yX8_isFaulty) (by decide +kernel))) (kyX8_isFaulty ▸ (mm_w_in (i := 840) (w := .instanceMethod yX8_isFaulty) (by decide +kernel))) (kyX8_isFaulty ▸ (mm_w_in (i := 841) (w := .selects RX8 yX8_isFaulty yX8_isFaulty) (by decide +kernel))) hP hD hS hl.1 (by rw [kfX8_isFaulty]; decide) (by rw [kmX8_isFaulty, klX8_isFaulty]; decide) (Nat.le_of_ble_eq_true rfl) dL_law_646 ?_
  intro v2 M2 H2 locs2 hp2 hP hD hS
  obtain ⟨he, hI⟩ := hp2
  refine lv_icmp_eq (tgt := 907) hx hb dL_law_649 (by decide) (fun _ => kk M2 H2 locs2 hI hP hD hS) (fun hne => absurd (show v1 = v2 from he.symm) hne)
set_option maxHeartbeats 4000000 in
set_option maxRecDepth 100000 in
theorem lw_case_16 {p : Program} {l : Launch} {e : Env} {s : State} {m : MethodId} {below : List Frame} {meth : Method} {c : Code} {b L : Nat} {xs : Nat → Int32} {D : va_G} {ad : Nat → Nat} {cI cC : ClassId} {I : mm_M → Prop} (hL : L ≤ 3072) (C0 : lw_At p s m meth c b L xs) (hK : va_K D vwCl (mm_tys cI cC) s) (hX : mm_X ad (fun q : Nat => s.heap.size ≤ q) s s.heap) {M : mm_M} {H : Heap} {locs : List Loc} {ls : Array Slot} {i : Nat} (hi : i + 6 ≤ L) (hp : ∀ (a1 : Int32), lw_pair I M 78 135 [.inl a1]) (hP : va_P D vwCl (mm_world ad cI cC M) H) (hD : va_D (fun q : Nat => s.heap.size ≤ q) (mm_world ad cI cC M)) (hS : va_S (fun q : Nat => s.heap.size ≤ q) s.heap H locs) (hl : lv_has ls 4 [(0, .ref b), (1, .ref (ad 0)), (2, .ref (ad 30)), (3, .int (nI i))])
    (kk : ∀ (M' : mm_M) (H' : Heap) (locs' : List Loc), I M' → va_P D vwCl (mm_world ad cI cC M') H' → va_D (fun q : Nat => s.heap.size ≤ q) (mm_world ad cI cC M') → va_S (fun q : Nat => s.heap.size ≤ q) s.heap H' locs' → W p l e room_1 s m #[Value.ref b] below meth c H' locs' 38 8251 (lw_Z below #[Value.ref b] s) (F0 m 907 ls [])) : W p l e room_1 s m #[Value.ref b] below meth c H locs 38 8251 (lw_Z below #[Value.ref b] s) (F0 m 654 ls []) := by
  obtain ⟨hx, hb, hr, hml, hown, hts0, hXs, hbl, hlocks, hgv⟩ := id C0
  have hbA : ¬ (fun q : Nat => s.heap.size ≤ q) b := Nat.not_le.mpr hbl
  refine lv_aload_n hx hb dL_law_654 rfl (lv_at hl 1 rfl) ?_
  refine lv_aload_n hx hb dL_law_655 rfl (lv_at hl 0 rfl) ?_
  refine lv_iload_n hx hb dL_law_656 rfl (lv_at hl 3 rfl) ?_
  refine lv_iconst (v := nI 1) hx hb dL_law_657 (by decide +kernel) ?_
  refine lv_iadd hx hb dL_law_658 ?_
  refine va_sld hx hb hXs hbl hbA hS (lw_ix hi hL (by decide : 1 < 6)) dL_law_659 ?_
  refine W.eq (g2 := F0 m 660 ls (([.inl (xs (nI i + nI 1).toNatClampNeg)].map (mm_tv ad)).reverse ++ .ref (ad 0) :: [])) rfl ?_
  refine lw_call (k := 78) (o := 0) (ci := 6) C0 hK hX (by decide +kernel) (by rw [kmX7_nextFault]; exact Nat.le_of_ble_eq_true rfl) (by rw [kpX7_nextFault]; rfl) (hp (xs (nI i + nI 1).toNatClampNeg)) rfl (by rw [kyX7_nextFault]; rfl) (kyX7_nextFault ▸ (mm_w_in (i := 540) (w := .methodLink R_law 82 yX7_nextFault) (by decide +kernel))) (kyX7_nextFault ▸ (mm_w_in (i := 541) (w := .instanceMethod yX7_nextFault) (by decide +kernel))) (kyX7_nextFault ▸ (mm_w_in (i := 542) (w := .selects RX7 yX7_nextFault yX7_nextFault) (by decide +kernel))) hP hD hS hl.1 (by rw [kfX7_nextFault]; decide) (by rw [kmX7_nextFault, klX7_nextFault]; decide) (Nat.le_of_ble_eq_true rfl) dL_law_660 ?_
  intro v1 M1 H1 locs1 hp1 hP hD hS
  refine lv_aload_n hx hb dL_law_663 rfl (lv_at hl 2 rfl) ?_
  refine lv_aload_n hx hb dL_law_664 rfl (lv_at hl 0 rfl) ?_
  refine lv_iload_n hx hb dL_law_665 rfl (lv_at hl 3 rfl) ?_
  refine lv_iconst (v := nI 1) hx hb dL_law_666 (by decide +kernel) ?_
  refine lv_iadd hx hb dL_law_667 ?_
  refine va_sld hx hb hXs hbl hbA hS (lw_ix hi hL (by decide : 1 < 6)) dL_law_668 ?_
  refine W.eq (g2 := F0 m 669 ls (([.inl (xs (nI i + nI 1).toNatClampNeg)].map (mm_tv ad)).reverse ++ .ref (ad 30) :: [.int v1])) rfl ?_
  refine lw_call (k := 135) (o := 30) (ci := 7) C0 hK hX (by decide +kernel) (by rw [kmX8_nextFault]; exact Nat.le_of_ble_eq_true rfl) (by rw [kpX8_nextFault]; rfl) (wc_mono (Q' := fun r M2 => ∃ v : Int32, r = some v ∧ (v = v1 ∧ I M2)) hp1 (fun r M2 h => ⟨v1, h.1, rfl, h.2⟩)) rfl (by rw [kyX8_nextFault]; rfl) (kyX8_nextFault ▸ (mm_w_in (i := 851) (w := .methodLink R_law 85 yX8_nextFault) (by decide +kernel))) (kyX8_nextFault ▸ (mm_w_in (i := 852) (w := .instanceMethod yX8_nextFault) (by decide +kernel))) (kyX8_nextFault ▸ (mm_w_in (i := 853) (w := .selects RX8 yX8_nextFault yX8_nextFault) (by decide +kernel))) hP hD hS hl.1 (by rw [kfX8_nextFault]; decide) (by rw [kmX8_nextFault, klX8_nextFault]; decide) (Nat.le_of_ble_eq_true rfl) dL_law_669 ?_
  intro v2 M2 H2 locs2 hp2 hP hD hS
  obtain ⟨he, hI⟩ := hp2
  refine lv_icmp_eq (tgt := 907) hx hb dL_law_672 (by decide) (fun _ => kk M2 H2 locs2 hI hP hD hS) (fun hne => absurd (show v1 = v2 from he.symm) hne)
set_option maxHeartbeats 4000000 in
set_option maxRecDepth 100000 in
theorem lw_case_17 {p : Program} {l : Launch} {e : Env} {s : State} {m : MethodId} {below : List Frame} {meth : Method} {c : Code} {b L : Nat} {xs : Nat → Int32} {D : va_G} {ad : Nat → Nat} {cI cC : ClassId} {I : mm_M → Prop} (hL : L ≤ 3072) (C0 : lw_At p s m meth c b L xs) (hK : va_K D vwCl (mm_tys cI cC) s) (hX : mm_X ad (fun q : Nat => s.heap.size ≤ q) s s.heap) {M : mm_M} {H : Heap} {locs : List Loc} {ls : Array Slot} {i : Nat} (hi : i + 6 ≤ L) (hp : ∀ (a1 : Int32), lw_pair I M 79 136 [.inl a1]) (hP : va_P D vwCl (mm_world ad cI cC M) H) (hD : va_D (fun q : Nat => s.heap.size ≤ q) (mm_world ad cI cC M)) (hS : va_S (fun q : Nat => s.heap.size ≤ q) s.heap H locs) (hl : lv_has ls 4 [(0, .ref b), (1, .ref (ad 0)), (2, .ref (ad 30)), (3, .int (nI i))])
    (kk : ∀ (M' : mm_M) (H' : Heap) (locs' : List Loc), I M' → va_P D vwCl (mm_world ad cI cC M') H' → va_D (fun q : Nat => s.heap.size ≤ q) (mm_world ad cI cC M') → va_S (fun q : Nat => s.heap.size ≤ q) s.heap H' locs' → W p l e room_1 s m #[Value.ref b] below meth c H' locs' 38 8251 (lw_Z below #[Value.ref b] s) (F0 m 907 ls [])) : W p l e room_1 s m #[Value.ref b] below meth c H locs 38 8251 (lw_Z below #[Value.ref b] s) (F0 m 677 ls []) := by
  obtain ⟨hx, hb, hr, hml, hown, hts0, hXs, hbl, hlocks, hgv⟩ := id C0
  have hbA : ¬ (fun q : Nat => s.heap.size ≤ q) b := Nat.not_le.mpr hbl
  refine lv_aload_n hx hb dL_law_677 rfl (lv_at hl 1 rfl) ?_
  refine lv_aload_n hx hb dL_law_678 rfl (lv_at hl 0 rfl) ?_
  refine lv_iload_n hx hb dL_law_679 rfl (lv_at hl 3 rfl) ?_
  refine lv_iconst (v := nI 1) hx hb dL_law_680 (by decide +kernel) ?_
  refine lv_iadd hx hb dL_law_681 ?_
  refine va_sld hx hb hXs hbl hbA hS (lw_ix hi hL (by decide : 1 < 6)) dL_law_682 ?_
  refine W.eq (g2 := F0 m 683 ls (([.inl (xs (nI i + nI 1).toNatClampNeg)].map (mm_tv ad)).reverse ++ .ref (ad 0) :: [])) rfl ?_
  refine lw_call (k := 79) (o := 0) (ci := 6) C0 hK hX (by decide +kernel) (by rw [kmX7_beats]; exact Nat.le_of_ble_eq_true rfl) (by rw [kpX7_beats]; rfl) (hp (xs (nI i + nI 1).toNatClampNeg)) rfl (by rw [kyX7_beats]; rfl) (kyX7_beats ▸ (mm_w_in (i := 544) (w := .methodLink R_law 86 yX7_beats) (by decide +kernel))) (kyX7_beats ▸ (mm_w_in (i := 545) (w := .instanceMethod yX7_beats) (by decide +kernel))) (kyX7_beats ▸ (mm_w_in (i := 546) (w := .selects RX7 yX7_beats yX7_beats) (by decide +kernel))) hP hD hS hl.1 (by rw [kfX7_beats]; decide) (by rw [kmX7_beats, klX7_beats]; decide) (Nat.le_of_ble_eq_true rfl) dL_law_683 ?_
  intro v1 M1 H1 locs1 hp1 hP hD hS
  refine lv_aload_n hx hb dL_law_686 rfl (lv_at hl 2 rfl) ?_
  refine lv_aload_n hx hb dL_law_687 rfl (lv_at hl 0 rfl) ?_
  refine lv_iload_n hx hb dL_law_688 rfl (lv_at hl 3 rfl) ?_
  refine lv_iconst (v := nI 1) hx hb dL_law_689 (by decide +kernel) ?_
  refine lv_iadd hx hb dL_law_690 ?_
  refine va_sld hx hb hXs hbl hbA hS (lw_ix hi hL (by decide : 1 < 6)) dL_law_691 ?_
  refine W.eq (g2 := F0 m 692 ls (([.inl (xs (nI i + nI 1).toNatClampNeg)].map (mm_tv ad)).reverse ++ .ref (ad 30) :: [.int v1])) rfl ?_
  refine lw_call (k := 136) (o := 30) (ci := 7) C0 hK hX (by decide +kernel) (by rw [kmX8_beats]; exact Nat.le_of_ble_eq_true rfl) (by rw [kpX8_beats]; rfl) (wc_mono (Q' := fun r M2 => ∃ v : Int32, r = some v ∧ (v = v1 ∧ I M2)) hp1 (fun r M2 h => ⟨v1, h.1, rfl, h.2⟩)) rfl (by rw [kyX8_beats]; rfl) (kyX8_beats ▸ (mm_w_in (i := 855) (w := .methodLink R_law 89 yX8_beats) (by decide +kernel))) (kyX8_beats ▸ (mm_w_in (i := 856) (w := .instanceMethod yX8_beats) (by decide +kernel))) (kyX8_beats ▸ (mm_w_in (i := 857) (w := .selects RX8 yX8_beats yX8_beats) (by decide +kernel))) hP hD hS hl.1 (by rw [kfX8_beats]; decide) (by rw [kmX8_beats, klX8_beats]; decide) (Nat.le_of_ble_eq_true rfl) dL_law_692 ?_
  intro v2 M2 H2 locs2 hp2 hP hD hS
  obtain ⟨he, hI⟩ := hp2
  refine lv_icmp_eq (tgt := 907) hx hb dL_law_695 (by decide) (fun _ => kk M2 H2 locs2 hI hP hD hS) (fun hne => absurd (show v1 = v2 from he.symm) hne)
set_option maxHeartbeats 4000000 in
set_option maxRecDepth 100000 in
theorem lw_case_18 {p : Program} {l : Launch} {e : Env} {s : State} {m : MethodId} {below : List Frame} {meth : Method} {c : Code} {b L : Nat} {xs : Nat → Int32} {D : va_G} {ad : Nat → Nat} {cI cC : ClassId} {I : mm_M → Prop} (hL : L ≤ 3072) (C0 : lw_At p s m meth c b L xs) (hK : va_K D vwCl (mm_tys cI cC) s) (hX : mm_X ad (fun q : Nat => s.heap.size ≤ q) s s.heap) {M : mm_M} {H : Heap} {locs : List Loc} {ls : Array Slot} {i : Nat} (hi : i + 6 ≤ L) (hp : lw_pair I M 80 137 []) (hP : va_P D vwCl (mm_world ad cI cC M) H) (hD : va_D (fun q : Nat => s.heap.size ≤ q) (mm_world ad cI cC M)) (hS : va_S (fun q : Nat => s.heap.size ≤ q) s.heap H locs) (hl : lv_has ls 4 [(0, .ref b), (1, .ref (ad 0)), (2, .ref (ad 30)), (3, .int (nI i))])
    (kk : ∀ (M' : mm_M) (H' : Heap) (locs' : List Loc), I M' → va_P D vwCl (mm_world ad cI cC M') H' → va_D (fun q : Nat => s.heap.size ≤ q) (mm_world ad cI cC M') → va_S (fun q : Nat => s.heap.size ≤ q) s.heap H' locs' → W p l e room_1 s m #[Value.ref b] below meth c H' locs' 38 8251 (lw_Z below #[Value.ref b] s) (F0 m 907 ls [])) : W p l e room_1 s m #[Value.ref b] below meth c H locs 38 8251 (lw_Z below #[Value.ref b] s) (F0 m 700 ls []) := by
  obtain ⟨hx, hb, hr, hml, hown, hts0, hXs, hbl, hlocks, hgv⟩ := id C0
  have hbA : ¬ (fun q : Nat => s.heap.size ≤ q) b := Nat.not_le.mpr hbl
  refine lv_aload_n hx hb dL_law_700 rfl (lv_at hl 1 rfl) ?_
  refine W.eq (g2 := F0 m 701 ls (([].map (mm_tv ad)).reverse ++ .ref (ad 0) :: [])) rfl ?_
  refine lw_call (k := 80) (o := 0) (ci := 6) C0 hK hX (by decide +kernel) (by rw [kmX7_leastLeap]; exact Nat.le_of_ble_eq_true rfl) (by rw [kpX7_leastLeap]; rfl) hp rfl (by rw [kyX7_leastLeap]; rfl) (kyX7_leastLeap ▸ (mm_w_in (i := 568) (w := .methodLink R_law 90 yX7_leastLeap) (by decide +kernel))) (kyX7_leastLeap ▸ (mm_w_in (i := 569) (w := .instanceMethod yX7_leastLeap) (by decide +kernel))) (kyX7_leastLeap ▸ (mm_w_in (i := 570) (w := .selects RX7 yX7_leastLeap yX7_leastLeap) (by decide +kernel))) hP hD hS hl.1 (by rw [kfX7_leastLeap]; decide) (by rw [kmX7_leastLeap, klX7_leastLeap]; decide) (Nat.le_of_ble_eq_true rfl) dL_law_701 ?_
  intro v1 M1 H1 locs1 hp1 hP hD hS
  refine lv_aload_n hx hb dL_law_704 rfl (lv_at hl 2 rfl) ?_
  refine W.eq (g2 := F0 m 705 ls (([].map (mm_tv ad)).reverse ++ .ref (ad 30) :: [.int v1])) rfl ?_
  refine lw_call (k := 137) (o := 30) (ci := 7) C0 hK hX (by decide +kernel) (by rw [kmX8_leastLeap]; exact Nat.le_of_ble_eq_true rfl) (by rw [kpX8_leastLeap]; rfl) (wc_mono (Q' := fun r M2 => ∃ v : Int32, r = some v ∧ (v = v1 ∧ I M2)) hp1 (fun r M2 h => ⟨v1, h.1, rfl, h.2⟩)) rfl (by rw [kyX8_leastLeap]; rfl) (kyX8_leastLeap ▸ (mm_w_in (i := 859) (w := .methodLink R_law 93 yX8_leastLeap) (by decide +kernel))) (kyX8_leastLeap ▸ (mm_w_in (i := 860) (w := .instanceMethod yX8_leastLeap) (by decide +kernel))) (kyX8_leastLeap ▸ (mm_w_in (i := 861) (w := .selects RX8 yX8_leastLeap yX8_leastLeap) (by decide +kernel))) hP hD hS hl.1 (by rw [kfX8_leastLeap]; decide) (by rw [kmX8_leastLeap, klX8_leastLeap]; decide) (Nat.le_of_ble_eq_true rfl) dL_law_705 ?_
  intro v2 M2 H2 locs2 hp2 hP hD hS
  obtain ⟨he, hI⟩ := hp2
  refine lv_icmp_eq (tgt := 907) hx hb dL_law_708 (by decide) (fun _ => kk M2 H2 locs2 hI hP hD hS) (fun hne => absurd (show v1 = v2 from he.symm) hne)
set_option maxHeartbeats 4000000 in
set_option maxRecDepth 100000 in
theorem lw_case_19 {p : Program} {l : Launch} {e : Env} {s : State} {m : MethodId} {below : List Frame} {meth : Method} {c : Code} {b L : Nat} {xs : Nat → Int32} {D : va_G} {ad : Nat → Nat} {cI cC : ClassId} {I : mm_M → Prop} (hL : L ≤ 3072) (C0 : lw_At p s m meth c b L xs) (hK : va_K D vwCl (mm_tys cI cC) s) (hX : mm_X ad (fun q : Nat => s.heap.size ≤ q) s s.heap) {M : mm_M} {H : Heap} {locs : List Loc} {ls : Array Slot} {i : Nat} (hi : i + 6 ≤ L) (hp : ∀ (a1 : Int32) (a2 : Int32), lw_pair I M 81 138 [.inl a1, .inl a2]) (hP : va_P D vwCl (mm_world ad cI cC M) H) (hD : va_D (fun q : Nat => s.heap.size ≤ q) (mm_world ad cI cC M)) (hS : va_S (fun q : Nat => s.heap.size ≤ q) s.heap H locs) (hl : lv_has ls 4 [(0, .ref b), (1, .ref (ad 0)), (2, .ref (ad 30)), (3, .int (nI i))])
    (kk : ∀ (M' : mm_M) (H' : Heap) (locs' : List Loc), I M' → va_P D vwCl (mm_world ad cI cC M') H' → va_D (fun q : Nat => s.heap.size ≤ q) (mm_world ad cI cC M') → va_S (fun q : Nat => s.heap.size ≤ q) s.heap H' locs' → W p l e room_1 s m #[Value.ref b] below meth c H' locs' 38 8251 (lw_Z below #[Value.ref b] s) (F0 m 907 ls [])) : W p l e room_1 s m #[Value.ref b] below meth c H locs 38 8251 (lw_Z below #[Value.ref b] s) (F0 m 713 ls []) := by
  obtain ⟨hx, hb, hr, hml, hown, hts0, hXs, hbl, hlocks, hgv⟩ := id C0
  have hbA : ¬ (fun q : Nat => s.heap.size ≤ q) b := Nat.not_le.mpr hbl
  refine lv_aload_n hx hb dL_law_713 rfl (lv_at hl 1 rfl) ?_
  refine lv_aload_n hx hb dL_law_714 rfl (lv_at hl 0 rfl) ?_
  refine lv_iload_n hx hb dL_law_715 rfl (lv_at hl 3 rfl) ?_
  refine lv_iconst (v := nI 1) hx hb dL_law_716 (by decide +kernel) ?_
  refine lv_iadd hx hb dL_law_717 ?_
  refine va_sld hx hb hXs hbl hbA hS (lw_ix hi hL (by decide : 1 < 6)) dL_law_718 ?_
  refine lv_aload_n hx hb dL_law_719 rfl (lv_at hl 0 rfl) ?_
  refine lv_iload_n hx hb dL_law_720 rfl (lv_at hl 3 rfl) ?_
  refine lv_iconst (v := nI 2) hx hb dL_law_721 (by decide +kernel) ?_
  refine lv_iadd hx hb dL_law_722 ?_
  refine va_sld hx hb hXs hbl hbA hS (lw_ix hi hL (by decide : 2 < 6)) dL_law_723 ?_
  refine W.eq (g2 := F0 m 724 ls (([.inl (xs (nI i + nI 1).toNatClampNeg), .inl (xs (nI i + nI 2).toNatClampNeg)].map (mm_tv ad)).reverse ++ .ref (ad 0) :: [])) rfl ?_
  refine lw_call (k := 81) (o := 0) (ci := 6) C0 hK hX (by decide +kernel) (by rw [kmX7_covered]; exact Nat.le_of_ble_eq_true rfl) (by rw [kpX7_covered]; rfl) (hp (xs (nI i + nI 1).toNatClampNeg) (xs (nI i + nI 2).toNatClampNeg)) rfl (by rw [kyX7_covered]; rfl) (kyX7_covered ▸ (mm_w_in (i := 576) (w := .methodLink R_law 94 yX7_covered) (by decide +kernel))) (kyX7_covered ▸ (mm_w_in (i := 577) (w := .instanceMethod yX7_covered) (by decide +kernel))) (kyX7_covered ▸ (mm_w_in (i := 578) (w := .selects RX7 yX7_covered yX7_covered) (by decide +kernel))) hP hD hS hl.1 (by rw [kfX7_covered]; decide) (by rw [kmX7_covered, klX7_covered]; decide) (Nat.le_of_ble_eq_true rfl) dL_law_724 ?_
  intro v1 M1 H1 locs1 hp1 hP hD hS
  refine lv_aload_n hx hb dL_law_727 rfl (lv_at hl 2 rfl) ?_
  refine lv_aload_n hx hb dL_law_728 rfl (lv_at hl 0 rfl) ?_
  refine lv_iload_n hx hb dL_law_729 rfl (lv_at hl 3 rfl) ?_
  refine lv_iconst (v := nI 1) hx hb dL_law_730 (by decide +kernel) ?_
  refine lv_iadd hx hb dL_law_731 ?_
  refine va_sld hx hb hXs hbl hbA hS (lw_ix hi hL (by decide : 1 < 6)) dL_law_732 ?_
  refine lv_aload_n hx hb dL_law_733 rfl (lv_at hl 0 rfl) ?_
  refine lv_iload_n hx hb dL_law_734 rfl (lv_at hl 3 rfl) ?_
  refine lv_iconst (v := nI 2) hx hb dL_law_735 (by decide +kernel) ?_
  refine lv_iadd hx hb dL_law_736 ?_
  refine va_sld hx hb hXs hbl hbA hS (lw_ix hi hL (by decide : 2 < 6)) dL_law_737 ?_
  refine W.eq (g2 := F0 m 738 ls (([.inl (xs (nI i + nI 1).toNatClampNeg), .inl (xs (nI i + nI 2).toNatClampNeg)].map (mm_tv ad)).reverse ++ .ref (ad 30) :: [.int v1])) rfl ?_
  refine lw_call (k := 138) (o := 30) (ci := 7) C0 hK hX (by decide +kernel) (by rw [kmX8_covered]; exact Nat.le_of_ble_eq_true rfl) (by rw [kpX8_covered]; rfl) (wc_mono (Q' := fun r M2 => ∃ v : Int32, r = some v ∧ (v = v1 ∧ I M2)) hp1 (fun r M2 h => ⟨v1, h.1, rfl, h.2⟩)) rfl (by rw [kyX8_covered]; rfl) (kyX8_covered ▸ (mm_w_in (i := 864) (w := .methodLink R_law 97 yX8_covered) (by decide +kernel))) (kyX8_covered ▸ (mm_w_in (i := 865) (w := .instanceMethod yX8_covered) (by decide +kernel))) (kyX8_covered ▸ (mm_w_in (i := 866) (w := .selects RX8 yX8_covered yX8_covered) (by decide +kernel))) hP hD hS hl.1 (by rw [kfX8_covered]; decide) (by rw [kmX8_covered, klX8_covered]; decide) (Nat.le_of_ble_eq_true rfl) dL_law_738 ?_
  intro v2 M2 H2 locs2 hp2 hP hD hS
  obtain ⟨he, hI⟩ := hp2
  refine lv_icmp_eq (tgt := 907) hx hb dL_law_741 (by decide) (fun _ => kk M2 H2 locs2 hI hP hD hS) (fun hne => absurd (show v1 = v2 from he.symm) hne)
set_option maxHeartbeats 4000000 in
set_option maxRecDepth 100000 in
theorem lw_case_20 {p : Program} {l : Launch} {e : Env} {s : State} {m : MethodId} {below : List Frame} {meth : Method} {c : Code} {b L : Nat} {xs : Nat → Int32} {D : va_G} {ad : Nat → Nat} {cI cC : ClassId} {I : mm_M → Prop} (hL : L ≤ 3072) (C0 : lw_At p s m meth c b L xs) (hK : va_K D vwCl (mm_tys cI cC) s) (hX : mm_X ad (fun q : Nat => s.heap.size ≤ q) s s.heap) {M : mm_M} {H : Heap} {locs : List Loc} {ls : Array Slot} {i : Nat} (hi : i + 6 ≤ L) (hp : ∀ (a1 : Int32) (a2 : Int32), lw_pair I M 82 143 [.inl a1, .inl a2]) (hP : va_P D vwCl (mm_world ad cI cC M) H) (hD : va_D (fun q : Nat => s.heap.size ≤ q) (mm_world ad cI cC M)) (hS : va_S (fun q : Nat => s.heap.size ≤ q) s.heap H locs) (hl : lv_has ls 4 [(0, .ref b), (1, .ref (ad 0)), (2, .ref (ad 30)), (3, .int (nI i))])
    (kk : ∀ (M' : mm_M) (H' : Heap) (locs' : List Loc), I M' → va_P D vwCl (mm_world ad cI cC M') H' → va_D (fun q : Nat => s.heap.size ≤ q) (mm_world ad cI cC M') → va_S (fun q : Nat => s.heap.size ≤ q) s.heap H' locs' → W p l e room_1 s m #[Value.ref b] below meth c H' locs' 38 8251 (lw_Z below #[Value.ref b] s) (F0 m 907 ls [])) : W p l e room_1 s m #[Value.ref b] below meth c H locs 38 8251 (lw_Z below #[Value.ref b] s) (F0 m 746 ls []) := by
  obtain ⟨hx, hb, hr, hml, hown, hts0, hXs, hbl, hlocks, hgv⟩ := id C0
  have hbA : ¬ (fun q : Nat => s.heap.size ≤ q) b := Nat.not_le.mpr hbl
  refine lv_aload_n hx hb dL_law_746 rfl (lv_at hl 1 rfl) ?_
  refine lv_aload_n hx hb dL_law_747 rfl (lv_at hl 0 rfl) ?_
  refine lv_iload_n hx hb dL_law_748 rfl (lv_at hl 3 rfl) ?_
  refine lv_iconst (v := nI 1) hx hb dL_law_749 (by decide +kernel) ?_
  refine lv_iadd hx hb dL_law_750 ?_
  refine va_sld hx hb hXs hbl hbA hS (lw_ix hi hL (by decide : 1 < 6)) dL_law_751 ?_
  refine lv_aload_n hx hb dL_law_752 rfl (lv_at hl 0 rfl) ?_
  refine lv_iload_n hx hb dL_law_753 rfl (lv_at hl 3 rfl) ?_
  refine lv_iconst (v := nI 2) hx hb dL_law_754 (by decide +kernel) ?_
  refine lv_iadd hx hb dL_law_755 ?_
  refine va_sld hx hb hXs hbl hbA hS (lw_ix hi hL (by decide : 2 < 6)) dL_law_756 ?_
  refine W.eq (g2 := F0 m 757 ls (([.inl (xs (nI i + nI 1).toNatClampNeg), .inl (xs (nI i + nI 2).toNatClampNeg)].map (mm_tv ad)).reverse ++ .ref (ad 0) :: [])) rfl ?_
  refine lw_call (k := 82) (o := 0) (ci := 6) C0 hK hX (by decide +kernel) (by rw [kmX7_floor]; exact Nat.le_of_ble_eq_true rfl) (by rw [kpX7_floor]; rfl) (hp (xs (nI i + nI 1).toNatClampNeg) (xs (nI i + nI 2).toNatClampNeg)) rfl (by rw [kyX7_floor]; rfl) (kyX7_floor ▸ (mm_w_in (i := 581) (w := .methodLink R_law 98 yX7_floor) (by decide +kernel))) (kyX7_floor ▸ (mm_w_in (i := 582) (w := .instanceMethod yX7_floor) (by decide +kernel))) (kyX7_floor ▸ (mm_w_in (i := 583) (w := .selects RX7 yX7_floor yX7_floor) (by decide +kernel))) hP hD hS hl.1 (by rw [kfX7_floor]; decide) (by rw [kmX7_floor, klX7_floor]; decide) (Nat.le_of_ble_eq_true rfl) dL_law_757 ?_
  intro v1 M1 H1 locs1 hp1 hP hD hS
  refine lv_aload_n hx hb dL_law_760 rfl (lv_at hl 2 rfl) ?_
  refine lv_aload_n hx hb dL_law_761 rfl (lv_at hl 0 rfl) ?_
  refine lv_iload_n hx hb dL_law_762 rfl (lv_at hl 3 rfl) ?_
  refine lv_iconst (v := nI 1) hx hb dL_law_763 (by decide +kernel) ?_
  refine lv_iadd hx hb dL_law_764 ?_
  refine va_sld hx hb hXs hbl hbA hS (lw_ix hi hL (by decide : 1 < 6)) dL_law_765 ?_
  refine lv_aload_n hx hb dL_law_766 rfl (lv_at hl 0 rfl) ?_
  refine lv_iload_n hx hb dL_law_767 rfl (lv_at hl 3 rfl) ?_
  refine lv_iconst (v := nI 2) hx hb dL_law_768 (by decide +kernel) ?_
  refine lv_iadd hx hb dL_law_769 ?_
  refine va_sld hx hb hXs hbl hbA hS (lw_ix hi hL (by decide : 2 < 6)) dL_law_770 ?_
  refine W.eq (g2 := F0 m 771 ls (([.inl (xs (nI i + nI 1).toNatClampNeg), .inl (xs (nI i + nI 2).toNatClampNeg)].map (mm_tv ad)).reverse ++ .ref (ad 30) :: [.int v1])) rfl ?_
  refine lw_call (k := 143) (o := 30) (ci := 7) C0 hK hX (by decide +kernel) (by rw [kmX8_floor]; exact Nat.le_of_ble_eq_true rfl) (by rw [kpX8_floor]; rfl) (wc_mono (Q' := fun r M2 => ∃ v : Int32, r = some v ∧ (v = v1 ∧ I M2)) hp1 (fun r M2 h => ⟨v1, h.1, rfl, h.2⟩)) rfl (by rw [kyX8_floor]; rfl) (kyX8_floor ▸ (mm_w_in (i := 868) (w := .methodLink R_law 101 yX8_floor) (by decide +kernel))) (kyX8_floor ▸ (mm_w_in (i := 869) (w := .instanceMethod yX8_floor) (by decide +kernel))) (kyX8_floor ▸ (mm_w_in (i := 870) (w := .selects RX8 yX8_floor yX8_floor) (by decide +kernel))) hP hD hS hl.1 (by rw [kfX8_floor]; decide) (by rw [kmX8_floor, klX8_floor]; decide) (Nat.le_of_ble_eq_true rfl) dL_law_771 ?_
  intro v2 M2 H2 locs2 hp2 hP hD hS
  obtain ⟨he, hI⟩ := hp2
  refine lv_icmp_eq (tgt := 907) hx hb dL_law_774 (by decide) (fun _ => kk M2 H2 locs2 hI hP hD hS) (fun hne => absurd (show v1 = v2 from he.symm) hne)
set_option maxHeartbeats 4000000 in
set_option maxRecDepth 100000 in
theorem lw_case_21 {p : Program} {l : Launch} {e : Env} {s : State} {m : MethodId} {below : List Frame} {meth : Method} {c : Code} {b L : Nat} {xs : Nat → Int32} {D : va_G} {ad : Nat → Nat} {cI cC : ClassId} {I : mm_M → Prop} (hL : L ≤ 3072) (C0 : lw_At p s m meth c b L xs) (hK : va_K D vwCl (mm_tys cI cC) s) (hX : mm_X ad (fun q : Nat => s.heap.size ≤ q) s s.heap) {M : mm_M} {H : Heap} {locs : List Loc} {ls : Array Slot} {i : Nat} (hi : i + 6 ≤ L) (hp : lw_pair I M 83 144 []) (hP : va_P D vwCl (mm_world ad cI cC M) H) (hD : va_D (fun q : Nat => s.heap.size ≤ q) (mm_world ad cI cC M)) (hS : va_S (fun q : Nat => s.heap.size ≤ q) s.heap H locs) (hl : lv_has ls 4 [(0, .ref b), (1, .ref (ad 0)), (2, .ref (ad 30)), (3, .int (nI i))])
    (kk : ∀ (M' : mm_M) (H' : Heap) (locs' : List Loc), I M' → va_P D vwCl (mm_world ad cI cC M') H' → va_D (fun q : Nat => s.heap.size ≤ q) (mm_world ad cI cC M') → va_S (fun q : Nat => s.heap.size ≤ q) s.heap H' locs' → W p l e room_1 s m #[Value.ref b] below meth c H' locs' 38 8251 (lw_Z below #[Value.ref b] s) (F0 m 907 ls [])) : W p l e room_1 s m #[Value.ref b] below meth c H locs 38 8251 (lw_Z below #[Value.ref b] s) (F0 m 779 ls []) := by
  obtain ⟨hx, hb, hr, hml, hown, hts0, hXs, hbl, hlocks, hgv⟩ := id C0
  have hbA : ¬ (fun q : Nat => s.heap.size ≤ q) b := Nat.not_le.mpr hbl
  refine lv_aload_n hx hb dL_law_779 rfl (lv_at hl 1 rfl) ?_
  refine W.eq (g2 := F0 m 780 ls (([].map (mm_tv ad)).reverse ++ .ref (ad 0) :: [])) rfl ?_
  refine lw_call (k := 83) (o := 0) (ci := 6) C0 hK hX (by decide +kernel) (by rw [kmX7_home]; exact Nat.le_of_ble_eq_true rfl) (by rw [kpX7_home]; rfl) hp rfl (by rw [kyX7_home]; rfl) (kyX7_home ▸ (mm_w_in (i := 616) (w := .methodLink R_law 102 yX7_home) (by decide +kernel))) (kyX7_home ▸ (mm_w_in (i := 617) (w := .instanceMethod yX7_home) (by decide +kernel))) (kyX7_home ▸ (mm_w_in (i := 618) (w := .selects RX7 yX7_home yX7_home) (by decide +kernel))) hP hD hS hl.1 (by rw [kfX7_home]; decide) (by rw [kmX7_home, klX7_home]; decide) (Nat.le_of_ble_eq_true rfl) dL_law_780 ?_
  intro v1 M1 H1 locs1 hp1 hP hD hS
  refine lv_aload_n hx hb dL_law_783 rfl (lv_at hl 2 rfl) ?_
  refine W.eq (g2 := F0 m 784 ls (([].map (mm_tv ad)).reverse ++ .ref (ad 30) :: [.int v1])) rfl ?_
  refine lw_call (k := 144) (o := 30) (ci := 7) C0 hK hX (by decide +kernel) (by rw [kmX8_home]; exact Nat.le_of_ble_eq_true rfl) (by rw [kpX8_home]; rfl) (wc_mono (Q' := fun r M2 => ∃ v : Int32, r = some v ∧ (v = v1 ∧ I M2)) hp1 (fun r M2 h => ⟨v1, h.1, rfl, h.2⟩)) rfl (by rw [kyX8_home]; rfl) (kyX8_home ▸ (mm_w_in (i := 887) (w := .methodLink R_law 105 yX8_home) (by decide +kernel))) (kyX8_home ▸ (mm_w_in (i := 888) (w := .instanceMethod yX8_home) (by decide +kernel))) (kyX8_home ▸ (mm_w_in (i := 889) (w := .selects RX8 yX8_home yX8_home) (by decide +kernel))) hP hD hS hl.1 (by rw [kfX8_home]; decide) (by rw [kmX8_home, klX8_home]; decide) (Nat.le_of_ble_eq_true rfl) dL_law_784 ?_
  intro v2 M2 H2 locs2 hp2 hP hD hS
  obtain ⟨he, hI⟩ := hp2
  refine lv_icmp_eq (tgt := 907) hx hb dL_law_787 (by decide) (fun _ => kk M2 H2 locs2 hI hP hD hS) (fun hne => absurd (show v1 = v2 from he.symm) hne)
set_option maxHeartbeats 4000000 in
set_option maxRecDepth 100000 in
theorem lw_case_22 {p : Program} {l : Launch} {e : Env} {s : State} {m : MethodId} {below : List Frame} {meth : Method} {c : Code} {b L : Nat} {xs : Nat → Int32} {D : va_G} {ad : Nat → Nat} {cI cC : ClassId} {I : mm_M → Prop} (hL : L ≤ 3072) (C0 : lw_At p s m meth c b L xs) (hK : va_K D vwCl (mm_tys cI cC) s) (hX : mm_X ad (fun q : Nat => s.heap.size ≤ q) s s.heap) {M : mm_M} {H : Heap} {locs : List Loc} {ls : Array Slot} {i : Nat} (hi : i + 6 ≤ L) (hp : lw_pair I M 84 146 []) (hP : va_P D vwCl (mm_world ad cI cC M) H) (hD : va_D (fun q : Nat => s.heap.size ≤ q) (mm_world ad cI cC M)) (hS : va_S (fun q : Nat => s.heap.size ≤ q) s.heap H locs) (hl : lv_has ls 4 [(0, .ref b), (1, .ref (ad 0)), (2, .ref (ad 30)), (3, .int (nI i))])
    (kk : ∀ (M' : mm_M) (H' : Heap) (locs' : List Loc), I M' → va_P D vwCl (mm_world ad cI cC M') H' → va_D (fun q : Nat => s.heap.size ≤ q) (mm_world ad cI cC M') → va_S (fun q : Nat => s.heap.size ≤ q) s.heap H' locs' → W p l e room_1 s m #[Value.ref b] below meth c H' locs' 38 8251 (lw_Z below #[Value.ref b] s) (F0 m 907 ls [])) : W p l e room_1 s m #[Value.ref b] below meth c H locs 38 8251 (lw_Z below #[Value.ref b] s) (F0 m 792 ls []) := by
  obtain ⟨hx, hb, hr, hml, hown, hts0, hXs, hbl, hlocks, hgv⟩ := id C0
  have hbA : ¬ (fun q : Nat => s.heap.size ≤ q) b := Nat.not_le.mpr hbl
  refine lv_aload_n hx hb dL_law_792 rfl (lv_at hl 1 rfl) ?_
  refine W.eq (g2 := F0 m 793 ls (([].map (mm_tv ad)).reverse ++ .ref (ad 0) :: [])) rfl ?_
  refine lw_call (k := 84) (o := 0) (ci := 6) C0 hK hX (by decide +kernel) (by rw [kmX7_farthest]; exact Nat.le_of_ble_eq_true rfl) (by rw [kpX7_farthest]; rfl) hp rfl (by rw [kyX7_farthest]; rfl) (kyX7_farthest ▸ (mm_w_in (i := 628) (w := .methodLink R_law 106 yX7_farthest) (by decide +kernel))) (kyX7_farthest ▸ (mm_w_in (i := 629) (w := .instanceMethod yX7_farthest) (by decide +kernel))) (kyX7_farthest ▸ (mm_w_in (i := 630) (w := .selects RX7 yX7_farthest yX7_farthest) (by decide +kernel))) hP hD hS hl.1 (by rw [kfX7_farthest]; decide) (by rw [kmX7_farthest, klX7_farthest]; decide) (Nat.le_of_ble_eq_true rfl) dL_law_793 ?_
  intro v1 M1 H1 locs1 hp1 hP hD hS
  refine lv_aload_n hx hb dL_law_796 rfl (lv_at hl 2 rfl) ?_
  refine W.eq (g2 := F0 m 797 ls (([].map (mm_tv ad)).reverse ++ .ref (ad 30) :: [.int v1])) rfl ?_
  refine lw_call (k := 146) (o := 30) (ci := 7) C0 hK hX (by decide +kernel) (by rw [kmX8_farthest]; exact Nat.le_of_ble_eq_true rfl) (by rw [kpX8_farthest]; rfl) (wc_mono (Q' := fun r M2 => ∃ v : Int32, r = some v ∧ (v = v1 ∧ I M2)) hp1 (fun r M2 h => ⟨v1, h.1, rfl, h.2⟩)) rfl (by rw [kyX8_farthest]; rfl) (kyX8_farthest ▸ (mm_w_in (i := 891) (w := .methodLink R_law 109 yX8_farthest) (by decide +kernel))) (kyX8_farthest ▸ (mm_w_in (i := 892) (w := .instanceMethod yX8_farthest) (by decide +kernel))) (kyX8_farthest ▸ (mm_w_in (i := 893) (w := .selects RX8 yX8_farthest yX8_farthest) (by decide +kernel))) hP hD hS hl.1 (by rw [kfX8_farthest]; decide) (by rw [kmX8_farthest, klX8_farthest]; decide) (Nat.le_of_ble_eq_true rfl) dL_law_797 ?_
  intro v2 M2 H2 locs2 hp2 hP hD hS
  obtain ⟨he, hI⟩ := hp2
  refine lv_icmp_eq (tgt := 907) hx hb dL_law_800 (by decide) (fun _ => kk M2 H2 locs2 hI hP hD hS) (fun hne => absurd (show v1 = v2 from he.symm) hne)
set_option maxHeartbeats 4000000 in
set_option maxRecDepth 100000 in
theorem lw_case_23 {p : Program} {l : Launch} {e : Env} {s : State} {m : MethodId} {below : List Frame} {meth : Method} {c : Code} {b L : Nat} {xs : Nat → Int32} {D : va_G} {ad : Nat → Nat} {cI cC : ClassId} {I : mm_M → Prop} (hL : L ≤ 3072) (C0 : lw_At p s m meth c b L xs) (hK : va_K D vwCl (mm_tys cI cC) s) (hX : mm_X ad (fun q : Nat => s.heap.size ≤ q) s s.heap) {M : mm_M} {H : Heap} {locs : List Loc} {ls : Array Slot} {i : Nat} (hi : i + 6 ≤ L) (hp : ∀ (a1 : Int32) (a2 : Int32) (a3 : Int32) (a4 : Int32), lw_pair I M 85 148 [.inl a1, .inl a2, .inl a3, .inl a4]) (hP : va_P D vwCl (mm_world ad cI cC M) H) (hD : va_D (fun q : Nat => s.heap.size ≤ q) (mm_world ad cI cC M)) (hS : va_S (fun q : Nat => s.heap.size ≤ q) s.heap H locs) (hl : lv_has ls 4 [(0, .ref b), (1, .ref (ad 0)), (2, .ref (ad 30)), (3, .int (nI i))])
    (kk : ∀ (M' : mm_M) (H' : Heap) (locs' : List Loc), I M' → va_P D vwCl (mm_world ad cI cC M') H' → va_D (fun q : Nat => s.heap.size ≤ q) (mm_world ad cI cC M') → va_S (fun q : Nat => s.heap.size ≤ q) s.heap H' locs' → W p l e room_1 s m #[Value.ref b] below meth c H' locs' 38 8251 (lw_Z below #[Value.ref b] s) (F0 m 907 ls [])) : W p l e room_1 s m #[Value.ref b] below meth c H locs 38 8251 (lw_Z below #[Value.ref b] s) (F0 m 805 ls []) := by
  obtain ⟨hx, hb, hr, hml, hown, hts0, hXs, hbl, hlocks, hgv⟩ := id C0
  have hbA : ¬ (fun q : Nat => s.heap.size ≤ q) b := Nat.not_le.mpr hbl
  refine lv_aload_n hx hb dL_law_805 rfl (lv_at hl 1 rfl) ?_
  refine lv_aload_n hx hb dL_law_806 rfl (lv_at hl 0 rfl) ?_
  refine lv_iload_n hx hb dL_law_807 rfl (lv_at hl 3 rfl) ?_
  refine lv_iconst (v := nI 1) hx hb dL_law_808 (by decide +kernel) ?_
  refine lv_iadd hx hb dL_law_809 ?_
  refine va_sld hx hb hXs hbl hbA hS (lw_ix hi hL (by decide : 1 < 6)) dL_law_810 ?_
  refine lv_aload_n hx hb dL_law_811 rfl (lv_at hl 0 rfl) ?_
  refine lv_iload_n hx hb dL_law_812 rfl (lv_at hl 3 rfl) ?_
  refine lv_iconst (v := nI 2) hx hb dL_law_813 (by decide +kernel) ?_
  refine lv_iadd hx hb dL_law_814 ?_
  refine va_sld hx hb hXs hbl hbA hS (lw_ix hi hL (by decide : 2 < 6)) dL_law_815 ?_
  refine lv_aload_n hx hb dL_law_816 rfl (lv_at hl 0 rfl) ?_
  refine lv_iload_n hx hb dL_law_817 rfl (lv_at hl 3 rfl) ?_
  refine lv_iconst (v := nI 3) hx hb dL_law_818 (by decide +kernel) ?_
  refine lv_iadd hx hb dL_law_819 ?_
  refine va_sld hx hb hXs hbl hbA hS (lw_ix hi hL (by decide : 3 < 6)) dL_law_820 ?_
  refine lv_aload_n hx hb dL_law_821 rfl (lv_at hl 0 rfl) ?_
  refine lv_iload_n hx hb dL_law_822 rfl (lv_at hl 3 rfl) ?_
  refine lv_iconst (v := nI 4) hx hb dL_law_823 (by decide +kernel) ?_
  refine lv_iadd hx hb dL_law_824 ?_
  refine va_sld hx hb hXs hbl hbA hS (lw_ix hi hL (by decide : 4 < 6)) dL_law_825 ?_
  refine W.eq (g2 := F0 m 826 ls (([.inl (xs (nI i + nI 1).toNatClampNeg), .inl (xs (nI i + nI 2).toNatClampNeg), .inl (xs (nI i + nI 3).toNatClampNeg), .inl (xs (nI i + nI 4).toNatClampNeg)].map (mm_tv ad)).reverse ++ .ref (ad 0) :: [])) rfl ?_
  refine lw_call (k := 85) (o := 0) (ci := 6) C0 hK hX (by decide +kernel) (by rw [kmX7_alike]; exact Nat.le_of_ble_eq_true rfl) (by rw [kpX7_alike]; rfl) (hp (xs (nI i + nI 1).toNatClampNeg) (xs (nI i + nI 2).toNatClampNeg) (xs (nI i + nI 3).toNatClampNeg) (xs (nI i + nI 4).toNatClampNeg)) rfl (by rw [kyX7_alike]; rfl) (kyX7_alike ▸ (mm_w_in (i := 633) (w := .methodLink R_law 110 yX7_alike) (by decide +kernel))) (kyX7_alike ▸ (mm_w_in (i := 634) (w := .instanceMethod yX7_alike) (by decide +kernel))) (kyX7_alike ▸ (mm_w_in (i := 635) (w := .selects RX7 yX7_alike yX7_alike) (by decide +kernel))) hP hD hS hl.1 (by rw [kfX7_alike]; decide) (by rw [kmX7_alike, klX7_alike]; decide) (Nat.le_of_ble_eq_true rfl) dL_law_826 ?_
  intro v1 M1 H1 locs1 hp1 hP hD hS
  refine lv_aload_n hx hb dL_law_829 rfl (lv_at hl 2 rfl) ?_
  refine lv_aload_n hx hb dL_law_830 rfl (lv_at hl 0 rfl) ?_
  refine lv_iload_n hx hb dL_law_831 rfl (lv_at hl 3 rfl) ?_
  refine lv_iconst (v := nI 1) hx hb dL_law_832 (by decide +kernel) ?_
  refine lv_iadd hx hb dL_law_833 ?_
  refine va_sld hx hb hXs hbl hbA hS (lw_ix hi hL (by decide : 1 < 6)) dL_law_834 ?_
  refine lv_aload_n hx hb dL_law_835 rfl (lv_at hl 0 rfl) ?_
  refine lv_iload_n hx hb dL_law_836 rfl (lv_at hl 3 rfl) ?_
  refine lv_iconst (v := nI 2) hx hb dL_law_837 (by decide +kernel) ?_
  refine lv_iadd hx hb dL_law_838 ?_
  refine va_sld hx hb hXs hbl hbA hS (lw_ix hi hL (by decide : 2 < 6)) dL_law_839 ?_
  refine lv_aload_n hx hb dL_law_840 rfl (lv_at hl 0 rfl) ?_
  refine lv_iload_n hx hb dL_law_841 rfl (lv_at hl 3 rfl) ?_
  refine lv_iconst (v := nI 3) hx hb dL_law_842 (by decide +kernel) ?_
  refine lv_iadd hx hb dL_law_843 ?_
  refine va_sld hx hb hXs hbl hbA hS (lw_ix hi hL (by decide : 3 < 6)) dL_law_844 ?_
  refine lv_aload_n hx hb dL_law_845 rfl (lv_at hl 0 rfl) ?_
  refine lv_iload_n hx hb dL_law_846 rfl (lv_at hl 3 rfl) ?_
  refine lv_iconst (v := nI 4) hx hb dL_law_847 (by decide +kernel) ?_
  refine lv_iadd hx hb dL_law_848 ?_
  refine va_sld hx hb hXs hbl hbA hS (lw_ix hi hL (by decide : 4 < 6)) dL_law_849 ?_
  refine W.eq (g2 := F0 m 850 ls (([.inl (xs (nI i + nI 1).toNatClampNeg), .inl (xs (nI i + nI 2).toNatClampNeg), .inl (xs (nI i + nI 3).toNatClampNeg), .inl (xs (nI i + nI 4).toNatClampNeg)].map (mm_tv ad)).reverse ++ .ref (ad 30) :: [.int v1])) rfl ?_
  refine lw_call (k := 148) (o := 30) (ci := 7) C0 hK hX (by decide +kernel) (by rw [kmX8_alike]; exact Nat.le_of_ble_eq_true rfl) (by rw [kpX8_alike]; rfl) (wc_mono (Q' := fun r M2 => ∃ v : Int32, r = some v ∧ (v = v1 ∧ I M2)) hp1 (fun r M2 h => ⟨v1, h.1, rfl, h.2⟩)) rfl (by rw [kyX8_alike]; rfl) (kyX8_alike ▸ (mm_w_in (i := 898) (w := .methodLink R_law 114 yX8_alike) (by decide +kernel))) (kyX8_alike ▸ (mm_w_in (i := 899) (w := .instanceMethod yX8_alike) (by decide +kernel))) (kyX8_alike ▸ (mm_w_in (i := 900) (w := .selects RX8 yX8_alike yX8_alike) (by decide +kernel))) hP hD hS hl.1 (by rw [kfX8_alike]; decide) (by rw [kmX8_alike, klX8_alike]; decide) (Nat.le_of_ble_eq_true rfl) dL_law_850 ?_
  intro v2 M2 H2 locs2 hp2 hP hD hS
  obtain ⟨he, hI⟩ := hp2
  refine lv_icmp_eq (tgt := 907) hx hb dL_law_853 (by decide) (fun _ => kk M2 H2 locs2 hI hP hD hS) (fun hne => absurd (show v1 = v2 from he.symm) hne)
set_option maxHeartbeats 4000000 in
set_option maxRecDepth 100000 in
theorem lw_case_24 {p : Program} {l : Launch} {e : Env} {s : State} {m : MethodId} {below : List Frame} {meth : Method} {c : Code} {b L : Nat} {xs : Nat → Int32} {D : va_G} {ad : Nat → Nat} {cI cC : ClassId} {I : mm_M → Prop} (hL : L ≤ 3072) (C0 : lw_At p s m meth c b L xs) (hK : va_K D vwCl (mm_tys cI cC) s) (hX : mm_X ad (fun q : Nat => s.heap.size ≤ q) s s.heap) {M : mm_M} {H : Heap} {locs : List Loc} {ls : Array Slot} {i : Nat} (hi : i + 6 ≤ L) (hp : ∀ (a1 : Int32), lw_pair I M 86 149 [.inl a1]) (hP : va_P D vwCl (mm_world ad cI cC M) H) (hD : va_D (fun q : Nat => s.heap.size ≤ q) (mm_world ad cI cC M)) (hS : va_S (fun q : Nat => s.heap.size ≤ q) s.heap H locs) (hl : lv_has ls 4 [(0, .ref b), (1, .ref (ad 0)), (2, .ref (ad 30)), (3, .int (nI i))])
    (kk : ∀ (M' : mm_M) (H' : Heap) (locs' : List Loc), I M' → va_P D vwCl (mm_world ad cI cC M') H' → va_D (fun q : Nat => s.heap.size ≤ q) (mm_world ad cI cC M') → va_S (fun q : Nat => s.heap.size ≤ q) s.heap H' locs' → W p l e room_1 s m #[Value.ref b] below meth c H' locs' 38 8251 (lw_Z below #[Value.ref b] s) (F0 m 907 ls [])) : W p l e room_1 s m #[Value.ref b] below meth c H locs 38 8251 (lw_Z below #[Value.ref b] s) (F0 m 858 ls []) := by
  obtain ⟨hx, hb, hr, hml, hown, hts0, hXs, hbl, hlocks, hgv⟩ := id C0
  have hbA : ¬ (fun q : Nat => s.heap.size ≤ q) b := Nat.not_le.mpr hbl
  refine lv_aload_n hx hb dL_law_858 rfl (lv_at hl 1 rfl) ?_
  refine lv_aload_n hx hb dL_law_859 rfl (lv_at hl 0 rfl) ?_
  refine lv_iload_n hx hb dL_law_860 rfl (lv_at hl 3 rfl) ?_
  refine lv_iconst (v := nI 1) hx hb dL_law_861 (by decide +kernel) ?_
  refine lv_iadd hx hb dL_law_862 ?_
  refine va_sld hx hb hXs hbl hbA hS (lw_ix hi hL (by decide : 1 < 6)) dL_law_863 ?_
  refine W.eq (g2 := F0 m 864 ls (([.inl (xs (nI i + nI 1).toNatClampNeg)].map (mm_tv ad)).reverse ++ .ref (ad 0) :: [])) rfl ?_
  refine lw_call (k := 86) (o := 0) (ci := 6) C0 hK hX (by decide +kernel) (by rw [kmX7_type]; exact Nat.le_of_ble_eq_true rfl) (by rw [kpX7_type]; rfl) (hp (xs (nI i + nI 1).toNatClampNeg)) rfl (by rw [kyX7_type]; rfl) (kyX7_type ▸ (mm_w_in (i := 657) (w := .methodLink R_law 115 yX7_type) (by decide +kernel))) (kyX7_type ▸ (mm_w_in (i := 658) (w := .instanceMethod yX7_type) (by decide +kernel))) (kyX7_type ▸ (mm_w_in (i := 659) (w := .selects RX7 yX7_type yX7_type) (by decide +kernel))) hP hD hS hl.1 (by rw [kfX7_type]; decide) (by rw [kmX7_type, klX7_type]; decide) (Nat.le_of_ble_eq_true rfl) dL_law_864 ?_
  intro v1 M1 H1 locs1 hp1 hP hD hS
  refine lv_aload_n hx hb dL_law_867 rfl (lv_at hl 2 rfl) ?_
  refine lv_aload_n hx hb dL_law_868 rfl (lv_at hl 0 rfl) ?_
  refine lv_iload_n hx hb dL_law_869 rfl (lv_at hl 3 rfl) ?_
  refine lv_iconst (v := nI 1) hx hb dL_law_870 (by decide +kernel) ?_
  refine lv_iadd hx hb dL_law_871 ?_
  refine va_sld hx hb hXs hbl hbA hS (lw_ix hi hL (by decide : 1 < 6)) dL_law_872 ?_
  refine W.eq (g2 := F0 m 873 ls (([.inl (xs (nI i + nI 1).toNatClampNeg)].map (mm_tv ad)).reverse ++ .ref (ad 30) :: [.int v1])) rfl ?_
  refine lw_call (k := 149) (o := 30) (ci := 7) C0 hK hX (by decide +kernel) (by rw [kmX8_type]; exact Nat.le_of_ble_eq_true rfl) (by rw [kpX8_type]; rfl) (wc_mono (Q' := fun r M2 => ∃ v : Int32, r = some v ∧ (v = v1 ∧ I M2)) hp1 (fun r M2 h => ⟨v1, h.1, rfl, h.2⟩)) rfl (by rw [kyX8_type]; rfl) (kyX8_type ▸ (mm_w_in (i := 906) (w := .methodLink R_law 118 yX8_type) (by decide +kernel))) (kyX8_type ▸ (mm_w_in (i := 907) (w := .instanceMethod yX8_type) (by decide +kernel))) (kyX8_type ▸ (mm_w_in (i := 908) (w := .selects RX8 yX8_type yX8_type) (by decide +kernel))) hP hD hS hl.1 (by rw [kfX8_type]; decide) (by rw [kmX8_type, klX8_type]; decide) (Nat.le_of_ble_eq_true rfl) dL_law_873 ?_
  intro v2 M2 H2 locs2 hp2 hP hD hS
  obtain ⟨he, hI⟩ := hp2
  refine lv_icmp_eq (tgt := 907) hx hb dL_law_876 (by decide) (fun _ => kk M2 H2 locs2 hI hP hD hS) (fun hne => absurd (show v1 = v2 from he.symm) hne)
set_option maxHeartbeats 4000000 in
set_option maxRecDepth 100000 in
theorem lw_case_25 {p : Program} {l : Launch} {e : Env} {s : State} {m : MethodId} {below : List Frame} {meth : Method} {c : Code} {b L : Nat} {xs : Nat → Int32} {D : va_G} {ad : Nat → Nat} {cI cC : ClassId} {I : mm_M → Prop} (hL : L ≤ 3072) (C0 : lw_At p s m meth c b L xs) (hK : va_K D vwCl (mm_tys cI cC) s) (hX : mm_X ad (fun q : Nat => s.heap.size ≤ q) s s.heap) {M : mm_M} {H : Heap} {locs : List Loc} {ls : Array Slot} {i : Nat} (hi : i + 6 ≤ L) (hp : lw_pair I M 87 150 []) (hP : va_P D vwCl (mm_world ad cI cC M) H) (hD : va_D (fun q : Nat => s.heap.size ≤ q) (mm_world ad cI cC M)) (hS : va_S (fun q : Nat => s.heap.size ≤ q) s.heap H locs) (hl : lv_has ls 4 [(0, .ref b), (1, .ref (ad 0)), (2, .ref (ad 30)), (3, .int (nI i))])
    (kk : ∀ (M' : mm_M) (H' : Heap) (locs' : List Loc), I M' → va_P D vwCl (mm_world ad cI cC M') H' → va_D (fun q : Nat => s.heap.size ≤ q) (mm_world ad cI cC M') → va_S (fun q : Nat => s.heap.size ≤ q) s.heap H' locs' → W p l e room_1 s m #[Value.ref b] below meth c H' locs' 38 8251 (lw_Z below #[Value.ref b] s) (F0 m 907 ls [])) : W p l e room_1 s m #[Value.ref b] below meth c H locs 38 8251 (lw_Z below #[Value.ref b] s) (F0 m 881 ls []) := by
  obtain ⟨hx, hb, hr, hml, hown, hts0, hXs, hbl, hlocks, hgv⟩ := id C0
  have hbA : ¬ (fun q : Nat => s.heap.size ≤ q) b := Nat.not_le.mpr hbl
  refine lv_aload_n hx hb dL_law_881 rfl (lv_at hl 1 rfl) ?_
  refine W.eq (g2 := F0 m 882 ls (([].map (mm_tv ad)).reverse ++ .ref (ad 0) :: [])) rfl ?_
  refine lw_call (k := 87) (o := 0) (ci := 6) C0 hK hX (by decide +kernel) (by rw [kmX7_clearText]; exact Nat.le_of_ble_eq_true rfl) (by rw [kpX7_clearText]; rfl) hp rfl (by rw [kyX7_clearText]; rfl) (kyX7_clearText ▸ (mm_w_in (i := 665) (w := .methodLink R_law 119 yX7_clearText) (by decide +kernel))) (kyX7_clearText ▸ (mm_w_in (i := 666) (w := .instanceMethod yX7_clearText) (by decide +kernel))) (kyX7_clearText ▸ (mm_w_in (i := 667) (w := .selects RX7 yX7_clearText yX7_clearText) (by decide +kernel))) hP hD hS hl.1 (by rw [kfX7_clearText]; decide) (by rw [kmX7_clearText, klX7_clearText]; decide) (Nat.le_of_ble_eq_true rfl) dL_law_882 ?_
  intro v1 M1 H1 locs1 hp1 hP hD hS
  refine lv_aload_n hx hb dL_law_885 rfl (lv_at hl 2 rfl) ?_
  refine W.eq (g2 := F0 m 886 ls (([].map (mm_tv ad)).reverse ++ .ref (ad 30) :: [.int v1])) rfl ?_
  refine lw_call (k := 150) (o := 30) (ci := 7) C0 hK hX (by decide +kernel) (by rw [kmX8_clearText]; exact Nat.le_of_ble_eq_true rfl) (by rw [kpX8_clearText]; rfl) (wc_mono (Q' := fun r M2 => ∃ v : Int32, r = some v ∧ (v = v1 ∧ I M2)) hp1 (fun r M2 h => ⟨v1, h.1, rfl, h.2⟩)) rfl (by rw [kyX8_clearText]; rfl) (kyX8_clearText ▸ (mm_w_in (i := 910) (w := .methodLink R_law 122 yX8_clearText) (by decide +kernel))) (kyX8_clearText ▸ (mm_w_in (i := 911) (w := .instanceMethod yX8_clearText) (by decide +kernel))) (kyX8_clearText ▸ (mm_w_in (i := 912) (w := .selects RX8 yX8_clearText yX8_clearText) (by decide +kernel))) hP hD hS hl.1 (by rw [kfX8_clearText]; decide) (by rw [kmX8_clearText, klX8_clearText]; decide) (Nat.le_of_ble_eq_true rfl) dL_law_886 ?_
  intro v2 M2 H2 locs2 hp2 hP hD hS
  obtain ⟨he, hI⟩ := hp2
  refine lv_icmp_eq (tgt := 907) hx hb dL_law_889 (by decide) (fun _ => kk M2 H2 locs2 hI hP hD hS) (fun hne => absurd (show v1 = v2 from he.symm) hne)
set_option maxHeartbeats 4000000 in
set_option maxRecDepth 100000 in
theorem lw_case_26 {p : Program} {l : Launch} {e : Env} {s : State} {m : MethodId} {below : List Frame} {meth : Method} {c : Code} {b L : Nat} {xs : Nat → Int32} {D : va_G} {ad : Nat → Nat} {cI cC : ClassId} {I : mm_M → Prop} (hL : L ≤ 3072) (C0 : lw_At p s m meth c b L xs) (hK : va_K D vwCl (mm_tys cI cC) s) (hX : mm_X ad (fun q : Nat => s.heap.size ≤ q) s s.heap) {M : mm_M} {H : Heap} {locs : List Loc} {ls : Array Slot} {i : Nat} (hi : i + 6 ≤ L) (hp : lw_pair I M 88 162 []) (hP : va_P D vwCl (mm_world ad cI cC M) H) (hD : va_D (fun q : Nat => s.heap.size ≤ q) (mm_world ad cI cC M)) (hS : va_S (fun q : Nat => s.heap.size ≤ q) s.heap H locs) (hl : lv_has ls 4 [(0, .ref b), (1, .ref (ad 0)), (2, .ref (ad 30)), (3, .int (nI i))])
    (kk : ∀ (M' : mm_M) (H' : Heap) (locs' : List Loc), I M' → va_P D vwCl (mm_world ad cI cC M') H' → va_D (fun q : Nat => s.heap.size ≤ q) (mm_world ad cI cC M') → va_S (fun q : Nat => s.heap.size ≤ q) s.heap H' locs' → W p l e room_1 s m #[Value.ref b] below meth c H' locs' 38 8251 (lw_Z below #[Value.ref b] s) (F0 m 907 ls [])) : W p l e room_1 s m #[Value.ref b] below meth c H locs 38 8251 (lw_Z below #[Value.ref b] s) (F0 m 894 ls []) := by
  obtain ⟨hx, hb, hr, hml, hown, hts0, hXs, hbl, hlocks, hgv⟩ := id C0
  have hbA : ¬ (fun q : Nat => s.heap.size ≤ q) b := Nat.not_le.mpr hbl
  refine lv_aload_n hx hb dL_law_894 rfl (lv_at hl 1 rfl) ?_
  refine W.eq (g2 := F0 m 895 ls (([].map (mm_tv ad)).reverse ++ .ref (ad 0) :: [])) rfl ?_
  refine lw_call (k := 88) (o := 0) (ci := 6) C0 hK hX (by decide +kernel) (by rw [kmX7_fault]; exact Nat.le_of_ble_eq_true rfl) (by rw [kpX7_fault]; rfl) hp rfl (by rw [kyX7_fault]; rfl) (kyX7_fault ▸ (mm_w_in (i := 669) (w := .methodLink R_law 123 yX7_fault) (by decide +kernel))) (kyX7_fault ▸ (mm_w_in (i := 670) (w := .instanceMethod yX7_fault) (by decide +kernel))) (kyX7_fault ▸ (mm_w_in (i := 671) (w := .selects RX7 yX7_fault yX7_fault) (by decide +kernel))) hP hD hS hl.1 (by rw [kfX7_fault]; decide) (by rw [kmX7_fault, klX7_fault]; decide) (Nat.le_of_ble_eq_true rfl) dL_law_895 ?_
  intro v1 M1 H1 locs1 hp1 hP hD hS
  refine lv_aload_n hx hb dL_law_898 rfl (lv_at hl 2 rfl) ?_
  refine W.eq (g2 := F0 m 899 ls (([].map (mm_tv ad)).reverse ++ .ref (ad 30) :: [.int v1])) rfl ?_
  refine lw_call (k := 162) (o := 30) (ci := 7) C0 hK hX (by decide +kernel) (by rw [kmX8_fault]; exact Nat.le_of_ble_eq_true rfl) (by rw [kpX8_fault]; rfl) (wc_mono (Q' := fun r M2 => ∃ v : Int32, r = some v ∧ (v = v1 ∧ I M2)) hp1 (fun r M2 h => ⟨v1, h.1, rfl, h.2⟩)) rfl (by rw [kyX8_fault]; rfl) (kyX8_fault ▸ (mm_w_in (i := 914) (w := .methodLink R_law 126 yX8_fault) (by decide +kernel))) (kyX8_fault ▸ (mm_w_in (i := 915) (w := .instanceMethod yX8_fault) (by decide +kernel))) (kyX8_fault ▸ (mm_w_in (i := 916) (w := .selects RX8 yX8_fault yX8_fault) (by decide +kernel))) hP hD hS hl.1 (by rw [kfX8_fault]; decide) (by rw [kmX8_fault, klX8_fault]; decide) (Nat.le_of_ble_eq_true rfl) dL_law_899 ?_
  intro v2 M2 H2 locs2 hp2 hP hD hS
  obtain ⟨he, hI⟩ := hp2
  refine lv_icmp_eq (tgt := 907) hx hb dL_law_902 (by decide) (fun _ => kk M2 H2 locs2 hI hP hD hS) (fun hne => absurd (show v1 = v2 from he.symm) hne)
set_option maxHeartbeats 4000000 in
set_option maxRecDepth 100000 in
theorem lw_loop {p : Program} {l : Launch} {e : Env} {s : State} {m : MethodId} {below : List Frame} {meth : Method} {c : Code} {b L : Nat} {xs : Nat → Int32} {D : va_G} {ad : Nat → Nat} {cI cC : ClassId} {I : mm_M → Prop} (hL : L ≤ 3072) (C0 : lw_At p s m meth c b L xs) (hK : va_K D vwCl (mm_tys cI cC) s) (hX : mm_X ad (fun q : Nat => s.heap.size ≤ q) s s.heap) (hp : lw_pairs I) : ∀ (n i : Nat), L + 1 ≤ i + n → i ≤ L → ∀ (M : mm_M) (H : Heap) (locs : List Loc) (ls : Array Slot), I M → va_P D vwCl (mm_world ad cI cC M) H → va_D (fun q : Nat => s.heap.size ≤ q) (mm_world ad cI cC M) → va_S (fun q : Nat => s.heap.size ≤ q) s.heap H locs → lv_has ls 4 [(0, .ref b), (1, .ref (ad 0)), (2, .ref (ad 30)), (3, .int (nI i))] → W p l e room_1 s m #[Value.ref b] below meth c H locs 38 8251 (lw_Z below #[Value.ref b] s) (F0 m 18 ls []) := by
  obtain ⟨hx, hb, hr, hml, hown, hts0, hXs, hbl, hlocks, hgv⟩ := id C0
  have hbA : ¬ (fun q : Nat => s.heap.size ≤ q) b := Nat.not_le.mpr hbl
  intro n
  induction n with
  | zero =>
    intro i h1 h2
    exact absurd h1 (by omega)
  | succ n ih =>
    intro i hin hiL M H locs ls hI hP hD hS hl
    refine lv_iload_n hx hb dL_law_18 rfl (lv_at hl 3 rfl) ?_
    refine lv_aload_n hx hb dL_law_19 rfl (lv_at hl 0 rfl) ?_
    refine va_slen hx hb hXs hbl hbA hS dL_law_20 ?_
    refine lv_bipush (v := nI 6) hx hb dL_law_21 (by decide +kernel) ?_
    refine lv_isub hx hb dL_law_23 ?_
    have hsub : (nI L - nI 6).toInt = (L : Int) - 6 := pk_sub_toInt (by omega) (by omega)
    have hni : (nI i).toInt = (i : Int) := nI_toInt (by omega)
    refine lv_icmp_gt (tgt := 913) hx hb dL_law_24 (by decide) (fun hgt => ?_) (fun hgt => ?_)
    · refine lv_iconst (v := 1) hx hb dL_law_913 (by decide) ?_
      refine va_forget (fun q hq => hS.2.2 q hq) ?_
      exact lw_ret hx hb hr hlocks dL_law_914
    · have hi : i + 6 ≤ L := by
        rw [Int32.lt_iff_toInt_lt] at hgt
        have hgt : ¬ ((nI L - nI 6).toInt < (nI i).toInt) := hgt
        rw [hsub, hni] at hgt
        omega
      have next : ∀ (M' : mm_M) (H' : Heap) (locs' : List Loc), I M' → va_P D vwCl (mm_world ad cI cC M') H' → va_D (fun q : Nat => s.heap.size ≤ q) (mm_world ad cI cC M') → va_S (fun q : Nat => s.heap.size ≤ q) s.heap H' locs' → W p l e room_1 s m #[Value.ref b] below meth c H' locs' 38 8251 (lw_Z below #[Value.ref b] s) (F0 m 907 ls []) := by
        intro M' H' locs' hI' hP' hD' hS'
        refine lv_iinc (v := nI (i + 6)) (lv' := [(3, .int (nI (i + 6))), (0, .ref b), (1, .ref (ad 0)), (2, .ref (ad 30))]) hx hb dL_law_907 hl (k := 3) rfl (nI_add i 6) (by decide) rfl (fun ls' hl' => ?_)
        refine lv_goto (tgt := 18) hx hb dL_law_910 (by decide) ?_
        exact ih (i + 6) (by omega) hi M' H' locs' ls' hI' hP' hD' hS' (lv_sub hl' [1, 2, 3, 0] rfl)
      have h_0 : vp_in (nI i) L := vp_in_nI (by omega) (by omega)
      refine lv_aload_n hx hb dL_law_27 rfl (lv_at hl 0 rfl) ?_
      refine lv_iload_n hx hb dL_law_28 rfl (lv_at hl 3 rfl) ?_
      refine va_sld hx hb hXs hbl hbA hS h_0 dL_law_29 ?_
      refine lv_bipush (v := 31) hx hb dL_law_30 (by decide +kernel) ?_
      refine lv_iand hx hb dL_law_32 ?_
      obtain ⟨kz, hkz, hkze⟩ := pk_andE (xs (nI i).toNatClampNeg) (m := 31) 5 (by decide +kernel)
      rw [hkze]
      have hkz : kz < 32 := hkz
      obtain ⟨p0, p1, p2, p3, p4, p5, p6, p7, p8, p9, p10, p11, p12, p13, p14, p15, p16, p17, p18, p19, p20, p21, p22, p23, p24, p25, p26⟩ := hp M hI
      have hcs : kz = 0 ∨ kz = 1 ∨ kz = 2 ∨ kz = 3 ∨ kz = 4 ∨ kz = 5 ∨ kz = 6 ∨ kz = 7 ∨ kz = 8 ∨ kz = 9 ∨ kz = 10 ∨ kz = 11 ∨ kz = 12 ∨ kz = 13 ∨ kz = 14 ∨ kz = 15 ∨ kz = 16 ∨ kz = 17 ∨ kz = 18 ∨ kz = 19 ∨ kz = 20 ∨ kz = 21 ∨ kz = 22 ∨ kz = 23 ∨ kz = 24 ∨ kz = 25 ∨ kz = 26 ∨ 27 ≤ kz := by omega
      rcases hcs with rfl | rfl | rfl | rfl | rfl | rfl | rfl | rfl | rfl | rfl | rfl | rfl | rfl | rfl | rfl | rfl | rfl | rfl | rfl | rfl | rfl | rfl | rfl | rfl | rfl | rfl | rfl | hbig
      · exact lv_tableIn hx hb dL_law_33 (by decide +kernel) (by decide +kernel) (off := 123) (tgt := 156) (by decide +kernel) (by decide) (lw_case_0 hL C0 hK hX hi p0 hP hD hS hl next)
      · exact lv_tableIn hx hb dL_law_33 (by decide +kernel) (by decide +kernel) (off := 146) (tgt := 179) (by decide +kernel) (by decide) (lw_case_1 hL C0 hK hX hi p1 hP hD hS hl next)
      · exact lv_tableIn hx hb dL_law_33 (by decide +kernel) (by decide +kernel) (off := 209) (tgt := 242) (by decide +kernel) (by decide) (lw_case_2 hL C0 hK hX hi p2 hP hD hS hl next)
      · exact lv_tableIn hx hb dL_law_33 (by decide +kernel) (by decide +kernel) (off := 242) (tgt := 275) (by decide +kernel) (by decide) (lw_case_3 hL C0 hK hX hi p3 hP hD hS hl next)
      · exact lv_tableIn hx hb dL_law_33 (by decide +kernel) (by decide +kernel) (off := 285) (tgt := 318) (by decide +kernel) (by decide) (lw_case_4 hL C0 hK hX hi p4 hP hD hS hl next)
      · exact lv_tableIn hx hb dL_law_33 (by decide +kernel) (by decide +kernel) (off := 328) (tgt := 361) (by decide +kernel) (by decide) (lw_case_5 hL C0 hK hX hi p5 hP hD hS hl next)
      · exact lv_tableIn hx hb dL_law_33 (by decide +kernel) (by decide +kernel) (off := 351) (tgt := 384) (by decide +kernel) (by decide) (lw_case_6 hL C0 hK hX hi p6 hP hD hS hl next)
      · exact lv_tableIn hx hb dL_law_33 (by decide +kernel) (by decide +kernel) (off := 414) (tgt := 447) (by decide +kernel) (by decide) (lw_case_7 hL C0 hK hX hi p7 hP hD hS hl next)
      · exact lv_tableIn hx hb dL_law_33 (by decide +kernel) (by decide +kernel) (off := 437) (tgt := 470) (by decide +kernel) (by decide) (lw_case_8 hL C0 hK hX hi (p8 ()) hP hD hS hl next)
      · exact lv_tableIn hx hb dL_law_33 (by decide +kernel) (by decide +kernel) (off := 450) (tgt := 483) (by decide +kernel) (by decide) (lw_case_9 hL C0 hK hX hi (p9 ()) hP hD hS hl next)
      · exact lv_tableIn hx hb dL_law_33 (by decide +kernel) (by decide +kernel) (off := 463) (tgt := 496) (by decide +kernel) (by decide) (lw_case_10 hL C0 hK hX hi p10 hP hD hS hl next)
      · exact lv_tableIn hx hb dL_law_33 (by decide +kernel) (by decide +kernel) (off := 486) (tgt := 519) (by decide +kernel) (by decide) (lw_case_11 hL C0 hK hX hi p11 hP hD hS hl next)
      · exact lv_tableIn hx hb dL_law_33 (by decide +kernel) (by decide +kernel) (off := 519) (tgt := 552) (by decide +kernel) (by decide) (lw_case_12 hL C0 hK hX hi p12 hP hD hS hl next)
      · exact lv_tableIn hx hb dL_law_33 (by decide +kernel) (by decide +kernel) (off := 552) (tgt := 585) (by decide +kernel) (by decide) (lw_case_13 hL C0 hK hX hi p13 hP hD hS hl next)
      · exact lv_tableIn hx hb dL_law_33 (by decide +kernel) (by decide +kernel) (off := 575) (tgt := 608) (by decide +kernel) (by decide) (lw_case_14 hL C0 hK hX hi p14 hP hD hS hl next)
      · exact lv_tableIn hx hb dL_law_33 (by decide +kernel) (by decide +kernel) (off := 598) (tgt := 631) (by decide +kernel) (by decide) (lw_case_15 hL C0 hK hX hi p15 hP hD hS hl next)
      · exact lv_tableIn hx hb dL_law_33 (by decide +kernel) (by decide +kernel) (off := 621) (tgt := 654) (by decide +kernel) (by decide) (lw_case_16 hL C0 hK hX hi p16 hP hD hS hl next)
      · exact lv_tableIn hx hb dL_law_33 (by decide +kernel) (by decide +kernel) (off := 644) (tgt := 677) (by decide +kernel) (by decide) (lw_case_17 hL C0 hK hX hi p17 hP hD hS hl next)
      · exact lv_tableIn hx hb dL_law_33 (by decide +kernel) (by decide +kernel) (off := 667) (tgt := 700) (by decide +kernel) (by decide) (lw_case_18 hL C0 hK hX hi (p18 ()) hP hD hS hl next)
      · exact lv_tableIn hx hb dL_law_33 (by decide +kernel) (by decide +kernel) (off := 680) (tgt := 713) (by decide +kernel) (by decide) (lw_case_19 hL C0 hK hX hi p19 hP hD hS hl next)
      · exact lv_tableIn hx hb dL_law_33 (by decide +kernel) (by decide +kernel) (off := 713) (tgt := 746) (by decide +kernel) (by decide) (lw_case_20 hL C0 hK hX hi p20 hP hD hS hl next)
      · exact lv_tableIn hx hb dL_law_33 (by decide +kernel) (by decide +kernel) (off := 746) (tgt := 779) (by decide +kernel) (by decide) (lw_case_21 hL C0 hK hX hi (p21 ()) hP hD hS hl next)
      · exact lv_tableIn hx hb dL_law_33 (by decide +kernel) (by decide +kernel) (off := 759) (tgt := 792) (by decide +kernel) (by decide) (lw_case_22 hL C0 hK hX hi (p22 ()) hP hD hS hl next)
      · exact lv_tableIn hx hb dL_law_33 (by decide +kernel) (by decide +kernel) (off := 772) (tgt := 805) (by decide +kernel) (by decide) (lw_case_23 hL C0 hK hX hi p23 hP hD hS hl next)
      · exact lv_tableIn hx hb dL_law_33 (by decide +kernel) (by decide +kernel) (off := 825) (tgt := 858) (by decide +kernel) (by decide) (lw_case_24 hL C0 hK hX hi p24 hP hD hS hl next)
      · exact lv_tableIn hx hb dL_law_33 (by decide +kernel) (by decide +kernel) (off := 848) (tgt := 881) (by decide +kernel) (by decide) (lw_case_25 hL C0 hK hX hi (p25 ()) hP hD hS hl next)
      · exact lv_tableIn hx hb dL_law_33 (by decide +kernel) (by decide +kernel) (off := 861) (tgt := 894) (by decide +kernel) (by decide) (lw_case_26 hL C0 hK hX hi (p26 ()) hP hD hS hl next)
      · have hz : (nI kz).toInt = (kz : Int) := nI_toInt (by omega)
        exact lv_tableOut hx hb dL_law_33 (Or.inr (by rw [hz]; omega)) (tgt := 907) (by decide) (next M H locs hI hP hD hS)
