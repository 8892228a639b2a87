/-! WHAT THE TABLES SAY, decided once -/
def mm_GW : List Cond := lw_tbl.filter goodWord
theorem mm_gw_of {w : Cond} {i : Nat} (h1 : lw_tbl[i]? = some w) (h2 : goodWord w = true) : w ∈ mm_GW := List.mem_filter.mpr ⟨List.mem_of_getElem? h1, h2⟩
theorem mm_gw_lw {w : Cond} (h : w ∈ mm_GW) : w ∈ lw_tbl := (List.mem_filter.mp h).1
theorem mm_gw_good {w : Cond} (h : w ∈ mm_GW) : goodWord w = true := (List.mem_filter.mp h).2
def mm_w (i : Nat) (w : Cond) : Bool := decide (lw_tbl[i]? = some w) && goodWord w
theorem mm_w_in {i : Nat} {w : Cond} (h : mm_w i w = true) : w ∈ mm_GW := by
  simp only [mm_w, Bool.and_eq_true, decide_eq_true_eq] at h
  exact mm_gw_of h.1 h.2
def mm_hOk (y : MethodName) (n : Nat) : Bool := decide (y.cls ≠ "java/lang/invoke/MethodHandle" ∧ y.cls ≠ "java/lang/invoke/VarHandle" ∧ (parseMethodDescriptor y.desc).map (fun d => d.parameters.length) = some n)
def mm_tOk (q : mm_T) : Bool := plainFor q.2.1 && mm_w q.2.2.2.2.2.2.2.2.1 (.code q.2.1 q.1 q.2.2.1 q.2.2.2.1) && mm_w q.2.2.2.2.2.2.2.2.2 (.initialized q.2.1.cls) && decide (q.2.1.cls = mm_cn q.2.2.2.2.1) && mm_hOk q.2.1 q.2.2.2.2.2.1
def mm_fOk (e : (Nat × Nat) × (Nat × Nat × Bool × Nat)) : Bool := match vwCl[e.2.1]? with
  | some q => decide (e.2.2.1 < q.2.2) && (match e.2.2.2.1 with
    | true => decide (lw_tbl[e.2.2.2.2]? = some (.fieldLinkNest (mm_cn e.1.1) e.1.2 (q.2.1 e.2.2.1).1 (q.2.1 e.2.2.1).2.1 (q.2.1 e.2.2.1).2.2.1 "LimbScore"))
    | false => mm_w e.2.2.2.2 (.fieldLink (mm_cn e.1.1) e.1.2 (q.2.1 e.2.2.1).1 (q.2.1 e.2.2.1).2.1 (q.2.1 e.2.2.1).2.2.1))
  | none => false
def mm_cOk (e : (Nat × Nat) × (Nat × Nat × Nat × Nat × Nat × Nat × Nat)) : Bool := match e with
  | ((c, i), (kd, k, ci, i1, i2, i3, i4)) => match kd with
    | 0 => decide (k < mm_tab.length) && mm_w i1 (.methodLink (mm_cn c) i (mm_y k)) && mm_w i2 (.instanceMethod (mm_y k)) && mm_w i3 (.selects (mm_y k).cls (mm_y k) (mm_y k)) && mm_w i4 (.initialized (mm_y k).cls) && decide ((vwCl[ci]?).map (fun q => q.1) = some (mm_y k).cls)
    | 1 => decide (k < mm_tab.length) && mm_w i1 (.methodLink (mm_cn c) i (mm_y k)) && mm_w i2 (.static (mm_y k)) && mm_w i3 (.initialized (mm_y k).cls)
    | 2 => decide (k < mm_tab.length) && decide (lw_tbl[i1]? = some (.methodLinkNest (mm_cn c) i (mm_y k) "LimbScore")) && mm_w i2 (.static (mm_y k)) && mm_w i3 (.initialized (mm_y k).cls)
    | _ => mm_w i1 (.methodLink (mm_cn c) i arraycopyName) && mm_w i2 (.native arraycopyName) && mm_w i3 (.static arraycopyName) && mm_w i4 (.initialized "java/lang/System")
def mm_sOk (e : (Nat × Nat) × (Bool × Nat)) : Bool := mm_w e.2.2 (.fieldLink (mm_cn e.1.1) e.1.2 "LimbScore$Walk" (if e.2.1 = true then "UNIT_X" else "UNIT_Y") "[I")
def mm_kcOk (e : (Nat × Nat) × (Int32 × Nat)) : Bool := mm_w e.2.2 (.constant (mm_cn e.1.1) e.1.2 e.2.1)
def mm_eOk (e : mm_E) : Bool := match e with
  | .inl (ci, fs) => match vwCl[ci]? with
    | some q => decide (fs.length = q.2.2) && (List.range q.2.2).all (fun k => if fs[k]? = some none then decide (parseFieldDescriptor (q.2.1 k).2.2.1 = some .int) && !(q.2.1 k).2.2.2 else true)
    | none => false
  | .inr _ => true
def mm_kOk (q : vw_C) : Bool := (u_ws q.1 q.2.1 q.2.2).all (fun w => decide (w ∈ lw_tbl) && goodWord w) && (List.range q.2.2).all (fun k => (parseFieldDescriptor (q.2.1 k).2.2.1).isSome) && decide (∀ a, a < q.2.2 → ∀ b, b < q.2.2 → a ≠ b → (q.2.1 a).2.1 ≠ (q.2.1 b).2.1)
set_option maxRecDepth 100000 in
theorem mm_tab_0_ok : mm_tab_0.all mm_tOk = true := by decide +kernel
set_option maxRecDepth 100000 in
theorem mm_tab_1_ok : mm_tab_1.all mm_tOk = true := by decide +kernel
set_option maxRecDepth 100000 in
theorem mm_tab_2_ok : mm_tab_2.all mm_tOk = true := by decide +kernel
set_option maxRecDepth 100000 in
theorem mm_tab_3_ok : mm_tab_3.all mm_tOk = true := by decide +kernel
set_option maxRecDepth 100000 in
theorem mm_tab_4_ok : mm_tab_4.all mm_tOk = true := by decide +kernel
set_option maxRecDepth 100000 in
theorem mm_tab_5_ok : mm_tab_5.all mm_tOk = true := by decide +kernel
set_option maxRecDepth 100000 in
theorem mm_tab_6_ok : mm_tab_6.all mm_tOk = true := by decide +kernel
set_option maxRecDepth 100000 in
theorem mm_tab_7_ok : mm_tab_7.all mm_tOk = true := by decide +kernel
set_option maxRecDepth 100000 in
theorem mm_tab_8_ok : mm_tab_8.all mm_tOk = true := by decide +kernel
set_option maxRecDepth 100000 in
theorem mm_tab_9_ok : mm_tab_9.all mm_tOk = true := by decide +kernel
set_option maxRecDepth 100000 in
theorem mm_tab_10_ok : mm_tab_10.all mm_tOk = true := by decide +kernel
set_option maxRecDepth 100000 in
theorem mm_tab_11_ok : mm_tab_11.all mm_tOk = true := by decide +kernel
set_option maxRecDepth 100000 in
theorem mm_tab_12_ok : mm_tab_12.all mm_tOk = true := by decide +kernel
set_option maxRecDepth 100000 in
theorem mm_tab_13_ok : mm_tab_13.all mm_tOk = true := by decide +kernel
set_option maxRecDepth 100000 in
theorem mm_tab_14_ok : mm_tab_14.all mm_tOk = true := by decide +kernel
set_option maxRecDepth 100000 in
theorem mm_tab_15_ok : mm_tab_15.all mm_tOk = true := by decide +kernel
set_option maxRecDepth 100000 in
theorem mm_tab_16_ok : mm_tab_16.all mm_tOk = true := by decide +kernel
set_option maxRecDepth 100000 in
theorem mm_tab_17_ok : mm_tab_17.all mm_tOk = true := by decide +kernel
set_option maxRecDepth 100000 in
theorem mm_tab_18_ok : mm_tab_18.all mm_tOk = true := by decide +kernel
set_option maxRecDepth 100000 in
theorem mm_tab_19_ok : mm_tab_19.all mm_tOk = true := by decide +kernel
set_option maxRecDepth 100000 in
theorem mm_tab_20_ok : mm_tab_20.all mm_tOk = true := by decide +kernel
set_option maxRecDepth 100000 in
theorem mm_tab_21_ok : mm_tab_21.all mm_tOk = true := by decide +kernel
set_option maxRecDepth 100000 in
theorem mm_tab_22_ok : mm_tab_22.all mm_tOk = true := by decide +kernel
set_option maxRecDepth 100000 in
theorem mm_tab_23_ok : mm_tab_23.all mm_tOk = true := by decide +kernel
set_option maxRecDepth 100000 in
theorem mm_tab_24_ok : mm_tab_24.all mm_tOk = true := by decide +kernel
set_option maxRecDepth 100000 in
theorem mm_tab_25_ok : mm_tab_25.all mm_tOk = true := by decide +kernel
theorem mm_tab_ok : mm_tab.all mm_tOk = true := by
  unfold mm_tab
  simp only [List.all_append, Bool.and_eq_true]
  exact ⟨⟨⟨⟨⟨⟨⟨⟨⟨⟨⟨⟨⟨⟨⟨⟨⟨⟨⟨⟨⟨⟨⟨⟨⟨mm_tab_0_ok, mm_tab_1_ok⟩, mm_tab_2_ok⟩, mm_tab_3_ok⟩, mm_tab_4_ok⟩, mm_tab_5_ok⟩, mm_tab_6_ok⟩, mm_tab_7_ok⟩, mm_tab_8_ok⟩, mm_tab_9_ok⟩, mm_tab_10_ok⟩, mm_tab_11_ok⟩, mm_tab_12_ok⟩, mm_tab_13_ok⟩, mm_tab_14_ok⟩, mm_tab_15_ok⟩, mm_tab_16_ok⟩, mm_tab_17_ok⟩, mm_tab_18_ok⟩, mm_tab_19_ok⟩, mm_tab_20_ok⟩, mm_tab_21_ok⟩, mm_tab_22_ok⟩, mm_tab_23_ok⟩, mm_tab_24_ok⟩, mm_tab_25_ok⟩
set_option maxRecDepth 100000 in
theorem mm_flds_0_ok : mm_flds_0.all mm_fOk = true := by decide +kernel
set_option maxRecDepth 100000 in
theorem mm_flds_1_ok : mm_flds_1.all mm_fOk = true := by decide +kernel
set_option maxRecDepth 100000 in
theorem mm_flds_2_ok : mm_flds_2.all mm_fOk = true := by decide +kernel
set_option maxRecDepth 100000 in
theorem mm_flds_3_ok : mm_flds_3.all mm_fOk = true := by decide +kernel
theorem mm_flds_ok : mm_flds.all mm_fOk = true := by
  unfold mm_flds
  simp only [List.all_append, Bool.and_eq_true]
  exact ⟨⟨⟨mm_flds_0_ok, mm_flds_1_ok⟩, mm_flds_2_ok⟩, mm_flds_3_ok⟩
set_option maxRecDepth 100000 in
theorem mm_calls_0_ok : mm_calls_0.all mm_cOk = true := by decide +kernel
set_option maxRecDepth 100000 in
theorem mm_calls_1_ok : mm_calls_1.all mm_cOk = true := by decide +kernel
set_option maxRecDepth 100000 in
theorem mm_calls_2_ok : mm_calls_2.all mm_cOk = true := by decide +kernel
set_option maxRecDepth 100000 in
theorem mm_calls_3_ok : mm_calls_3.all mm_cOk = true := by decide +kernel
set_option maxRecDepth 100000 in
theorem mm_calls_4_ok : mm_calls_4.all mm_cOk = true := by decide +kernel
set_option maxRecDepth 100000 in
theorem mm_calls_5_ok : mm_calls_5.all mm_cOk = true := by decide +kernel
set_option maxRecDepth 100000 in
theorem mm_calls_6_ok : mm_calls_6.all mm_cOk = true := by decide +kernel
set_option maxRecDepth 100000 in
theorem mm_calls_7_ok : mm_calls_7.all mm_cOk = true := by decide +kernel
set_option maxRecDepth 100000 in
theorem mm_calls_8_ok : mm_calls_8.all mm_cOk = true := by decide +kernel
theorem mm_calls_ok : mm_calls.all mm_cOk = true := by
  unfold mm_calls
  simp only [List.all_append, Bool.and_eq_true]
  exact ⟨⟨⟨⟨⟨⟨⟨⟨mm_calls_0_ok, mm_calls_1_ok⟩, mm_calls_2_ok⟩, mm_calls_3_ok⟩, mm_calls_4_ok⟩, mm_calls_5_ok⟩, mm_calls_6_ok⟩, mm_calls_7_ok⟩, mm_calls_8_ok⟩
set_option maxRecDepth 100000 in
theorem mm_stats_0_ok : mm_stats_0.all mm_sOk = true := by decide +kernel
theorem mm_stats_ok : mm_stats.all mm_sOk = true := mm_stats_0_ok
set_option maxRecDepth 100000 in
theorem mm_csts_0_ok : mm_csts_0.all mm_kcOk = true := by decide +kernel
theorem mm_csts_ok : mm_csts.all mm_kcOk = true := mm_csts_0_ok
set_option maxRecDepth 100000 in
theorem mm_shape_ok : mm_shape.all mm_eOk = true := by decide +kernel
set_option maxRecDepth 100000 in
theorem mm_kinds_ok : (vwCl : List vw_C).all mm_kOk = true := by decide +kernel
theorem mm_good (ws : List Cond) (h : ∀ w ∈ ws, w ∈ mm_GW) : GoodIn mm_GW ws := fun w hw => ⟨h w hw, good_of_word (mm_gw_good (h w hw))⟩
