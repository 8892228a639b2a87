section
-- ===== PART A: goes FIRST, ahead of the names: the tables' words, and 'selects' of the private methods out of them =====
/-- a private method of a class that the tables say can be made, by its rows of tables_1 -/
def lw_okq (q : MethodName × Nat) : Prop := (q.1.cls ≠ "java/lang/invoke/MethodHandle" ∧ q.1.cls ≠ "java/lang/invoke/VarHandle") ∧ Cond.instantiable q.1.cls q.2 ∈ tables_1 ∧ Cond.privateMethod q.1 ∈ tables_1 ∧ Cond.instanceMethod q.1 ∈ tables_1
theorem lw_p0 : lw_okq (⟨"LimbScore", "isSpan", "(II)Z"⟩, 9) := ⟨⟨by decide +kernel, by decide +kernel⟩, List.mem_of_getElem? (i := 13) (by decide +kernel), List.mem_of_getElem? (i := 211) (by decide +kernel), List.mem_of_getElem? (i := 212) (by decide +kernel)⟩
theorem lw_p1 : lw_okq (⟨"LimbScore", "isBeat", "(I)Z"⟩, 9) := ⟨⟨by decide +kernel, by decide +kernel⟩, List.mem_of_getElem? (i := 13) (by decide +kernel), List.mem_of_getElem? (i := 215) (by decide +kernel), List.mem_of_getElem? (i := 216) (by decide +kernel)⟩
theorem lw_p2 : lw_okq (⟨"LimbScore", "addSign", "(I)I"⟩, 9) := ⟨⟨by decide +kernel, by decide +kernel⟩, List.mem_of_getElem? (i := 13) (by decide +kernel), List.mem_of_getElem? (i := 225) (by decide +kernel), List.mem_of_getElem? (i := 226) (by decide +kernel)⟩
theorem lw_p3 : lw_okq (⟨"LimbScore$Script", "readItem", "(LLimbScore$Score;)Z"⟩, 4) := ⟨⟨by decide +kernel, by decide +kernel⟩, List.mem_of_getElem? (i := 141) (by decide +kernel), List.mem_of_getElem? (i := 269) (by decide +kernel), List.mem_of_getElem? (i := 270) (by decide +kernel)⟩
theorem lw_p4 : lw_okq (⟨"LimbScore$Script", "readDigit", "()I"⟩, 4) := ⟨⟨by decide +kernel, by decide +kernel⟩, List.mem_of_getElem? (i := 141) (by decide +kernel), List.mem_of_getElem? (i := 273) (by decide +kernel), List.mem_of_getElem? (i := 274) (by decide +kernel)⟩
theorem lw_p5 : lw_okq (⟨"LimbScore$Script", "digitAt", "(I)I"⟩, 4) := ⟨⟨by decide +kernel, by decide +kernel⟩, List.mem_of_getElem? (i := 141) (by decide +kernel), List.mem_of_getElem? (i := 277) (by decide +kernel), List.mem_of_getElem? (i := 278) (by decide +kernel)⟩
theorem lw_p6 : lw_okq (⟨"LimbScore$Script", "readCharacter", "()I"⟩, 4) := ⟨⟨by decide +kernel, by decide +kernel⟩, List.mem_of_getElem? (i := 141) (by decide +kernel), List.mem_of_getElem? (i := 284) (by decide +kernel), List.mem_of_getElem? (i := 285) (by decide +kernel)⟩
theorem lw_p7 : lw_okq (⟨"LimbScore$Script", "readSign", "(III)I"⟩, 4) := ⟨⟨by decide +kernel, by decide +kernel⟩, List.mem_of_getElem? (i := 141) (by decide +kernel), List.mem_of_getElem? (i := 288) (by decide +kernel), List.mem_of_getElem? (i := 289) (by decide +kernel)⟩
theorem lw_p8 : lw_okq (⟨"LimbScore$Script", "readMove", "(II)I"⟩, 4) := ⟨⟨by decide +kernel, by decide +kernel⟩, List.mem_of_getElem? (i := 141) (by decide +kernel), List.mem_of_getElem? (i := 292) (by decide +kernel), List.mem_of_getElem? (i := 293) (by decide +kernel)⟩
theorem lw_p9 : lw_okq (⟨"LimbScore$Script", "readLength", "()I"⟩, 4) := ⟨⟨by decide +kernel, by decide +kernel⟩, List.mem_of_getElem? (i := 141) (by decide +kernel), List.mem_of_getElem? (i := 299) (by decide +kernel), List.mem_of_getElem? (i := 300) (by decide +kernel)⟩
theorem lw_p10 : lw_okq (⟨"LimbScore$Script", "readTurn", "(II)I"⟩, 4) := ⟨⟨by decide +kernel, by decide +kernel⟩, List.mem_of_getElem? (i := 141) (by decide +kernel), List.mem_of_getElem? (i := 308) (by decide +kernel), List.mem_of_getElem? (i := 309) (by decide +kernel)⟩
theorem lw_p11 : lw_okq (⟨"LimbScore$Weight", "weighSide", "(LLimbScore$Score;I)V"⟩, 7) := ⟨⟨by decide +kernel, by decide +kernel⟩, List.mem_of_getElem? (i := 69) (by decide +kernel), List.mem_of_getElem? (i := 407) (by decide +kernel), List.mem_of_getElem? (i := 408) (by decide +kernel)⟩
theorem lw_p12 : lw_okq (⟨"LimbScore$Weight", "measureFlights", "()V"⟩, 7) := ⟨⟨by decide +kernel, by decide +kernel⟩, List.mem_of_getElem? (i := 69) (by decide +kernel), List.mem_of_getElem? (i := 424) (by decide +kernel), List.mem_of_getElem? (i := 425) (by decide +kernel)⟩
theorem lw_p13 : lw_okq (⟨"LimbScore", "isPhrase", "(II)Z"⟩, 9) := ⟨⟨by decide +kernel, by decide +kernel⟩, List.mem_of_getElem? (i := 13) (by decide +kernel), List.mem_of_getElem? (i := 477) (by decide +kernel), List.mem_of_getElem? (i := 478) (by decide +kernel)⟩
theorem lw_p14 : lw_okq (⟨"LimbScore$Walk", "noteEnd", "(I)V"⟩, 6) := ⟨⟨by decide +kernel, by decide +kernel⟩, List.mem_of_getElem? (i := 97) (by decide +kernel), List.mem_of_getElem? (i := 527) (by decide +kernel), List.mem_of_getElem? (i := 528) (by decide +kernel)⟩
theorem lw_p15 : lw_okq (⟨"LimbScore$Walk", "noteStep", "(II)V"⟩, 6) := ⟨⟨by decide +kernel, by decide +kernel⟩, List.mem_of_getElem? (i := 97) (by decide +kernel), List.mem_of_getElem? (i := 534) (by decide +kernel), List.mem_of_getElem? (i := 535) (by decide +kernel)⟩
def lw_privs_1 : List (MethodName × Nat) := [(⟨"LimbScore", "isSpan", "(II)Z"⟩, 9), (⟨"LimbScore", "isBeat", "(I)Z"⟩, 9), (⟨"LimbScore", "addSign", "(I)I"⟩, 9), (⟨"LimbScore$Script", "readItem", "(LLimbScore$Score;)Z"⟩, 4), (⟨"LimbScore$Script", "readDigit", "()I"⟩, 4), (⟨"LimbScore$Script", "digitAt", "(I)I"⟩, 4), (⟨"LimbScore$Script", "readCharacter", "()I"⟩, 4), (⟨"LimbScore$Script", "readSign", "(III)I"⟩, 4), (⟨"LimbScore$Script", "readMove", "(II)I"⟩, 4), (⟨"LimbScore$Script", "readLength", "()I"⟩, 4), (⟨"LimbScore$Script", "readTurn", "(II)I"⟩, 4), (⟨"LimbScore$Weight", "weighSide", "(LLimbScore$Score;I)V"⟩, 7), (⟨"LimbScore$Weight", "measureFlights", "()V"⟩, 7), (⟨"LimbScore", "isPhrase", "(II)Z"⟩, 9), (⟨"LimbScore$Walk", "noteEnd", "(I)V"⟩, 6), (⟨"LimbScore$Walk", "noteStep", "(II)V"⟩, 6)]
theorem lw_r1 : ∀ q ∈ lw_privs_1, lw_okq q := List.forall_mem_cons.mpr ⟨lw_p0, List.forall_mem_cons.mpr ⟨lw_p1, List.forall_mem_cons.mpr ⟨lw_p2, List.forall_mem_cons.mpr ⟨lw_p3, List.forall_mem_cons.mpr ⟨lw_p4, List.forall_mem_cons.mpr ⟨lw_p5, List.forall_mem_cons.mpr ⟨lw_p6, List.forall_mem_cons.mpr ⟨lw_p7, List.forall_mem_cons.mpr ⟨lw_p8, List.forall_mem_cons.mpr ⟨lw_p9, List.forall_mem_cons.mpr ⟨lw_p10, List.forall_mem_cons.mpr ⟨lw_p11, List.forall_mem_cons.mpr ⟨lw_p12, List.forall_mem_cons.mpr ⟨lw_p13, List.forall_mem_cons.mpr ⟨lw_p14, List.forall_mem_cons.mpr ⟨lw_p15, fun _ h => absurd h List.not_mem_nil⟩⟩⟩⟩⟩⟩⟩⟩⟩⟩⟩⟩⟩⟩⟩⟩
theorem lw_p16 : lw_okq (⟨"LimbScore$Walk", "step", "(III)V"⟩, 6) := ⟨⟨by decide +kernel, by decide +kernel⟩, List.mem_of_getElem? (i := 97) (by decide +kernel), List.mem_of_getElem? (i := 542) (by decide +kernel), List.mem_of_getElem? (i := 543) (by decide +kernel)⟩
theorem lw_p17 : lw_okq (⟨"LimbScore", "canTryPhrase", "()Z"⟩, 9) := ⟨⟨by decide +kernel, by decide +kernel⟩, List.mem_of_getElem? (i := 13) (by decide +kernel), List.mem_of_getElem? (i := 604) (by decide +kernel), List.mem_of_getElem? (i := 605) (by decide +kernel)⟩
def lw_privs_2 : List (MethodName × Nat) := [(⟨"LimbScore$Walk", "step", "(III)V"⟩, 6), (⟨"LimbScore", "canTryPhrase", "()Z"⟩, 9)]
theorem lw_r2 : ∀ q ∈ lw_privs_2, lw_okq q := List.forall_mem_cons.mpr ⟨lw_p16, List.forall_mem_cons.mpr ⟨lw_p17, fun _ h => absurd h List.not_mem_nil⟩⟩
def lw_privs : List (MethodName × Nat) := lw_privs_1 ++ (lw_privs_2)
def lw_tbl : List Cond := k2_sels lw_privs ++ tables_1
theorem lw_privs_ok : ∀ q ∈ lw_privs, lw_okq q := by
  show ∀ q ∈ lw_privs_1 ++ (lw_privs_2), lw_okq q
  exact List.forall_mem_append.mpr ⟨lw_r1, lw_r2⟩
def RX0 : String := "LimbScore$Comparison"
def TX0 : u_T := fun k => match k with
  | 0 => ("LimbScore$Comparison", "row", "[I", true)
  | 1 => ("LimbScore$Comparison", "otherRow", "[I", true)
  | _ => ("LimbScore$Comparison", "differences", "[I", true)
def tyX0 : Nat → FieldType := fun k => match k with
  | 0 => .array .int
  | 1 => .array .int
  | _ => .array .int
abbrev wsX00 : List Cond := u_ws RX0 TX0 3
theorem nmX0 : ∀ a, a < 3 → ∀ b, b < 3 → a ≠ b → (TX0 a).2.1 ≠ (TX0 b).2.1 := by decide +kernel
theorem tyX0_ok : ∀ k, k < 3 → parseFieldDescriptor (TX0 k).2.2.1 = some (tyX0 k) := by decide +kernel
abbrev cX0_init : ByteArray := prog_2_method_1_code
def yX0_init : MethodName := ⟨RX0, "<init>", "()V"⟩
abbrev cX0_begin : ByteArray := prog_2_method_2_code
def yX0_begin : MethodName := ⟨RX0, "begin", "()V"⟩
abbrev cX0_compare : ByteArray := prog_2_method_3_code
def yX0_compare : MethodName := ⟨RX0, "compare", "(LLimbScore$Score;IIIZ)V"⟩
abbrev cX0_alikeBeats : ByteArray := prog_2_method_4_code
def yX0_alikeBeats : MethodName := ⟨RX0, "alikeBeats", "(I)I"⟩
def RX1 : String := "LimbScore$History"
def TX1 : u_T := fun k => match k with
  | 0 => ("LimbScore$History", "size", "I", false)
  | _ => ("LimbScore$History", "states", "[I", true)
def tyX1 : Nat → FieldType := fun k => match k with
  | 0 => .int
  | _ => .array .int
abbrev wsX10 : List Cond := u_ws RX1 TX1 2
theorem nmX1 : ∀ a, a < 2 → ∀ b, b < 2 → a ≠ b → (TX1 a).2.1 ≠ (TX1 b).2.1 := by decide +kernel
theorem tyX1_ok : ∀ k, k < 2 → parseFieldDescriptor (TX1 k).2.2.1 = some (tyX1 k) := by decide +kernel
abbrev cX1_init : ByteArray := prog_3_method_1_code
def yX1_init : MethodName := ⟨RX1, "<init>", "()V"⟩
abbrev cX1_keep : ByteArray := prog_3_method_2_code
def yX1_keep : MethodName := ⟨RX1, "keep", "(LLimbScore$Score;)V"⟩
abbrev cX1_restore : ByteArray := prog_3_method_3_code
def yX1_restore : MethodName := ⟨RX1, "restore", "(LLimbScore$Score;)V"⟩
def RX2 : String := "LimbScore$Score"
def TX2 : u_T := fun k => match k with
  | 0 => ("LimbScore$Score", "length", "I", false)
  | 1 => ("LimbScore$Score", "leap", "I", false)
  | 2 => ("LimbScore$Score", "size", "I", false)
  | _ => ("LimbScore$Score", "signs", "[I", true)
def tyX2 : Nat → FieldType := fun k => match k with
  | 0 => .int
  | 1 => .int
  | 2 => .int
  | _ => .array .int
abbrev wsX20 : List Cond := u_ws RX2 TX2 4
theorem nmX2 : ∀ a, a < 4 → ∀ b, b < 4 → a ≠ b → (TX2 a).2.1 ≠ (TX2 b).2.1 := by decide +kernel
theorem tyX2_ok : ∀ k, k < 4 → parseFieldDescriptor (TX2 k).2.2.1 = some (tyX2 k) := by decide +kernel
abbrev cX2_init : ByteArray := prog_4_method_1_code
def yX2_init : MethodName := ⟨RX2, "<init>", "()V"⟩
abbrev cX2_empty : ByteArray := prog_4_method_2_code
def yX2_empty : MethodName := ⟨RX2, "empty", "(I)V"⟩
abbrev cX2_emptyAs : ByteArray := prog_4_method_3_code
def yX2_emptyAs : MethodName := ⟨RX2, "emptyAs", "(LLimbScore$Score;)V"⟩
abbrev cX2_become : ByteArray := prog_4_method_4_code
def yX2_become : MethodName := ⟨RX2, "become", "(LLimbScore$Score;)V"⟩
abbrev cX2_at : ByteArray := prog_4_method_5_code
def yX2_at : MethodName := ⟨RX2, "at", "(I)I"⟩
abbrev cX2_hasRoomFor : ByteArray := prog_4_method_6_code
def yX2_hasRoomFor : MethodName := ⟨RX2, "hasRoomFor", "(I)Z"⟩
abbrev cX2_put : ByteArray := prog_4_method_7_code
def yX2_put : MethodName := ⟨RX2, "put", "(I)I"⟩
abbrev cX2_takeOut : ByteArray := prog_4_method_8_code
def yX2_takeOut : MethodName := ⟨RX2, "takeOut", "(I)V"⟩
abbrev cX2_endOf : ByteArray := prog_4_method_9_code
def yX2_endOf : MethodName := ⟨RX2, "endOf", "(I)I"⟩
abbrev cX2_numberCovering : ByteArray := prog_4_method_10_code
def yX2_numberCovering : MethodName := ⟨RX2, "numberCovering", "(II)I"⟩
abbrev cX2_fillRow : ByteArray := prog_4_method_11_code
def yX2_fillRow : MethodName := ⟨RX2, "fillRow", "(I[I)V"⟩
def RX3 : String := "LimbScore$Script"
def TX3 : u_T := fun k => match k with
  | 0 => ("LimbScore$Script", "size", "I", false)
  | 1 => ("LimbScore$Script", "position", "I", false)
  | 2 => ("LimbScore$Script", "characters", "[I", true)
  | _ => ("LimbScore$Script", "nextBegins", "[I", true)
def tyX3 : Nat → FieldType := fun k => match k with
  | 0 => .int
  | 1 => .int
  | 2 => .array .int
  | _ => .array .int
abbrev wsX30 : List Cond := u_ws RX3 TX3 4
theorem nmX3 : ∀ a, a < 4 → ∀ b, b < 4 → a ≠ b → (TX3 a).2.1 ≠ (TX3 b).2.1 := by decide +kernel
theorem tyX3_ok : ∀ k, k < 4 → parseFieldDescriptor (TX3 k).2.2.1 = some (tyX3 k) := by decide +kernel
abbrev cX3_init : ByteArray := prog_5_method_1_code
def yX3_init : MethodName := ⟨RX3, "<init>", "()V"⟩
abbrev cX3_append : ByteArray := prog_5_method_2_code
def yX3_append : MethodName := ⟨RX3, "append", "(I)V"⟩
abbrev cX3_readFor : ByteArray := prog_5_method_3_code
def yX3_readFor : MethodName := ⟨RX3, "readFor", "(LLimbScore$Score;LLimbScore$Score;)I"⟩
abbrev cX3_readItem : ByteArray := prog_5_method_4_code
def yX3_readItem : MethodName := ⟨RX3, "readItem", "(LLimbScore$Score;)Z"⟩
abbrev cX3_spanOf : ByteArray := prog_5_method_5_code
def yX3_spanOf : MethodName := ⟨RX3, "spanOf", "(I)I"⟩
abbrev cX3_isTaken : ByteArray := prog_5_method_6_code
def yX3_isTaken : MethodName := ⟨RX3, "isTaken", "(LLimbScore$Score;I)Z"⟩
abbrev cX3_readSign : ByteArray := prog_5_method_7_code
def yX3_readSign : MethodName := ⟨RX3, "readSign", "(III)I"⟩
abbrev cX3_readMove : ByteArray := prog_5_method_8_code
def yX3_readMove : MethodName := ⟨RX3, "readMove", "(II)I"⟩
abbrev cX3_readTurn : ByteArray := prog_5_method_9_code
def yX3_readTurn : MethodName := ⟨RX3, "readTurn", "(II)I"⟩
abbrev cX3_levelNamed : ByteArray := prog_5_method_10_code
def yX3_levelNamed : MethodName := ⟨RX3, "levelNamed", "(I)I"⟩
abbrev cX3_readLength : ByteArray := prog_5_method_11_code
def yX3_readLength : MethodName := ⟨RX3, "readLength", "()I"⟩
abbrev cX3_readDigit : ByteArray := prog_5_method_12_code
def yX3_readDigit : MethodName := ⟨RX3, "readDigit", "()I"⟩
abbrev cX3_readCharacter : ByteArray := prog_5_method_13_code
def yX3_readCharacter : MethodName := ⟨RX3, "readCharacter", "()I"⟩
abbrev cX3_digitAt : ByteArray := prog_5_method_14_code
def yX3_digitAt : MethodName := ⟨RX3, "digitAt", "(I)I"⟩
def RX4 : String := "LimbScore$Sign"
def TX4 : u_T := fun k => match k with
  | _ => ("", "", "", false)
def tyX4 : Nat → FieldType := fun k => match k with
  | _ => .int
abbrev wsX40 : List Cond := u_ws RX4 TX4 0
theorem nmX4 : ∀ a, a < 0 → ∀ b, b < 0 → a ≠ b → (TX4 a).2.1 ≠ (TX4 b).2.1 := by decide +kernel
theorem tyX4_ok : ∀ k, k < 0 → parseFieldDescriptor (TX4 k).2.2.1 = some (tyX4 k) := by decide +kernel
abbrev cX4_move : ByteArray := prog_6_method_2_code
def yX4_move : MethodName := ⟨RX4, "move", "(IIIII)I"⟩
abbrev cX4_hold : ByteArray := prog_6_method_3_code
def yX4_hold : MethodName := ⟨RX4, "hold", "(II)I"⟩
abbrev cX4_turn : ByteArray := prog_6_method_4_code
def yX4_turn : MethodName := ⟨RX4, "turn", "(IIII)I"⟩
abbrev cX4_release : ByteArray := prog_6_method_5_code
def yX4_release : MethodName := ⟨RX4, "release", "(III)I"⟩
abbrev cX4_packed : ByteArray := prog_6_method_6_code
def yX4_packed : MethodName := ⟨RX4, "packed", "(IIIIIII)I"⟩
abbrev cX4_beginOf : ByteArray := prog_6_method_7_code
def yX4_beginOf : MethodName := ⟨RX4, "beginOf", "(I)I"⟩
abbrev cX4_columnOf : ByteArray := prog_6_method_8_code
def yX4_columnOf : MethodName := ⟨RX4, "columnOf", "(I)I"⟩
abbrev cX4_spanOf : ByteArray := prog_6_method_9_code
def yX4_spanOf : MethodName := ⟨RX4, "spanOf", "(I)I"⟩
abbrev cX4_kindOf : ByteArray := prog_6_method_10_code
def yX4_kindOf : MethodName := ⟨RX4, "kindOf", "(I)I"⟩
abbrev cX4_directionOf : ByteArray := prog_6_method_11_code
def yX4_directionOf : MethodName := ⟨RX4, "directionOf", "(I)I"⟩
abbrev cX4_levelOf : ByteArray := prog_6_method_12_code
def yX4_levelOf : MethodName := ⟨RX4, "levelOf", "(I)I"⟩
abbrev cX4_amountOf : ByteArray := prog_6_method_13_code
def yX4_amountOf : MethodName := ⟨RX4, "amountOf", "(I)I"⟩
abbrev cX4_shortEndOf : ByteArray := prog_6_method_14_code
def yX4_shortEndOf : MethodName := ⟨RX4, "shortEndOf", "(I)I"⟩
abbrev cX4_lookOf : ByteArray := prog_6_method_15_code
def yX4_lookOf : MethodName := ⟨RX4, "lookOf", "(I)I"⟩
abbrev cX4_movedTo : ByteArray := prog_6_method_16_code
def yX4_movedTo : MethodName := ⟨RX4, "movedTo", "(II)I"⟩
abbrev cX4_turnedBack : ByteArray := prog_6_method_17_code
def yX4_turnedBack : MethodName := ⟨RX4, "turnedBack", "(I)I"⟩
abbrev cX4_mirrored : ByteArray := prog_6_method_18_code
def yX4_mirrored : MethodName := ⟨RX4, "mirrored", "(I)I"⟩
abbrev cX4_mirroredColumn : ByteArray := prog_6_method_19_code
def yX4_mirroredColumn : MethodName := ⟨RX4, "mirroredColumn", "(I)I"⟩
abbrev cX4_mirroredDirection : ByteArray := prog_6_method_20_code
def yX4_mirroredDirection : MethodName := ⟨RX4, "mirroredDirection", "(I)I"⟩
def RX5 : String := "LimbScore$Walk"
def TX5 : u_T := fun k => match k with
  | 0 => ("LimbScore$Walk", "x", "[I", true)
  | 1 => ("LimbScore$Walk", "y", "[I", true)
  | 2 => ("LimbScore$Walk", "facing", "[I", true)
  | 3 => ("LimbScore$Walk", "turns", "[I", true)
  | 4 => ("LimbScore$Walk", "leftSteps", "[I", true)
  | _ => ("LimbScore$Walk", "rightSteps", "[I", true)
def tyX5 : Nat → FieldType := fun k => match k with
  | 0 => .array .int
  | 1 => .array .int
  | 2 => .array .int
  | 3 => .array .int
  | 4 => .array .int
  | _ => .array .int
abbrev wsX50 : List Cond := u_ws RX5 TX5 6
theorem nmX5 : ∀ a, a < 6 → ∀ b, b < 6 → a ≠ b → (TX5 a).2.1 ≠ (TX5 b).2.1 := by decide +kernel
theorem tyX5_ok : ∀ k, k < 6 → parseFieldDescriptor (TX5 k).2.2.1 = some (tyX5 k) := by decide +kernel
abbrev cX5_init : ByteArray := prog_7_method_1_code
def yX5_init : MethodName := ⟨RX5, "<init>", "()V"⟩
abbrev cX5_follow : ByteArray := prog_7_method_2_code
def yX5_follow : MethodName := ⟨RX5, "follow", "(LLimbScore$Score;)V"⟩
abbrev cX5_noteEnd : ByteArray := prog_7_method_3_code
def yX5_noteEnd : MethodName := ⟨RX5, "noteEnd", "(I)V"⟩
abbrev cX5_noteStep : ByteArray := prog_7_method_4_code
def yX5_noteStep : MethodName := ⟨RX5, "noteStep", "(II)V"⟩
abbrev cX5_step : ByteArray := prog_7_method_5_code
def yX5_step : MethodName := ⟨RX5, "step", "(III)V"⟩
abbrev cX5_distanceAt : ByteArray := prog_7_method_6_code
def yX5_distanceAt : MethodName := ⟨RX5, "distanceAt", "(I)I"⟩
def RX6 : String := "LimbScore$Weight"
def TX6 : u_T := fun k => match k with
  | 0 => ("LimbScore$Weight", "length", "I", false)
  | 1 => ("LimbScore$Weight", "leap", "I", false)
  | 2 => ("LimbScore$Weight", "footRow", "[I", true)
  | 3 => ("LimbScore$Weight", "legRow", "[I", true)
  | 4 => ("LimbScore$Weight", "feet", "[I", true)
  | 5 => ("LimbScore$Weight", "legs", "[I", true)
  | _ => ("LimbScore$Weight", "flights", "[I", true)
def tyX6 : Nat → FieldType := fun k => match k with
  | 0 => .int
  | 1 => .int
  | 2 => .array .int
  | 3 => .array .int
  | 4 => .array .int
  | 5 => .array .int
  | _ => .array .int
abbrev wsX60 : List Cond := u_ws RX6 TX6 7
theorem nmX6 : ∀ a, a < 7 → ∀ b, b < 7 → a ≠ b → (TX6 a).2.1 ≠ (TX6 b).2.1 := by decide +kernel
theorem tyX6_ok : ∀ k, k < 7 → parseFieldDescriptor (TX6 k).2.2.1 = some (tyX6 k) := by decide +kernel
abbrev cX6_init : ByteArray := prog_8_method_1_code
def yX6_init : MethodName := ⟨RX6, "<init>", "()V"⟩
abbrev cX6_weigh : ByteArray := prog_8_method_2_code
def yX6_weigh : MethodName := ⟨RX6, "weigh", "(LLimbScore$Score;)V"⟩
abbrev cX6_weighSide : ByteArray := prog_8_method_3_code
def yX6_weighSide : MethodName := ⟨RX6, "weighSide", "(LLimbScore$Score;I)V"⟩
abbrev cX6_canBear : ByteArray := prog_8_method_4_code
def yX6_canBear : MethodName := ⟨RX6, "canBear", "(I)Z"⟩
abbrev cX6_measureFlights : ByteArray := prog_8_method_5_code
def yX6_measureFlights : MethodName := ⟨RX6, "measureFlights", "()V"⟩
abbrev cX6_isWrong : ByteArray := prog_8_method_6_code
def yX6_isWrong : MethodName := ⟨RX6, "isWrong", "(I)Z"⟩
abbrev cX6_wrongBeats : ByteArray := prog_8_method_7_code
def yX6_wrongBeats : MethodName := ⟨RX6, "wrongBeats", "()I"⟩
abbrev cX6_beatsOn : ByteArray := prog_8_method_8_code
def yX6_beatsOn : MethodName := ⟨RX6, "beatsOn", "(I)I"⟩
abbrev cX6_longestFlight : ByteArray := prog_8_method_9_code
def yX6_longestFlight : MethodName := ⟨RX6, "longestFlight", "()I"⟩
abbrev cX6_flightCount : ByteArray := prog_8_method_10_code
def yX6_flightCount : MethodName := ⟨RX6, "flightCount", "()I"⟩
abbrev cX6_isAnyLegTold : ByteArray := prog_8_method_11_code
def yX6_isAnyLegTold : MethodName := ⟨RX6, "isAnyLegTold", "()Z"⟩
def RX7 : String := "LimbScore"
def TX7 : u_T := fun k => match k with
  | 0 => ("LimbScore", "score", "LLimbScore$Score;", true)
  | 1 => ("LimbScore", "phrase", "LLimbScore$Score;", true)
  | 2 => ("LimbScore", "trial", "LLimbScore$Score;", true)
  | 3 => ("LimbScore", "history", "LLimbScore$History;", true)
  | 4 => ("LimbScore", "weight", "LLimbScore$Weight;", true)
  | 5 => ("LimbScore", "walk", "LLimbScore$Walk;", true)
  | 6 => ("LimbScore", "comparison", "LLimbScore$Comparison;", true)
  | 7 => ("LimbScore", "script", "LLimbScore$Script;", true)
  | _ => ("LimbScore", "coverRow", "[I", true)
def tyX7 : Nat → FieldType := fun k => match k with
  | 0 => .object "LimbScore$Score"
  | 1 => .object "LimbScore$Score"
  | 2 => .object "LimbScore$Score"
  | 3 => .object "LimbScore$History"
  | 4 => .object "LimbScore$Weight"
  | 5 => .object "LimbScore$Walk"
  | 6 => .object "LimbScore$Comparison"
  | 7 => .object "LimbScore$Script"
  | _ => .array .int
abbrev wsX70 : List Cond := u_ws RX7 TX7 9
theorem nmX7 : ∀ a, a < 9 → ∀ b, b < 9 → a ≠ b → (TX7 a).2.1 ≠ (TX7 b).2.1 := by decide +kernel
theorem tyX7_ok : ∀ k, k < 9 → parseFieldDescriptor (TX7 k).2.2.1 = some (tyX7 k) := by decide +kernel
abbrev cX7_init : ByteArray := prog_1_method_1_code
def yX7_init : MethodName := ⟨RX7, "<init>", "()V"⟩
abbrev cX7_reset : ByteArray := prog_1_method_2_code
def yX7_reset : MethodName := ⟨RX7, "reset", "(I)I"⟩
abbrev cX7_addMove : ByteArray := prog_1_method_3_code
def yX7_addMove : MethodName := ⟨RX7, "addMove", "(IIIII)I"⟩
abbrev cX7_removeSign : ByteArray := prog_1_method_7_code
def yX7_removeSign : MethodName := ⟨RX7, "removeSign", "(I)I"⟩
abbrev cX7_copyPhrase : ByteArray := prog_1_method_8_code
def yX7_copyPhrase : MethodName := ⟨RX7, "copyPhrase", "(IIIII)I"⟩
abbrev cX7_setLeap : ByteArray := prog_1_method_9_code
def yX7_setLeap : MethodName := ⟨RX7, "setLeap", "(I)I"⟩
abbrev cX7_lay : ByteArray := prog_1_method_10_code
def yX7_lay : MethodName := ⟨RX7, "lay", "()I"⟩
abbrev cX7_undo : ByteArray := prog_1_method_11_code
def yX7_undo : MethodName := ⟨RX7, "undo", "()I"⟩
abbrev cX7_count : ByteArray := prog_1_method_12_code
def yX7_count : MethodName := ⟨RX7, "count", "(I)I"⟩
abbrev cX7_sign : ByteArray := prog_1_method_13_code
def yX7_sign : MethodName := ⟨RX7, "sign", "(II)I"⟩
abbrev cX7_signAt : ByteArray := prog_1_method_14_code
def yX7_signAt : MethodName := ⟨RX7, "signAt", "(II)I"⟩
abbrev cX7_isFaulty : ByteArray := prog_1_method_17_code
def yX7_isFaulty : MethodName := ⟨RX7, "isFaulty", "(I)I"⟩
abbrev cX7_nextFault : ByteArray := prog_1_method_18_code
def yX7_nextFault : MethodName := ⟨RX7, "nextFault", "(I)I"⟩
abbrev cX7_beats : ByteArray := prog_1_method_19_code
def yX7_beats : MethodName := ⟨RX7, "beats", "(I)I"⟩
abbrev cX7_leastLeap : ByteArray := prog_1_method_20_code
def yX7_leastLeap : MethodName := ⟨RX7, "leastLeap", "()I"⟩
abbrev cX7_covered : ByteArray := prog_1_method_21_code
def yX7_covered : MethodName := ⟨RX7, "covered", "(II)I"⟩
abbrev cX7_floor : ByteArray := prog_1_method_22_code
def yX7_floor : MethodName := ⟨RX7, "floor", "(II)I"⟩
abbrev cX7_farthest : ByteArray := prog_1_method_24_code
def yX7_farthest : MethodName := ⟨RX7, "farthest", "()I"⟩
abbrev cX7_alike : ByteArray := prog_1_method_25_code
def yX7_alike : MethodName := ⟨RX7, "alike", "(IIII)I"⟩
abbrev cX7_type : ByteArray := prog_1_method_26_code
def yX7_type : MethodName := ⟨RX7, "type", "(I)I"⟩
abbrev cX7_clearText : ByteArray := prog_1_method_27_code
def yX7_clearText : MethodName := ⟨RX7, "clearText", "()I"⟩
abbrev cX7_fault : ByteArray := prog_1_method_28_code
def yX7_fault : MethodName := ⟨RX7, "fault", "()I"⟩
abbrev cX7_isWithin : ByteArray := prog_1_method_29_code
def yX7_isWithin : MethodName := ⟨RX7, "isWithin", "(III)Z"⟩
abbrev cX7_isFlag : ByteArray := prog_1_method_30_code
def yX7_isFlag : MethodName := ⟨RX7, "isFlag", "(I)Z"⟩
abbrev cX7_isColumn : ByteArray := prog_1_method_31_code
def yX7_isColumn : MethodName := ⟨RX7, "isColumn", "(I)Z"⟩
abbrev cX7_isBeat : ByteArray := prog_1_method_32_code
def yX7_isBeat : MethodName := ⟨RX7, "isBeat", "(I)Z"⟩
abbrev cX7_isSpan : ByteArray := prog_1_method_33_code
def yX7_isSpan : MethodName := ⟨RX7, "isSpan", "(II)Z"⟩
abbrev cX7_isPhrase : ByteArray := prog_1_method_34_code
def yX7_isPhrase : MethodName := ⟨RX7, "isPhrase", "(II)Z"⟩
abbrev cX7_addSign : ByteArray := prog_1_method_35_code
def yX7_addSign : MethodName := ⟨RX7, "addSign", "(I)I"⟩
abbrev cX7_isInPhrase : ByteArray := prog_1_method_36_code
def yX7_isInPhrase : MethodName := ⟨RX7, "isInPhrase", "(III)Z"⟩
abbrev cX7_copyOf : ByteArray := prog_1_method_37_code
def yX7_copyOf : MethodName := ⟨RX7, "copyOf", "(III)I"⟩
abbrev cX7_canTryPhrase : ByteArray := prog_1_method_38_code
def yX7_canTryPhrase : MethodName := ⟨RX7, "canTryPhrase", "()Z"⟩
def RX8 : String := "LimbScoreModel"
def TX8 : u_T := fun k => match k with
  | _ => ("", "", "", false)
def tyX8 : Nat → FieldType := fun k => match k with
  | _ => .int
abbrev wsX80 : List Cond := u_ws RX8 TX8 0
theorem nmX8 : ∀ a, a < 0 → ∀ b, b < 0 → a ≠ b → (TX8 a).2.1 ≠ (TX8 b).2.1 := by decide +kernel
theorem tyX8_ok : ∀ k, k < 0 → parseFieldDescriptor (TX8 k).2.2.1 = some (tyX8 k) := by decide +kernel
def RJ9 : String := "java/lang/Math"
def TJ9 : u_T := fun k => match k with
  | _ => ("", "", "", false)
def tyJ9 : Nat → FieldType := fun k => match k with
  | _ => .int
theorem nmJ9 : ∀ a, a < 0 → ∀ b, b < 0 → a ≠ b → (TJ9 a).2.1 ≠ (TJ9 b).2.1 := by decide +kernel
theorem tyJ9_ok : ∀ k, k < 0 → parseFieldDescriptor (TJ9 k).2.2.1 = some (tyJ9 k) := by decide +kernel
abbrev cJ9_floorMod_7cf53 : ByteArray := prog_11_method_50_code
def yJ9_floorMod_7cf53 : MethodName := ⟨RJ9, "floorMod", "(II)I"⟩
abbrev cJ9_abs_0f7a4 : ByteArray := prog_11_method_59_code
def yJ9_abs_0f7a4 : MethodName := ⟨RJ9, "abs", "(I)I"⟩
abbrev cJ9_max_7cf53 : ByteArray := prog_11_method_65_code
def yJ9_max_7cf53 : MethodName := ⟨RJ9, "max", "(II)I"⟩
abbrev cJ9_min_7cf53 : ByteArray := prog_11_method_69_code
def yJ9_min_7cf53 : MethodName := ⟨RJ9, "min", "(II)I"⟩
def RJ10 : String := "java/lang/System"
def TJ10 : u_T := fun k => match k with
  | _ => ("", "", "", false)
def tyJ10 : Nat → FieldType := fun k => match k with
  | _ => .int
theorem nmJ10 : ∀ a, a < 0 → ∀ b, b < 0 → a ≠ b → (TJ10 a).2.1 ≠ (TJ10 b).2.1 := by decide +kernel
theorem tyJ10_ok : ∀ k, k < 0 → parseFieldDescriptor (TJ10 k).2.2.1 = some (tyJ10 k) := by decide +kernel
def RJ7 : String := "java/util/Arrays"
def TJ7 : u_T := fun k => match k with
  | _ => ("", "", "", false)
def tyJ7 : Nat → FieldType := fun k => match k with
  | _ => .int
theorem nmJ7 : ∀ a, a < 0 → ∀ b, b < 0 → a ≠ b → (TJ7 a).2.1 ≠ (TJ7 b).2.1 := by decide +kernel
theorem tyJ7_ok : ∀ k, k < 0 → parseFieldDescriptor (TJ7 k).2.2.1 = some (tyJ7 k) := by decide +kernel
abbrev cJ7_fill_53178 : ByteArray := prog_13_method_103_code
def yJ7_fill_53178 : MethodName := ⟨RJ7, "fill", "([II)V"⟩
def RL : String := "LimbScoreLaw"
abbrev cL_cell : ByteArray := method_2_code
def yL_cell : MethodName := ⟨RL, "cell", "([II)I"⟩
abbrev cL_types : ByteArray := method_3_code
def yL_types : MethodName := ⟨RL, "types", "(LLimbScore;[II)I"⟩
abbrev cL_holds : ByteArray := method_4_code
def yL_holds : MethodName := ⟨RL, "holds", "(LLimbScore;)Z"⟩
abbrev cL_copied : ByteArray := method_5_code
def yL_copied : MethodName := ⟨RL, "copied", "(LLimbScore;[II)Z"⟩
abbrev cL_law : ByteArray := code
def yL_law : MethodName := ⟨RL, "law", "([I)Z"⟩
theorem dX0_init_0 : decode cX0_init 0 = .ok (.aload_n 0, 1) := by decide +kernel
theorem dX0_init_1 : decode cX0_init 1 = .ok (.invokespecial 3, 3) := by decide +kernel
theorem dX0_init_4 : decode cX0_init 4 = .ok (.aload_n 0, 1) := by decide +kernel
theorem dX0_init_5 : decode cX0_init 5 = .ok (.bipush 48, 2) := by decide +kernel
theorem dX0_init_7 : decode cX0_init 7 = .ok (.newarray .int, 2) := by decide +kernel
theorem dX0_init_9 : decode cX0_init 9 = .ok (.putfield 9, 3) := by decide +kernel
theorem dX0_init_12 : decode cX0_init 12 = .ok (.aload_n 0, 1) := by decide +kernel
theorem dX0_init_13 : decode cX0_init 13 = .ok (.bipush 48, 2) := by decide +kernel
theorem dX0_init_15 : decode cX0_init 15 = .ok (.newarray .int, 2) := by decide +kernel
theorem dX0_init_17 : decode cX0_init 17 = .ok (.putfield 15, 3) := by decide +kernel
theorem dX0_init_20 : decode cX0_init 20 = .ok (.aload_n 0, 1) := by decide +kernel
theorem dX0_init_21 : decode cX0_init 21 = .ok (.bipush 48, 2) := by decide +kernel
theorem dX0_init_23 : decode cX0_init 23 = .ok (.newarray .int, 2) := by decide +kernel
theorem dX0_init_25 : decode cX0_init 25 = .ok (.putfield 18, 3) := by decide +kernel
theorem dX0_init_28 : decode cX0_init 28 = .ok (.return_, 1) := by decide +kernel
theorem dX0_begin_0 : decode cX0_begin 0 = .ok (.aload_n 0, 1) := by decide +kernel
theorem dX0_begin_1 : decode cX0_begin 1 = .ok (.getfield 18, 3) := by decide +kernel
theorem dX0_begin_4 : decode cX0_begin 4 = .ok (.iconst 0, 1) := by decide +kernel
theorem dX0_begin_5 : decode cX0_begin 5 = .ok (.invokestatic 21, 3) := by decide +kernel
theorem dX0_begin_8 : decode cX0_begin 8 = .ok (.return_, 1) := by decide +kernel
theorem dX0_compare_0 : decode cX0_compare 0 = .ok (.aload_n 1, 1) := by decide +kernel
theorem dX0_compare_1 : decode cX0_compare 1 = .ok (.iload_n 2, 1) := by decide +kernel
theorem dX0_compare_2 : decode cX0_compare 2 = .ok (.aload_n 0, 1) := by decide +kernel
theorem dX0_compare_3 : decode cX0_compare 3 = .ok (.getfield 9, 3) := by decide +kernel
theorem dX0_compare_6 : decode cX0_compare 6 = .ok (.invokevirtual 27, 3) := by decide +kernel
theorem dX0_compare_9 : decode cX0_compare 9 = .ok (.aload_n 1, 1) := by decide +kernel
theorem dX0_compare_10 : decode cX0_compare 10 = .ok (.iload 5, 2) := by decide +kernel
theorem dX0_compare_12 : decode cX0_compare 12 = .ok (.ifCond .eq 10, 3) := by decide +kernel
theorem dX0_compare_15 : decode cX0_compare 15 = .ok (.iload_n 2, 1) := by decide +kernel
theorem dX0_compare_16 : decode cX0_compare 16 = .ok (.invokestatic 33, 3) := by decide +kernel
theorem dX0_compare_19 : decode cX0_compare 19 = .ok (.goto 4, 3) := by decide +kernel
theorem dX0_compare_22 : decode cX0_compare 22 = .ok (.iload_n 2, 1) := by decide +kernel
theorem dX0_compare_23 : decode cX0_compare 23 = .ok (.aload_n 0, 1) := by decide +kernel
theorem dX0_compare_24 : decode cX0_compare 24 = .ok (.getfield 15, 3) := by decide +kernel
theorem dX0_compare_27 : decode cX0_compare 27 = .ok (.invokevirtual 27, 3) := by decide +kernel
theorem dX0_compare_30 : decode cX0_compare 30 = .ok (.aload_n 1, 1) := by decide +kernel
theorem dX0_compare_31 : decode cX0_compare 31 = .ok (.getfield 39, 3) := by decide +kernel
theorem dX0_compare_34 : decode cX0_compare 34 = .ok (.iload_n 3, 1) := by decide +kernel
theorem dX0_compare_35 : decode cX0_compare 35 = .ok (.iload 4, 2) := by decide +kernel
theorem dX0_compare_37 : decode cX0_compare 37 = .ok (.invokestatic 43, 3) := by decide +kernel
theorem dX0_compare_40 : decode cX0_compare 40 = .ok (.isub, 1) := by decide +kernel
theorem dX0_compare_41 : decode cX0_compare 41 = .ok (.istore 6, 2) := by decide +kernel
theorem dX0_compare_43 : decode cX0_compare 43 = .ok (.iconst 0, 1) := by decide +kernel
theorem dX0_compare_44 : decode cX0_compare 44 = .ok (.istore 7, 2) := by decide +kernel
theorem dX0_compare_46 : decode cX0_compare 46 = .ok (.iload 7, 2) := by decide +kernel
theorem dX0_compare_48 : decode cX0_compare 48 = .ok (.iload 6, 2) := by decide +kernel
theorem dX0_compare_50 : decode cX0_compare 50 = .ok (.if_icmp .ge 73, 3) := by decide +kernel
theorem dX0_compare_53 : decode cX0_compare 53 = .ok (.iload 5, 2) := by decide +kernel
theorem dX0_compare_55 : decode cX0_compare 55 = .ok (.ifCond .eq 19, 3) := by decide +kernel
theorem dX0_compare_58 : decode cX0_compare 58 = .ok (.aload_n 0, 1) := by decide +kernel
theorem dX0_compare_59 : decode cX0_compare 59 = .ok (.getfield 15, 3) := by decide +kernel
theorem dX0_compare_62 : decode cX0_compare 62 = .ok (.iload 4, 2) := by decide +kernel
theorem dX0_compare_64 : decode cX0_compare 64 = .ok (.iload 7, 2) := by decide +kernel
theorem dX0_compare_66 : decode cX0_compare 66 = .ok (.iadd, 1) := by decide +kernel
theorem dX0_compare_67 : decode cX0_compare 67 = .ok (.iaload, 1) := by decide +kernel
theorem dX0_compare_68 : decode cX0_compare 68 = .ok (.invokestatic 49, 3) := by decide +kernel
theorem dX0_compare_71 : decode cX0_compare 71 = .ok (.goto 13, 3) := by decide +kernel
theorem dX0_compare_74 : decode cX0_compare 74 = .ok (.aload_n 0, 1) := by decide +kernel
theorem dX0_compare_75 : decode cX0_compare 75 = .ok (.getfield 15, 3) := by decide +kernel
theorem dX0_compare_78 : decode cX0_compare 78 = .ok (.iload 4, 2) := by decide +kernel
theorem dX0_compare_80 : decode cX0_compare 80 = .ok (.iload 7, 2) := by decide +kernel
theorem dX0_compare_82 : decode cX0_compare 82 = .ok (.iadd, 1) := by decide +kernel
theorem dX0_compare_83 : decode cX0_compare 83 = .ok (.iaload, 1) := by decide +kernel
theorem dX0_compare_84 : decode cX0_compare 84 = .ok (.istore 8, 2) := by decide +kernel
theorem dX0_compare_86 : decode cX0_compare 86 = .ok (.aload_n 0, 1) := by decide +kernel
theorem dX0_compare_87 : decode cX0_compare 87 = .ok (.getfield 9, 3) := by decide +kernel
theorem dX0_compare_90 : decode cX0_compare 90 = .ok (.iload_n 3, 1) := by decide +kernel
theorem dX0_compare_91 : decode cX0_compare 91 = .ok (.iload 7, 2) := by decide +kernel
theorem dX0_compare_93 : decode cX0_compare 93 = .ok (.iadd, 1) := by decide +kernel
theorem dX0_compare_94 : decode cX0_compare 94 = .ok (.iaload, 1) := by decide +kernel
theorem dX0_compare_95 : decode cX0_compare 95 = .ok (.invokestatic 52, 3) := by decide +kernel
theorem dX0_compare_98 : decode cX0_compare 98 = .ok (.iload 8, 2) := by decide +kernel
theorem dX0_compare_100 : decode cX0_compare 100 = .ok (.invokestatic 52, 3) := by decide +kernel
theorem dX0_compare_103 : decode cX0_compare 103 = .ok (.if_icmp .eq 14, 3) := by decide +kernel
theorem dX0_compare_106 : decode cX0_compare 106 = .ok (.aload_n 0, 1) := by decide +kernel
theorem dX0_compare_107 : decode cX0_compare 107 = .ok (.getfield 18, 3) := by decide +kernel
theorem dX0_compare_110 : decode cX0_compare 110 = .ok (.iload 7, 2) := by decide +kernel
theorem dX0_compare_112 : decode cX0_compare 112 = .ok (.dup2, 1) := by decide +kernel
theorem dX0_compare_113 : decode cX0_compare 113 = .ok (.iaload, 1) := by decide +kernel
theorem dX0_compare_114 : decode cX0_compare 114 = .ok (.iconst 1, 1) := by decide +kernel
theorem dX0_compare_115 : decode cX0_compare 115 = .ok (.iadd, 1) := by decide +kernel
theorem dX0_compare_116 : decode cX0_compare 116 = .ok (.iastore, 1) := by decide +kernel
theorem dX0_compare_117 : decode cX0_compare 117 = .ok (.iinc 7 1, 3) := by decide +kernel
theorem dX0_compare_120 : decode cX0_compare 120 = .ok (.goto (-74), 3) := by decide +kernel
theorem dX0_compare_123 : decode cX0_compare 123 = .ok (.return_, 1) := by decide +kernel
theorem dX0_alikeBeats_0 : decode cX0_alikeBeats 0 = .ok (.iconst 0, 1) := by decide +kernel
theorem dX0_alikeBeats_1 : decode cX0_alikeBeats 1 = .ok (.istore_n 2, 1) := by decide +kernel
theorem dX0_alikeBeats_2 : decode cX0_alikeBeats 2 = .ok (.iconst 0, 1) := by decide +kernel
theorem dX0_alikeBeats_3 : decode cX0_alikeBeats 3 = .ok (.istore_n 3, 1) := by decide +kernel
theorem dX0_alikeBeats_4 : decode cX0_alikeBeats 4 = .ok (.iload_n 3, 1) := by decide +kernel
theorem dX0_alikeBeats_5 : decode cX0_alikeBeats 5 = .ok (.iload_n 1, 1) := by decide +kernel
theorem dX0_alikeBeats_6 : decode cX0_alikeBeats 6 = .ok (.if_icmp .ge 21, 3) := by decide +kernel
theorem dX0_alikeBeats_9 : decode cX0_alikeBeats 9 = .ok (.aload_n 0, 1) := by decide +kernel
theorem dX0_alikeBeats_10 : decode cX0_alikeBeats 10 = .ok (.getfield 18, 3) := by decide +kernel
theorem dX0_alikeBeats_13 : decode cX0_alikeBeats 13 = .ok (.iload_n 3, 1) := by decide +kernel
theorem dX0_alikeBeats_14 : decode cX0_alikeBeats 14 = .ok (.iaload, 1) := by decide +kernel
theorem dX0_alikeBeats_15 : decode cX0_alikeBeats 15 = .ok (.ifCond .ne 6, 3) := by decide +kernel
theorem dX0_alikeBeats_18 : decode cX0_alikeBeats 18 = .ok (.iinc 2 1, 3) := by decide +kernel
theorem dX0_alikeBeats_21 : decode cX0_alikeBeats 21 = .ok (.iinc 3 1, 3) := by decide +kernel
theorem dX0_alikeBeats_24 : decode cX0_alikeBeats 24 = .ok (.goto (-20), 3) := by decide +kernel
theorem dX0_alikeBeats_27 : decode cX0_alikeBeats 27 = .ok (.iload_n 2, 1) := by decide +kernel
theorem dX0_alikeBeats_28 : decode cX0_alikeBeats 28 = .ok (.ireturn, 1) := by decide +kernel
theorem dX1_init_0 : decode cX1_init 0 = .ok (.aload_n 0, 1) := by decide +kernel
theorem dX1_init_1 : decode cX1_init 1 = .ok (.invokespecial 5, 3) := by decide +kernel
theorem dX1_init_4 : decode cX1_init 4 = .ok (.aload_n 0, 1) := by decide +kernel
theorem dX1_init_5 : decode cX1_init 5 = .ok (.iconst 0, 1) := by decide +kernel
theorem dX1_init_6 : decode cX1_init 6 = .ok (.putfield 11, 3) := by decide +kernel
theorem dX1_init_9 : decode cX1_init 9 = .ok (.aload_n 0, 1) := by decide +kernel
theorem dX1_init_10 : decode cX1_init 10 = .ok (.sipush 378, 3) := by decide +kernel
theorem dX1_init_13 : decode cX1_init 13 = .ok (.newarray .int, 2) := by decide +kernel
theorem dX1_init_15 : decode cX1_init 15 = .ok (.putfield 15, 3) := by decide +kernel
theorem dX1_init_18 : decode cX1_init 18 = .ok (.return_, 1) := by decide +kernel
theorem dX1_keep_0 : decode cX1_keep 0 = .ok (.aload_n 0, 1) := by decide +kernel
theorem dX1_keep_1 : decode cX1_keep 1 = .ok (.getfield 11, 3) := by decide +kernel
theorem dX1_keep_4 : decode cX1_keep 4 = .ok (.bipush 6, 2) := by decide +kernel
theorem dX1_keep_6 : decode cX1_keep 6 = .ok (.if_icmp .ne 30, 3) := by decide +kernel
theorem dX1_keep_9 : decode cX1_keep 9 = .ok (.aload_n 0, 1) := by decide +kernel
theorem dX1_keep_10 : decode cX1_keep 10 = .ok (.getfield 15, 3) := by decide +kernel
theorem dX1_keep_13 : decode cX1_keep 13 = .ok (.bipush 63, 2) := by decide +kernel
theorem dX1_keep_15 : decode cX1_keep 15 = .ok (.aload_n 0, 1) := by decide +kernel
theorem dX1_keep_16 : decode cX1_keep 16 = .ok (.getfield 15, 3) := by decide +kernel
theorem dX1_keep_19 : decode cX1_keep 19 = .ok (.iconst 0, 1) := by decide +kernel
theorem dX1_keep_20 : decode cX1_keep 20 = .ok (.sipush 315, 3) := by decide +kernel
theorem dX1_keep_23 : decode cX1_keep 23 = .ok (.invokestatic 19, 3) := by decide +kernel
theorem dX1_keep_26 : decode cX1_keep 26 = .ok (.aload_n 0, 1) := by decide +kernel
theorem dX1_keep_27 : decode cX1_keep 27 = .ok (.dup, 1) := by decide +kernel
theorem dX1_keep_28 : decode cX1_keep 28 = .ok (.getfield 11, 3) := by decide +kernel
theorem dX1_keep_31 : decode cX1_keep 31 = .ok (.iconst 1, 1) := by decide +kernel
theorem dX1_keep_32 : decode cX1_keep 32 = .ok (.isub, 1) := by decide +kernel
theorem dX1_keep_33 : decode cX1_keep 33 = .ok (.putfield 11, 3) := by decide +kernel
theorem dX1_keep_36 : decode cX1_keep 36 = .ok (.aload_n 0, 1) := by decide +kernel
theorem dX1_keep_37 : decode cX1_keep 37 = .ok (.getfield 11, 3) := by decide +kernel
theorem dX1_keep_40 : decode cX1_keep 40 = .ok (.bipush 63, 2) := by decide +kernel
theorem dX1_keep_42 : decode cX1_keep 42 = .ok (.imul, 1) := by decide +kernel
theorem dX1_keep_43 : decode cX1_keep 43 = .ok (.istore_n 2, 1) := by decide +kernel
theorem dX1_keep_44 : decode cX1_keep 44 = .ok (.aload_n 0, 1) := by decide +kernel
theorem dX1_keep_45 : decode cX1_keep 45 = .ok (.getfield 15, 3) := by decide +kernel
theorem dX1_keep_48 : decode cX1_keep 48 = .ok (.iload_n 2, 1) := by decide +kernel
theorem dX1_keep_49 : decode cX1_keep 49 = .ok (.iconst 0, 1) := by decide +kernel
theorem dX1_keep_50 : decode cX1_keep 50 = .ok (.iadd, 1) := by decide +kernel
theorem dX1_keep_51 : decode cX1_keep 51 = .ok (.aload_n 1, 1) := by decide +kernel
theorem dX1_keep_52 : decode cX1_keep 52 = .ok (.getfield 25, 3) := by decide +kernel
theorem dX1_keep_55 : decode cX1_keep 55 = .ok (.iastore, 1) := by decide +kernel
theorem dX1_keep_56 : decode cX1_keep 56 = .ok (.aload_n 0, 1) := by decide +kernel
theorem dX1_keep_57 : decode cX1_keep 57 = .ok (.getfield 15, 3) := by decide +kernel
theorem dX1_keep_60 : decode cX1_keep 60 = .ok (.iload_n 2, 1) := by decide +kernel
theorem dX1_keep_61 : decode cX1_keep 61 = .ok (.iconst 1, 1) := by decide +kernel
theorem dX1_keep_62 : decode cX1_keep 62 = .ok (.iadd, 1) := by decide +kernel
theorem dX1_keep_63 : decode cX1_keep 63 = .ok (.aload_n 1, 1) := by decide +kernel
theorem dX1_keep_64 : decode cX1_keep 64 = .ok (.getfield 30, 3) := by decide +kernel
theorem dX1_keep_67 : decode cX1_keep 67 = .ok (.iastore, 1) := by decide +kernel
theorem dX1_keep_68 : decode cX1_keep 68 = .ok (.aload_n 0, 1) := by decide +kernel
theorem dX1_keep_69 : decode cX1_keep 69 = .ok (.getfield 15, 3) := by decide +kernel
theorem dX1_keep_72 : decode cX1_keep 72 = .ok (.iload_n 2, 1) := by decide +kernel
theorem dX1_keep_73 : decode cX1_keep 73 = .ok (.iconst 2, 1) := by decide +kernel
theorem dX1_keep_74 : decode cX1_keep 74 = .ok (.iadd, 1) := by decide +kernel
theorem dX1_keep_75 : decode cX1_keep 75 = .ok (.aload_n 1, 1) := by decide +kernel
theorem dX1_keep_76 : decode cX1_keep 76 = .ok (.getfield 33, 3) := by decide +kernel
theorem dX1_keep_79 : decode cX1_keep 79 = .ok (.iastore, 1) := by decide +kernel
theorem dX1_keep_80 : decode cX1_keep 80 = .ok (.iconst 0, 1) := by decide +kernel
theorem dX1_keep_81 : decode cX1_keep 81 = .ok (.istore_n 3, 1) := by decide +kernel
theorem dX1_keep_82 : decode cX1_keep 82 = .ok (.iload_n 3, 1) := by decide +kernel
theorem dX1_keep_83 : decode cX1_keep 83 = .ok (.aload_n 1, 1) := by decide +kernel
theorem dX1_keep_84 : decode cX1_keep 84 = .ok (.getfield 33, 3) := by decide +kernel
theorem dX1_keep_87 : decode cX1_keep 87 = .ok (.if_icmp .ge 31, 3) := by decide +kernel
theorem dX1_keep_90 : decode cX1_keep 90 = .ok (.iload_n 3, 1) := by decide +kernel
theorem dX1_keep_91 : decode cX1_keep 91 = .ok (.bipush 60, 2) := by decide +kernel
theorem dX1_keep_93 : decode cX1_keep 93 = .ok (.if_icmp .ge 25, 3) := by decide +kernel
theorem dX1_keep_96 : decode cX1_keep 96 = .ok (.aload_n 0, 1) := by decide +kernel
theorem dX1_keep_97 : decode cX1_keep 97 = .ok (.getfield 15, 3) := by decide +kernel
theorem dX1_keep_100 : decode cX1_keep 100 = .ok (.iload_n 2, 1) := by decide +kernel
theorem dX1_keep_101 : decode cX1_keep 101 = .ok (.iconst 3, 1) := by decide +kernel
theorem dX1_keep_102 : decode cX1_keep 102 = .ok (.iadd, 1) := by decide +kernel
theorem dX1_keep_103 : decode cX1_keep 103 = .ok (.iload_n 3, 1) := by decide +kernel
theorem dX1_keep_104 : decode cX1_keep 104 = .ok (.iadd, 1) := by decide +kernel
theorem dX1_keep_105 : decode cX1_keep 105 = .ok (.aload_n 1, 1) := by decide +kernel
theorem dX1_keep_106 : decode cX1_keep 106 = .ok (.getfield 34, 3) := by decide +kernel
theorem dX1_keep_109 : decode cX1_keep 109 = .ok (.iload_n 3, 1) := by decide +kernel
theorem dX1_keep_110 : decode cX1_keep 110 = .ok (.iaload, 1) := by decide +kernel
theorem dX1_keep_111 : decode cX1_keep 111 = .ok (.iastore, 1) := by decide +kernel
theorem dX1_keep_112 : decode cX1_keep 112 = .ok (.iinc 3 1, 3) := by decide +kernel
theorem dX1_keep_115 : decode cX1_keep 115 = .ok (.goto (-33), 3) := by decide +kernel
theorem dX1_keep_118 : decode cX1_keep 118 = .ok (.aload_n 0, 1) := by decide +kernel
theorem dX1_keep_119 : decode cX1_keep 119 = .ok (.dup, 1) := by decide +kernel
theorem dX1_keep_120 : decode cX1_keep 120 = .ok (.getfield 11, 3) := by decide +kernel
theorem dX1_keep_123 : decode cX1_keep 123 = .ok (.iconst 1, 1) := by decide +kernel
theorem dX1_keep_124 : decode cX1_keep 124 = .ok (.iadd, 1) := by decide +kernel
theorem dX1_keep_125 : decode cX1_keep 125 = .ok (.putfield 11, 3) := by decide +kernel
theorem dX1_keep_128 : decode cX1_keep 128 = .ok (.return_, 1) := by decide +kernel
theorem dX1_restore_0 : decode cX1_restore 0 = .ok (.aload_n 0, 1) := by decide +kernel
theorem dX1_restore_1 : decode cX1_restore 1 = .ok (.getfield 11, 3) := by decide +kernel
theorem dX1_restore_4 : decode cX1_restore 4 = .ok (.ifCond .ne 4, 3) := by decide +kernel
theorem dX1_restore_7 : decode cX1_restore 7 = .ok (.return_, 1) := by decide +kernel
theorem dX1_restore_8 : decode cX1_restore 8 = .ok (.aload_n 0, 1) := by decide +kernel
theorem dX1_restore_9 : decode cX1_restore 9 = .ok (.dup, 1) := by decide +kernel
theorem dX1_restore_10 : decode cX1_restore 10 = .ok (.getfield 11, 3) := by decide +kernel
theorem dX1_restore_13 : decode cX1_restore 13 = .ok (.iconst 1, 1) := by decide +kernel
theorem dX1_restore_14 : decode cX1_restore 14 = .ok (.isub, 1) := by decide +kernel
theorem dX1_restore_15 : decode cX1_restore 15 = .ok (.putfield 11, 3) := by decide +kernel
theorem dX1_restore_18 : decode cX1_restore 18 = .ok (.aload_n 0, 1) := by decide +kernel
theorem dX1_restore_19 : decode cX1_restore 19 = .ok (.getfield 11, 3) := by decide +kernel
theorem dX1_restore_22 : decode cX1_restore 22 = .ok (.bipush 63, 2) := by decide +kernel
theorem dX1_restore_24 : decode cX1_restore 24 = .ok (.imul, 1) := by decide +kernel
theorem dX1_restore_25 : decode cX1_restore 25 = .ok (.istore_n 2, 1) := by decide +kernel
theorem dX1_restore_26 : decode cX1_restore 26 = .ok (.aload_n 1, 1) := by decide +kernel
theorem dX1_restore_27 : decode cX1_restore 27 = .ok (.aload_n 0, 1) := by decide +kernel
theorem dX1_restore_28 : decode cX1_restore 28 = .ok (.getfield 15, 3) := by decide +kernel
theorem dX1_restore_31 : decode cX1_restore 31 = .ok (.iload_n 2, 1) := by decide +kernel
theorem dX1_restore_32 : decode cX1_restore 32 = .ok (.iconst 0, 1) := by decide +kernel
theorem dX1_restore_33 : decode cX1_restore 33 = .ok (.iadd, 1) := by decide +kernel
theorem dX1_restore_34 : decode cX1_restore 34 = .ok (.iaload, 1) := by decide +kernel
theorem dX1_restore_35 : decode cX1_restore 35 = .ok (.putfield 25, 3) := by decide +kernel
theorem dX1_restore_38 : decode cX1_restore 38 = .ok (.aload_n 1, 1) := by decide +kernel
theorem dX1_restore_39 : decode cX1_restore 39 = .ok (.aload_n 0, 1) := by decide +kernel
theorem dX1_restore_40 : decode cX1_restore 40 = .ok (.getfield 15, 3) := by decide +kernel
theorem dX1_restore_43 : decode cX1_restore 43 = .ok (.iload_n 2, 1) := by decide +kernel
theorem dX1_restore_44 : decode cX1_restore 44 = .ok (.iconst 1, 1) := by decide +kernel
theorem dX1_restore_45 : decode cX1_restore 45 = .ok (.iadd, 1) := by decide +kernel
theorem dX1_restore_46 : decode cX1_restore 46 = .ok (.iaload, 1) := by decide +kernel
theorem dX1_restore_47 : decode cX1_restore 47 = .ok (.putfield 30, 3) := by decide +kernel
theorem dX1_restore_50 : decode cX1_restore 50 = .ok (.aload_n 1, 1) := by decide +kernel
theorem dX1_restore_51 : decode cX1_restore 51 = .ok (.aload_n 0, 1) := by decide +kernel
theorem dX1_restore_52 : decode cX1_restore 52 = .ok (.getfield 15, 3) := by decide +kernel
theorem dX1_restore_55 : decode cX1_restore 55 = .ok (.iload_n 2, 1) := by decide +kernel
theorem dX1_restore_56 : decode cX1_restore 56 = .ok (.iconst 2, 1) := by decide +kernel
theorem dX1_restore_57 : decode cX1_restore 57 = .ok (.iadd, 1) := by decide +kernel
theorem dX1_restore_58 : decode cX1_restore 58 = .ok (.iaload, 1) := by decide +kernel
theorem dX1_restore_59 : decode cX1_restore 59 = .ok (.putfield 33, 3) := by decide +kernel
theorem dX1_restore_62 : decode cX1_restore 62 = .ok (.iconst 0, 1) := by decide +kernel
theorem dX1_restore_63 : decode cX1_restore 63 = .ok (.istore_n 3, 1) := by decide +kernel
theorem dX1_restore_64 : decode cX1_restore 64 = .ok (.iload_n 3, 1) := by decide +kernel
theorem dX1_restore_65 : decode cX1_restore 65 = .ok (.aload_n 1, 1) := by decide +kernel
theorem dX1_restore_66 : decode cX1_restore 66 = .ok (.getfield 33, 3) := by decide +kernel
theorem dX1_restore_69 : decode cX1_restore 69 = .ok (.if_icmp .ge 31, 3) := by decide +kernel
theorem dX1_restore_72 : decode cX1_restore 72 = .ok (.iload_n 3, 1) := by decide +kernel
theorem dX1_restore_73 : decode cX1_restore 73 = .ok (.bipush 60, 2) := by decide +kernel
theorem dX1_restore_75 : decode cX1_restore 75 = .ok (.if_icmp .ge 25, 3) := by decide +kernel
theorem dX1_restore_78 : decode cX1_restore 78 = .ok (.aload_n 1, 1) := by decide +kernel
theorem dX1_restore_79 : decode cX1_restore 79 = .ok (.getfield 34, 3) := by decide +kernel
theorem dX1_restore_82 : decode cX1_restore 82 = .ok (.iload_n 3, 1) := by decide +kernel
theorem dX1_restore_83 : decode cX1_restore 83 = .ok (.aload_n 0, 1) := by decide +kernel
theorem dX1_restore_84 : decode cX1_restore 84 = .ok (.getfield 15, 3) := by decide +kernel
theorem dX1_restore_87 : decode cX1_restore 87 = .ok (.iload_n 2, 1) := by decide +kernel
theorem dX1_restore_88 : decode cX1_restore 88 = .ok (.iconst 3, 1) := by decide +kernel
theorem dX1_restore_89 : decode cX1_restore 89 = .ok (.iadd, 1) := by decide +kernel
theorem dX1_restore_90 : decode cX1_restore 90 = .ok (.iload_n 3, 1) := by decide +kernel
theorem dX1_restore_91 : decode cX1_restore 91 = .ok (.iadd, 1) := by decide +kernel
theorem dX1_restore_92 : decode cX1_restore 92 = .ok (.iaload, 1) := by decide +kernel
theorem dX1_restore_93 : decode cX1_restore 93 = .ok (.iastore, 1) := by decide +kernel
theorem dX1_restore_94 : decode cX1_restore 94 = .ok (.iinc 3 1, 3) := by decide +kernel
theorem dX1_restore_97 : decode cX1_restore 97 = .ok (.goto (-33), 3) := by decide +kernel
theorem dX1_restore_100 : decode cX1_restore 100 = .ok (.return_, 1) := by decide +kernel
theorem dX2_init_0 : decode cX2_init 0 = .ok (.aload_n 0, 1) := by decide +kernel
theorem dX2_init_1 : decode cX2_init 1 = .ok (.invokespecial 3, 3) := by decide +kernel
theorem dX2_init_4 : decode cX2_init 4 = .ok (.aload_n 0, 1) := by decide +kernel
theorem dX2_init_5 : decode cX2_init 5 = .ok (.bipush 16, 2) := by decide +kernel
theorem dX2_init_7 : decode cX2_init 7 = .ok (.putfield 9, 3) := by decide +kernel
theorem dX2_init_10 : decode cX2_init 10 = .ok (.aload_n 0, 1) := by decide +kernel
theorem dX2_init_11 : decode cX2_init 11 = .ok (.iconst 1, 1) := by decide +kernel
theorem dX2_init_12 : decode cX2_init 12 = .ok (.putfield 15, 3) := by decide +kernel
theorem dX2_init_15 : decode cX2_init 15 = .ok (.aload_n 0, 1) := by decide +kernel
theorem dX2_init_16 : decode cX2_init 16 = .ok (.iconst 0, 1) := by decide +kernel
theorem dX2_init_17 : decode cX2_init 17 = .ok (.putfield 18, 3) := by decide +kernel
theorem dX2_init_20 : decode cX2_init 20 = .ok (.aload_n 0, 1) := by decide +kernel
theorem dX2_init_21 : decode cX2_init 21 = .ok (.bipush 120, 2) := by decide +kernel
theorem dX2_init_23 : decode cX2_init 23 = .ok (.newarray .int, 2) := by decide +kernel
theorem dX2_init_25 : decode cX2_init 25 = .ok (.putfield 21, 3) := by decide +kernel
theorem dX2_init_28 : decode cX2_init 28 = .ok (.return_, 1) := by decide +kernel
theorem dX2_empty_0 : decode cX2_empty 0 = .ok (.aload_n 0, 1) := by decide +kernel
theorem dX2_empty_1 : decode cX2_empty 1 = .ok (.iload_n 1, 1) := by decide +kernel
theorem dX2_empty_2 : decode cX2_empty 2 = .ok (.putfield 9, 3) := by decide +kernel
theorem dX2_empty_5 : decode cX2_empty 5 = .ok (.aload_n 0, 1) := by decide +kernel
theorem dX2_empty_6 : decode cX2_empty 6 = .ok (.iconst 0, 1) := by decide +kernel
theorem dX2_empty_7 : decode cX2_empty 7 = .ok (.putfield 18, 3) := by decide +kernel
theorem dX2_empty_10 : decode cX2_empty 10 = .ok (.return_, 1) := by decide +kernel
theorem dX2_emptyAs_0 : decode cX2_emptyAs 0 = .ok (.aload_n 0, 1) := by decide +kernel
theorem dX2_emptyAs_1 : decode cX2_emptyAs 1 = .ok (.aload_n 1, 1) := by decide +kernel
theorem dX2_emptyAs_2 : decode cX2_emptyAs 2 = .ok (.getfield 9, 3) := by decide +kernel
theorem dX2_emptyAs_5 : decode cX2_emptyAs 5 = .ok (.putfield 9, 3) := by decide +kernel
theorem dX2_emptyAs_8 : decode cX2_emptyAs 8 = .ok (.aload_n 0, 1) := by decide +kernel
theorem dX2_emptyAs_9 : decode cX2_emptyAs 9 = .ok (.aload_n 1, 1) := by decide +kernel
theorem dX2_emptyAs_10 : decode cX2_emptyAs 10 = .ok (.getfield 15, 3) := by decide +kernel
theorem dX2_emptyAs_13 : decode cX2_emptyAs 13 = .ok (.putfield 15, 3) := by decide +kernel
theorem dX2_emptyAs_16 : decode cX2_emptyAs 16 = .ok (.aload_n 0, 1) := by decide +kernel
theorem dX2_emptyAs_17 : decode cX2_emptyAs 17 = .ok (.iconst 0, 1) := by decide +kernel
theorem dX2_emptyAs_18 : decode cX2_emptyAs 18 = .ok (.putfield 18, 3) := by decide +kernel
theorem dX2_emptyAs_21 : decode cX2_emptyAs 21 = .ok (.return_, 1) := by decide +kernel
theorem dX2_become_0 : decode cX2_become 0 = .ok (.aload_n 0, 1) := by decide +kernel
theorem dX2_become_1 : decode cX2_become 1 = .ok (.aload_n 1, 1) := by decide +kernel
theorem dX2_become_2 : decode cX2_become 2 = .ok (.getfield 9, 3) := by decide +kernel
theorem dX2_become_5 : decode cX2_become 5 = .ok (.putfield 9, 3) := by decide +kernel
theorem dX2_become_8 : decode cX2_become 8 = .ok (.aload_n 0, 1) := by decide +kernel
theorem dX2_become_9 : decode cX2_become 9 = .ok (.aload_n 1, 1) := by decide +kernel
theorem dX2_become_10 : decode cX2_become 10 = .ok (.getfield 15, 3) := by decide +kernel
theorem dX2_become_13 : decode cX2_become 13 = .ok (.putfield 15, 3) := by decide +kernel
theorem dX2_become_16 : decode cX2_become 16 = .ok (.aload_n 0, 1) := by decide +kernel
theorem dX2_become_17 : decode cX2_become 17 = .ok (.aload_n 1, 1) := by decide +kernel
theorem dX2_become_18 : decode cX2_become 18 = .ok (.getfield 18, 3) := by decide +kernel
theorem dX2_become_21 : decode cX2_become 21 = .ok (.putfield 18, 3) := by decide +kernel
theorem dX2_become_24 : decode cX2_become 24 = .ok (.aload_n 1, 1) := by decide +kernel
theorem dX2_become_25 : decode cX2_become 25 = .ok (.getfield 21, 3) := by decide +kernel
theorem dX2_become_28 : decode cX2_become 28 = .ok (.iconst 0, 1) := by decide +kernel
theorem dX2_become_29 : decode cX2_become 29 = .ok (.aload_n 0, 1) := by decide +kernel
theorem dX2_become_30 : decode cX2_become 30 = .ok (.getfield 21, 3) := by decide +kernel
theorem dX2_become_33 : decode cX2_become 33 = .ok (.iconst 0, 1) := by decide +kernel
theorem dX2_become_34 : decode cX2_become 34 = .ok (.aload_n 1, 1) := by decide +kernel
theorem dX2_become_35 : decode cX2_become 35 = .ok (.getfield 18, 3) := by decide +kernel
theorem dX2_become_38 : decode cX2_become 38 = .ok (.invokestatic 25, 3) := by decide +kernel
theorem dX2_become_41 : decode cX2_become 41 = .ok (.return_, 1) := by decide +kernel
theorem dX2_at_0 : decode cX2_at 0 = .ok (.iload_n 1, 1) := by decide +kernel
theorem dX2_at_1 : decode cX2_at 1 = .ok (.ifCond .lt 20, 3) := by decide +kernel
theorem dX2_at_4 : decode cX2_at 4 = .ok (.iload_n 1, 1) := by decide +kernel
theorem dX2_at_5 : decode cX2_at 5 = .ok (.aload_n 0, 1) := by decide +kernel
theorem dX2_at_6 : decode cX2_at 6 = .ok (.getfield 18, 3) := by decide +kernel
theorem dX2_at_9 : decode cX2_at 9 = .ok (.if_icmp .ge 12, 3) := by decide +kernel
theorem dX2_at_12 : decode cX2_at 12 = .ok (.aload_n 0, 1) := by decide +kernel
theorem dX2_at_13 : decode cX2_at 13 = .ok (.getfield 21, 3) := by decide +kernel
theorem dX2_at_16 : decode cX2_at 16 = .ok (.iload_n 1, 1) := by decide +kernel
theorem dX2_at_17 : decode cX2_at 17 = .ok (.iaload, 1) := by decide +kernel
theorem dX2_at_18 : decode cX2_at 18 = .ok (.goto 4, 3) := by decide +kernel
theorem dX2_at_21 : decode cX2_at 21 = .ok (.iconst (-1), 1) := by decide +kernel
theorem dX2_at_22 : decode cX2_at 22 = .ok (.ireturn, 1) := by decide +kernel
theorem dX2_hasRoomFor_0 : decode cX2_hasRoomFor 0 = .ok (.iload_n 1, 1) := by decide +kernel
theorem dX2_hasRoomFor_1 : decode cX2_hasRoomFor 1 = .ok (.invokestatic 31, 3) := by decide +kernel
theorem dX2_hasRoomFor_4 : decode cX2_hasRoomFor 4 = .ok (.istore_n 2, 1) := by decide +kernel
theorem dX2_hasRoomFor_5 : decode cX2_hasRoomFor 5 = .ok (.iload_n 1, 1) := by decide +kernel
theorem dX2_hasRoomFor_6 : decode cX2_hasRoomFor 6 = .ok (.invokestatic 37, 3) := by decide +kernel
theorem dX2_hasRoomFor_9 : decode cX2_hasRoomFor 9 = .ok (.istore_n 3, 1) := by decide +kernel
theorem dX2_hasRoomFor_10 : decode cX2_hasRoomFor 10 = .ok (.iload_n 3, 1) := by decide +kernel
theorem dX2_hasRoomFor_11 : decode cX2_hasRoomFor 11 = .ok (.aload_n 0, 1) := by decide +kernel
theorem dX2_hasRoomFor_12 : decode cX2_hasRoomFor 12 = .ok (.getfield 9, 3) := by decide +kernel
theorem dX2_hasRoomFor_15 : decode cX2_hasRoomFor 15 = .ok (.if_icmp .le 5, 3) := by decide +kernel
theorem dX2_hasRoomFor_18 : decode cX2_hasRoomFor 18 = .ok (.iconst 0, 1) := by decide +kernel
theorem dX2_hasRoomFor_19 : decode cX2_hasRoomFor 19 = .ok (.ireturn, 1) := by decide +kernel
theorem dX2_hasRoomFor_20 : decode cX2_hasRoomFor 20 = .ok (.iconst 0, 1) := by decide +kernel
theorem dX2_hasRoomFor_21 : decode cX2_hasRoomFor 21 = .ok (.istore 4, 2) := by decide +kernel
theorem dX2_hasRoomFor_23 : decode cX2_hasRoomFor 23 = .ok (.iload 4, 2) := by decide +kernel
theorem dX2_hasRoomFor_25 : decode cX2_hasRoomFor 25 = .ok (.aload_n 0, 1) := by decide +kernel
theorem dX2_hasRoomFor_26 : decode cX2_hasRoomFor 26 = .ok (.getfield 18, 3) := by decide +kernel
theorem dX2_hasRoomFor_29 : decode cX2_hasRoomFor 29 = .ok (.if_icmp .ge 50, 3) := by decide +kernel
theorem dX2_hasRoomFor_32 : decode cX2_hasRoomFor 32 = .ok (.aload_n 0, 1) := by decide +kernel
theorem dX2_hasRoomFor_33 : decode cX2_hasRoomFor 33 = .ok (.getfield 21, 3) := by decide +kernel
theorem dX2_hasRoomFor_36 : decode cX2_hasRoomFor 36 = .ok (.iload 4, 2) := by decide +kernel
theorem dX2_hasRoomFor_38 : decode cX2_hasRoomFor 38 = .ok (.iaload, 1) := by decide +kernel
theorem dX2_hasRoomFor_39 : decode cX2_hasRoomFor 39 = .ok (.istore 5, 2) := by decide +kernel
theorem dX2_hasRoomFor_41 : decode cX2_hasRoomFor 41 = .ok (.iload 5, 2) := by decide +kernel
theorem dX2_hasRoomFor_43 : decode cX2_hasRoomFor 43 = .ok (.invokestatic 40, 3) := by decide +kernel
theorem dX2_hasRoomFor_46 : decode cX2_hasRoomFor 46 = .ok (.iload_n 1, 1) := by decide +kernel
theorem dX2_hasRoomFor_47 : decode cX2_hasRoomFor 47 = .ok (.invokestatic 40, 3) := by decide +kernel
theorem dX2_hasRoomFor_50 : decode cX2_hasRoomFor 50 = .ok (.if_icmp .ne 23, 3) := by decide +kernel
theorem dX2_hasRoomFor_53 : decode cX2_hasRoomFor 53 = .ok (.iload 5, 2) := by decide +kernel
theorem dX2_hasRoomFor_55 : decode cX2_hasRoomFor 55 = .ok (.invokestatic 31, 3) := by decide +kernel
theorem dX2_hasRoomFor_58 : decode cX2_hasRoomFor 58 = .ok (.iload_n 3, 1) := by decide +kernel
theorem dX2_hasRoomFor_59 : decode cX2_hasRoomFor 59 = .ok (.if_icmp .ge 14, 3) := by decide +kernel
theorem dX2_hasRoomFor_62 : decode cX2_hasRoomFor 62 = .ok (.iload_n 2, 1) := by decide +kernel
theorem dX2_hasRoomFor_63 : decode cX2_hasRoomFor 63 = .ok (.iload 5, 2) := by decide +kernel
theorem dX2_hasRoomFor_65 : decode cX2_hasRoomFor 65 = .ok (.invokestatic 37, 3) := by decide +kernel
theorem dX2_hasRoomFor_68 : decode cX2_hasRoomFor 68 = .ok (.if_icmp .ge 5, 3) := by decide +kernel
theorem dX2_hasRoomFor_71 : decode cX2_hasRoomFor 71 = .ok (.iconst 0, 1) := by decide +kernel
theorem dX2_hasRoomFor_72 : decode cX2_hasRoomFor 72 = .ok (.ireturn, 1) := by decide +kernel
theorem dX2_hasRoomFor_73 : decode cX2_hasRoomFor 73 = .ok (.iinc 4 1, 3) := by decide +kernel
theorem dX2_hasRoomFor_76 : decode cX2_hasRoomFor 76 = .ok (.goto (-53), 3) := by decide +kernel
theorem dX2_hasRoomFor_79 : decode cX2_hasRoomFor 79 = .ok (.iconst 1, 1) := by decide +kernel
theorem dX2_hasRoomFor_80 : decode cX2_hasRoomFor 80 = .ok (.ireturn, 1) := by decide +kernel
theorem dX2_put_0 : decode cX2_put 0 = .ok (.aload_n 0, 1) := by decide +kernel
theorem dX2_put_1 : decode cX2_put 1 = .ok (.getfield 18, 3) := by decide +kernel
theorem dX2_put_4 : decode cX2_put 4 = .ok (.aload_n 0, 1) := by decide +kernel
theorem dX2_put_5 : decode cX2_put 5 = .ok (.getfield 21, 3) := by decide +kernel
theorem dX2_put_8 : decode cX2_put 8 = .ok (.arraylength, 1) := by decide +kernel
theorem dX2_put_9 : decode cX2_put 9 = .ok (.if_icmp .lt 5, 3) := by decide +kernel
theorem dX2_put_12 : decode cX2_put 12 = .ok (.iconst (-1), 1) := by decide +kernel
theorem dX2_put_13 : decode cX2_put 13 = .ok (.ireturn, 1) := by decide +kernel
theorem dX2_put_14 : decode cX2_put 14 = .ok (.aload_n 0, 1) := by decide +kernel
theorem dX2_put_15 : decode cX2_put 15 = .ok (.getfield 18, 3) := by decide +kernel
theorem dX2_put_18 : decode cX2_put 18 = .ok (.istore_n 2, 1) := by decide +kernel
theorem dX2_put_19 : decode cX2_put 19 = .ok (.iload_n 2, 1) := by decide +kernel
theorem dX2_put_20 : decode cX2_put 20 = .ok (.ifCond .le 35, 3) := by decide +kernel
theorem dX2_put_23 : decode cX2_put 23 = .ok (.aload_n 0, 1) := by decide +kernel
theorem dX2_put_24 : decode cX2_put 24 = .ok (.getfield 21, 3) := by decide +kernel
theorem dX2_put_27 : decode cX2_put 27 = .ok (.iload_n 2, 1) := by decide +kernel
theorem dX2_put_28 : decode cX2_put 28 = .ok (.iconst 1, 1) := by decide +kernel
theorem dX2_put_29 : decode cX2_put 29 = .ok (.isub, 1) := by decide +kernel
theorem dX2_put_30 : decode cX2_put 30 = .ok (.iaload, 1) := by decide +kernel
theorem dX2_put_31 : decode cX2_put 31 = .ok (.iload_n 1, 1) := by decide +kernel
theorem dX2_put_32 : decode cX2_put 32 = .ok (.if_icmp .le 23, 3) := by decide +kernel
theorem dX2_put_35 : decode cX2_put 35 = .ok (.aload_n 0, 1) := by decide +kernel
theorem dX2_put_36 : decode cX2_put 36 = .ok (.getfield 21, 3) := by decide +kernel
theorem dX2_put_39 : decode cX2_put 39 = .ok (.iload_n 2, 1) := by decide +kernel
theorem dX2_put_40 : decode cX2_put 40 = .ok (.aload_n 0, 1) := by decide +kernel
theorem dX2_put_41 : decode cX2_put 41 = .ok (.getfield 21, 3) := by decide +kernel
theorem dX2_put_44 : decode cX2_put 44 = .ok (.iload_n 2, 1) := by decide +kernel
theorem dX2_put_45 : decode cX2_put 45 = .ok (.iconst 1, 1) := by decide +kernel
theorem dX2_put_46 : decode cX2_put 46 = .ok (.isub, 1) := by decide +kernel
theorem dX2_put_47 : decode cX2_put 47 = .ok (.iaload, 1) := by decide +kernel
theorem dX2_put_48 : decode cX2_put 48 = .ok (.iastore, 1) := by decide +kernel
theorem dX2_put_49 : decode cX2_put 49 = .ok (.iinc 2 (-1), 3) := by decide +kernel
theorem dX2_put_52 : decode cX2_put 52 = .ok (.goto (-33), 3) := by decide +kernel
theorem dX2_put_55 : decode cX2_put 55 = .ok (.aload_n 0, 1) := by decide +kernel
theorem dX2_put_56 : decode cX2_put 56 = .ok (.getfield 21, 3) := by decide +kernel
theorem dX2_put_59 : decode cX2_put 59 = .ok (.iload_n 2, 1) := by decide +kernel
theorem dX2_put_60 : decode cX2_put 60 = .ok (.iload_n 1, 1) := by decide +kernel
theorem dX2_put_61 : decode cX2_put 61 = .ok (.iastore, 1) := by decide +kernel
theorem dX2_put_62 : decode cX2_put 62 = .ok (.aload_n 0, 1) := by decide +kernel
theorem dX2_put_63 : decode cX2_put 63 = .ok (.dup, 1) := by decide +kernel
theorem dX2_put_64 : decode cX2_put 64 = .ok (.getfield 18, 3) := by decide +kernel
theorem dX2_put_67 : decode cX2_put 67 = .ok (.iconst 1, 1) := by decide +kernel
theorem dX2_put_68 : decode cX2_put 68 = .ok (.iadd, 1) := by decide +kernel
theorem dX2_put_69 : decode cX2_put 69 = .ok (.putfield 18, 3) := by decide +kernel
theorem dX2_put_72 : decode cX2_put 72 = .ok (.iload_n 2, 1) := by decide +kernel
theorem dX2_put_73 : decode cX2_put 73 = .ok (.ireturn, 1) := by decide +kernel
theorem dX2_takeOut_0 : decode cX2_takeOut 0 = .ok (.iload_n 1, 1) := by decide +kernel
theorem dX2_takeOut_1 : decode cX2_takeOut 1 = .ok (.ifCond .lt 11, 3) := by decide +kernel
theorem dX2_takeOut_4 : decode cX2_takeOut 4 = .ok (.iload_n 1, 1) := by decide +kernel
theorem dX2_takeOut_5 : decode cX2_takeOut 5 = .ok (.aload_n 0, 1) := by decide +kernel
theorem dX2_takeOut_6 : decode cX2_takeOut 6 = .ok (.getfield 18, 3) := by decide +kernel
theorem dX2_takeOut_9 : decode cX2_takeOut 9 = .ok (.if_icmp .lt 4, 3) := by decide +kernel
theorem dX2_takeOut_12 : decode cX2_takeOut 12 = .ok (.return_, 1) := by decide +kernel
theorem dX2_takeOut_13 : decode cX2_takeOut 13 = .ok (.iload_n 1, 1) := by decide +kernel
theorem dX2_takeOut_14 : decode cX2_takeOut 14 = .ok (.istore_n 2, 1) := by decide +kernel
theorem dX2_takeOut_15 : decode cX2_takeOut 15 = .ok (.iload_n 2, 1) := by decide +kernel
theorem dX2_takeOut_16 : decode cX2_takeOut 16 = .ok (.aload_n 0, 1) := by decide +kernel
theorem dX2_takeOut_17 : decode cX2_takeOut 17 = .ok (.getfield 18, 3) := by decide +kernel
theorem dX2_takeOut_20 : decode cX2_takeOut 20 = .ok (.iconst 1, 1) := by decide +kernel
theorem dX2_takeOut_21 : decode cX2_takeOut 21 = .ok (.isub, 1) := by decide +kernel
theorem dX2_takeOut_22 : decode cX2_takeOut 22 = .ok (.if_icmp .ge 23, 3) := by decide +kernel
theorem dX2_takeOut_25 : decode cX2_takeOut 25 = .ok (.aload_n 0, 1) := by decide +kernel
theorem dX2_takeOut_26 : decode cX2_takeOut 26 = .ok (.getfield 21, 3) := by decide +kernel
theorem dX2_takeOut_29 : decode cX2_takeOut 29 = .ok (.iload_n 2, 1) := by decide +kernel
theorem dX2_takeOut_30 : decode cX2_takeOut 30 = .ok (.aload_n 0, 1) := by decide +kernel
theorem dX2_takeOut_31 : decode cX2_takeOut 31 = .ok (.getfield 21, 3) := by decide +kernel
theorem dX2_takeOut_34 : decode cX2_takeOut 34 = .ok (.iload_n 2, 1) := by decide +kernel
theorem dX2_takeOut_35 : decode cX2_takeOut 35 = .ok (.iconst 1, 1) := by decide +kernel
theorem dX2_takeOut_36 : decode cX2_takeOut 36 = .ok (.iadd, 1) := by decide +kernel
theorem dX2_takeOut_37 : decode cX2_takeOut 37 = .ok (.iaload, 1) := by decide +kernel
theorem dX2_takeOut_38 : decode cX2_takeOut 38 = .ok (.iastore, 1) := by decide +kernel
theorem dX2_takeOut_39 : decode cX2_takeOut 39 = .ok (.iinc 2 1, 3) := by decide +kernel
theorem dX2_takeOut_42 : decode cX2_takeOut 42 = .ok (.goto (-27), 3) := by decide +kernel
theorem dX2_takeOut_45 : decode cX2_takeOut 45 = .ok (.aload_n 0, 1) := by decide +kernel
theorem dX2_takeOut_46 : decode cX2_takeOut 46 = .ok (.dup, 1) := by decide +kernel
theorem dX2_takeOut_47 : decode cX2_takeOut 47 = .ok (.getfield 18, 3) := by decide +kernel
theorem dX2_takeOut_50 : decode cX2_takeOut 50 = .ok (.iconst 1, 1) := by decide +kernel
theorem dX2_takeOut_51 : decode cX2_takeOut 51 = .ok (.isub, 1) := by decide +kernel
theorem dX2_takeOut_52 : decode cX2_takeOut 52 = .ok (.putfield 18, 3) := by decide +kernel
theorem dX2_takeOut_55 : decode cX2_takeOut 55 = .ok (.return_, 1) := by decide +kernel
theorem dX2_endOf_0 : decode cX2_endOf 0 = .ok (.aload_n 0, 1) := by decide +kernel
theorem dX2_endOf_1 : decode cX2_endOf 1 = .ok (.iload_n 1, 1) := by decide +kernel
theorem dX2_endOf_2 : decode cX2_endOf 2 = .ok (.invokevirtual 43, 3) := by decide +kernel
theorem dX2_endOf_5 : decode cX2_endOf 5 = .ok (.istore_n 2, 1) := by decide +kernel
theorem dX2_endOf_6 : decode cX2_endOf 6 = .ok (.iload_n 2, 1) := by decide +kernel
theorem dX2_endOf_7 : decode cX2_endOf 7 = .ok (.invokestatic 46, 3) := by decide +kernel
theorem dX2_endOf_10 : decode cX2_endOf 10 = .ok (.iconst 1, 1) := by decide +kernel
theorem dX2_endOf_11 : decode cX2_endOf 11 = .ok (.if_icmp .eq 8, 3) := by decide +kernel
theorem dX2_endOf_14 : decode cX2_endOf 14 = .ok (.iload_n 2, 1) := by decide +kernel
theorem dX2_endOf_15 : decode cX2_endOf 15 = .ok (.invokestatic 37, 3) := by decide +kernel
theorem dX2_endOf_18 : decode cX2_endOf 18 = .ok (.ireturn, 1) := by decide +kernel
theorem dX2_endOf_19 : decode cX2_endOf 19 = .ok (.iload_n 1, 1) := by decide +kernel
theorem dX2_endOf_20 : decode cX2_endOf 20 = .ok (.iconst 1, 1) := by decide +kernel
theorem dX2_endOf_21 : decode cX2_endOf 21 = .ok (.iadd, 1) := by decide +kernel
theorem dX2_endOf_22 : decode cX2_endOf 22 = .ok (.istore_n 3, 1) := by decide +kernel
theorem dX2_endOf_23 : decode cX2_endOf 23 = .ok (.iload_n 3, 1) := by decide +kernel
theorem dX2_endOf_24 : decode cX2_endOf 24 = .ok (.aload_n 0, 1) := by decide +kernel
theorem dX2_endOf_25 : decode cX2_endOf 25 = .ok (.getfield 18, 3) := by decide +kernel
theorem dX2_endOf_28 : decode cX2_endOf 28 = .ok (.if_icmp .ge 35, 3) := by decide +kernel
theorem dX2_endOf_31 : decode cX2_endOf 31 = .ok (.aload_n 0, 1) := by decide +kernel
theorem dX2_endOf_32 : decode cX2_endOf 32 = .ok (.getfield 21, 3) := by decide +kernel
theorem dX2_endOf_35 : decode cX2_endOf 35 = .ok (.iload_n 3, 1) := by decide +kernel
theorem dX2_endOf_36 : decode cX2_endOf 36 = .ok (.iaload, 1) := by decide +kernel
theorem dX2_endOf_37 : decode cX2_endOf 37 = .ok (.invokestatic 40, 3) := by decide +kernel
theorem dX2_endOf_40 : decode cX2_endOf 40 = .ok (.iload_n 2, 1) := by decide +kernel
theorem dX2_endOf_41 : decode cX2_endOf 41 = .ok (.invokestatic 40, 3) := by decide +kernel
theorem dX2_endOf_44 : decode cX2_endOf 44 = .ok (.if_icmp .ne 13, 3) := by decide +kernel
theorem dX2_endOf_47 : decode cX2_endOf 47 = .ok (.aload_n 0, 1) := by decide +kernel
theorem dX2_endOf_48 : decode cX2_endOf 48 = .ok (.getfield 21, 3) := by decide +kernel
theorem dX2_endOf_51 : decode cX2_endOf 51 = .ok (.iload_n 3, 1) := by decide +kernel
theorem dX2_endOf_52 : decode cX2_endOf 52 = .ok (.iaload, 1) := by decide +kernel
theorem dX2_endOf_53 : decode cX2_endOf 53 = .ok (.invokestatic 31, 3) := by decide +kernel
theorem dX2_endOf_56 : decode cX2_endOf 56 = .ok (.ireturn, 1) := by decide +kernel
theorem dX2_endOf_57 : decode cX2_endOf 57 = .ok (.iinc 3 1, 3) := by decide +kernel
theorem dX2_endOf_60 : decode cX2_endOf 60 = .ok (.goto (-37), 3) := by decide +kernel
theorem dX2_endOf_63 : decode cX2_endOf 63 = .ok (.aload_n 0, 1) := by decide +kernel
theorem dX2_endOf_64 : decode cX2_endOf 64 = .ok (.getfield 9, 3) := by decide +kernel
theorem dX2_endOf_67 : decode cX2_endOf 67 = .ok (.ireturn, 1) := by decide +kernel
theorem dX2_numberCovering_0 : decode cX2_numberCovering 0 = .ok (.iconst (-1), 1) := by decide +kernel
theorem dX2_numberCovering_1 : decode cX2_numberCovering 1 = .ok (.istore_n 3, 1) := by decide +kernel
theorem dX2_numberCovering_2 : decode cX2_numberCovering 2 = .ok (.iconst 0, 1) := by decide +kernel
theorem dX2_numberCovering_3 : decode cX2_numberCovering 3 = .ok (.istore 4, 2) := by decide +kernel
theorem dX2_numberCovering_5 : decode cX2_numberCovering 5 = .ok (.iload 4, 2) := by decide +kernel
theorem dX2_numberCovering_7 : decode cX2_numberCovering 7 = .ok (.aload_n 0, 1) := by decide +kernel
theorem dX2_numberCovering_8 : decode cX2_numberCovering 8 = .ok (.getfield 18, 3) := by decide +kernel
theorem dX2_numberCovering_11 : decode cX2_numberCovering 11 = .ok (.if_icmp .ge 40, 3) := by decide +kernel
theorem dX2_numberCovering_14 : decode cX2_numberCovering 14 = .ok (.aload_n 0, 1) := by decide +kernel
theorem dX2_numberCovering_15 : decode cX2_numberCovering 15 = .ok (.getfield 21, 3) := by decide +kernel
theorem dX2_numberCovering_18 : decode cX2_numberCovering 18 = .ok (.iload 4, 2) := by decide +kernel
theorem dX2_numberCovering_20 : decode cX2_numberCovering 20 = .ok (.iaload, 1) := by decide +kernel
theorem dX2_numberCovering_21 : decode cX2_numberCovering 21 = .ok (.invokestatic 40, 3) := by decide +kernel
theorem dX2_numberCovering_24 : decode cX2_numberCovering 24 = .ok (.iload_n 1, 1) := by decide +kernel
theorem dX2_numberCovering_25 : decode cX2_numberCovering 25 = .ok (.if_icmp .ne 20, 3) := by decide +kernel
theorem dX2_numberCovering_28 : decode cX2_numberCovering 28 = .ok (.aload_n 0, 1) := by decide +kernel
theorem dX2_numberCovering_29 : decode cX2_numberCovering 29 = .ok (.getfield 21, 3) := by decide +kernel
theorem dX2_numberCovering_32 : decode cX2_numberCovering 32 = .ok (.iload 4, 2) := by decide +kernel
theorem dX2_numberCovering_34 : decode cX2_numberCovering 34 = .ok (.iaload, 1) := by decide +kernel
theorem dX2_numberCovering_35 : decode cX2_numberCovering 35 = .ok (.invokestatic 31, 3) := by decide +kernel
theorem dX2_numberCovering_38 : decode cX2_numberCovering 38 = .ok (.iload_n 2, 1) := by decide +kernel
theorem dX2_numberCovering_39 : decode cX2_numberCovering 39 = .ok (.if_icmp .gt 6, 3) := by decide +kernel
theorem dX2_numberCovering_42 : decode cX2_numberCovering 42 = .ok (.iload 4, 2) := by decide +kernel
theorem dX2_numberCovering_44 : decode cX2_numberCovering 44 = .ok (.istore_n 3, 1) := by decide +kernel
theorem dX2_numberCovering_45 : decode cX2_numberCovering 45 = .ok (.iinc 4 1, 3) := by decide +kernel
theorem dX2_numberCovering_48 : decode cX2_numberCovering 48 = .ok (.goto (-43), 3) := by decide +kernel
theorem dX2_numberCovering_51 : decode cX2_numberCovering 51 = .ok (.iload_n 3, 1) := by decide +kernel
theorem dX2_numberCovering_52 : decode cX2_numberCovering 52 = .ok (.iconst (-1), 1) := by decide +kernel
theorem dX2_numberCovering_53 : decode cX2_numberCovering 53 = .ok (.if_icmp .eq 16, 3) := by decide +kernel
theorem dX2_numberCovering_56 : decode cX2_numberCovering 56 = .ok (.iload_n 2, 1) := by decide +kernel
theorem dX2_numberCovering_57 : decode cX2_numberCovering 57 = .ok (.aload_n 0, 1) := by decide +kernel
theorem dX2_numberCovering_58 : decode cX2_numberCovering 58 = .ok (.iload_n 3, 1) := by decide +kernel
theorem dX2_numberCovering_59 : decode cX2_numberCovering 59 = .ok (.invokevirtual 49, 3) := by decide +kernel
theorem dX2_numberCovering_62 : decode cX2_numberCovering 62 = .ok (.if_icmp .ge 7, 3) := by decide +kernel
theorem dX2_numberCovering_65 : decode cX2_numberCovering 65 = .ok (.iload_n 3, 1) := by decide +kernel
theorem dX2_numberCovering_66 : decode cX2_numberCovering 66 = .ok (.goto 4, 3) := by decide +kernel
theorem dX2_numberCovering_69 : decode cX2_numberCovering 69 = .ok (.iconst (-1), 1) := by decide +kernel
theorem dX2_numberCovering_70 : decode cX2_numberCovering 70 = .ok (.ireturn, 1) := by decide +kernel
theorem dX2_fillRow_0 : decode cX2_fillRow 0 = .ok (.aload_n 2, 1) := by decide +kernel
theorem dX2_fillRow_1 : decode cX2_fillRow 1 = .ok (.iconst (-1), 1) := by decide +kernel
theorem dX2_fillRow_2 : decode cX2_fillRow 2 = .ok (.invokestatic 52, 3) := by decide +kernel
theorem dX2_fillRow_5 : decode cX2_fillRow 5 = .ok (.iconst 0, 1) := by decide +kernel
theorem dX2_fillRow_6 : decode cX2_fillRow 6 = .ok (.istore_n 3, 1) := by decide +kernel
theorem dX2_fillRow_7 : decode cX2_fillRow 7 = .ok (.iload_n 3, 1) := by decide +kernel
theorem dX2_fillRow_8 : decode cX2_fillRow 8 = .ok (.aload_n 0, 1) := by decide +kernel
theorem dX2_fillRow_9 : decode cX2_fillRow 9 = .ok (.getfield 18, 3) := by decide +kernel
theorem dX2_fillRow_12 : decode cX2_fillRow 12 = .ok (.if_icmp .ge 68, 3) := by decide +kernel
theorem dX2_fillRow_15 : decode cX2_fillRow 15 = .ok (.aload_n 0, 1) := by decide +kernel
theorem dX2_fillRow_16 : decode cX2_fillRow 16 = .ok (.getfield 21, 3) := by decide +kernel
theorem dX2_fillRow_19 : decode cX2_fillRow 19 = .ok (.iload_n 3, 1) := by decide +kernel
theorem dX2_fillRow_20 : decode cX2_fillRow 20 = .ok (.iaload, 1) := by decide +kernel
theorem dX2_fillRow_21 : decode cX2_fillRow 21 = .ok (.invokestatic 40, 3) := by decide +kernel
theorem dX2_fillRow_24 : decode cX2_fillRow 24 = .ok (.iload_n 1, 1) := by decide +kernel
theorem dX2_fillRow_25 : decode cX2_fillRow 25 = .ok (.if_icmp .ne 49, 3) := by decide +kernel
theorem dX2_fillRow_28 : decode cX2_fillRow 28 = .ok (.aload_n 0, 1) := by decide +kernel
theorem dX2_fillRow_29 : decode cX2_fillRow 29 = .ok (.iload_n 3, 1) := by decide +kernel
theorem dX2_fillRow_30 : decode cX2_fillRow 30 = .ok (.invokevirtual 49, 3) := by decide +kernel
theorem dX2_fillRow_33 : decode cX2_fillRow 33 = .ok (.aload_n 2, 1) := by decide +kernel
theorem dX2_fillRow_34 : decode cX2_fillRow 34 = .ok (.arraylength, 1) := by decide +kernel
theorem dX2_fillRow_35 : decode cX2_fillRow 35 = .ok (.invokestatic 58, 3) := by decide +kernel
theorem dX2_fillRow_38 : decode cX2_fillRow 38 = .ok (.istore 4, 2) := by decide +kernel
theorem dX2_fillRow_40 : decode cX2_fillRow 40 = .ok (.aload_n 0, 1) := by decide +kernel
theorem dX2_fillRow_41 : decode cX2_fillRow 41 = .ok (.getfield 21, 3) := by decide +kernel
theorem dX2_fillRow_44 : decode cX2_fillRow 44 = .ok (.iload_n 3, 1) := by decide +kernel
theorem dX2_fillRow_45 : decode cX2_fillRow 45 = .ok (.iaload, 1) := by decide +kernel
theorem dX2_fillRow_46 : decode cX2_fillRow 46 = .ok (.invokestatic 31, 3) := by decide +kernel
theorem dX2_fillRow_49 : decode cX2_fillRow 49 = .ok (.istore 5, 2) := by decide +kernel
theorem dX2_fillRow_51 : decode cX2_fillRow 51 = .ok (.iload 5, 2) := by decide +kernel
theorem dX2_fillRow_53 : decode cX2_fillRow 53 = .ok (.iload 4, 2) := by decide +kernel
theorem dX2_fillRow_55 : decode cX2_fillRow 55 = .ok (.if_icmp .ge 19, 3) := by decide +kernel
theorem dX2_fillRow_58 : decode cX2_fillRow 58 = .ok (.aload_n 2, 1) := by decide +kernel
theorem dX2_fillRow_59 : decode cX2_fillRow 59 = .ok (.iload 5, 2) := by decide +kernel
theorem dX2_fillRow_61 : decode cX2_fillRow 61 = .ok (.aload_n 0, 1) := by decide +kernel
theorem dX2_fillRow_62 : decode cX2_fillRow 62 = .ok (.getfield 21, 3) := by decide +kernel
theorem dX2_fillRow_65 : decode cX2_fillRow 65 = .ok (.iload_n 3, 1) := by decide +kernel
theorem dX2_fillRow_66 : decode cX2_fillRow 66 = .ok (.iaload, 1) := by decide +kernel
theorem dX2_fillRow_67 : decode cX2_fillRow 67 = .ok (.iastore, 1) := by decide +kernel
theorem dX2_fillRow_68 : decode cX2_fillRow 68 = .ok (.iinc 5 1, 3) := by decide +kernel
theorem dX2_fillRow_71 : decode cX2_fillRow 71 = .ok (.goto (-20), 3) := by decide +kernel
theorem dX2_fillRow_74 : decode cX2_fillRow 74 = .ok (.iinc 3 1, 3) := by decide +kernel
theorem dX2_fillRow_77 : decode cX2_fillRow 77 = .ok (.goto (-70), 3) := by decide +kernel
theorem dX2_fillRow_80 : decode cX2_fillRow 80 = .ok (.return_, 1) := by decide +kernel
theorem dX3_init_0 : decode cX3_init 0 = .ok (.aload_n 0, 1) := by decide +kernel
theorem dX3_init_1 : decode cX3_init 1 = .ok (.invokespecial 3, 3) := by decide +kernel
theorem dX3_init_4 : decode cX3_init 4 = .ok (.aload_n 0, 1) := by decide +kernel
theorem dX3_init_5 : decode cX3_init 5 = .ok (.iconst 0, 1) := by decide +kernel
theorem dX3_init_6 : decode cX3_init 6 = .ok (.putfield 9, 3) := by decide +kernel
theorem dX3_init_9 : decode cX3_init 9 = .ok (.aload_n 0, 1) := by decide +kernel
theorem dX3_init_10 : decode cX3_init 10 = .ok (.iconst 0, 1) := by decide +kernel
theorem dX3_init_11 : decode cX3_init 11 = .ok (.putfield 15, 3) := by decide +kernel
theorem dX3_init_14 : decode cX3_init 14 = .ok (.aload_n 0, 1) := by decide +kernel
theorem dX3_init_15 : decode cX3_init 15 = .ok (.bipush 120, 2) := by decide +kernel
theorem dX3_init_17 : decode cX3_init 17 = .ok (.newarray .int, 2) := by decide +kernel
theorem dX3_init_19 : decode cX3_init 19 = .ok (.putfield 18, 3) := by decide +kernel
theorem dX3_init_22 : decode cX3_init 22 = .ok (.aload_n 0, 1) := by decide +kernel
theorem dX3_init_23 : decode cX3_init 23 = .ok (.bipush 7, 2) := by decide +kernel
theorem dX3_init_25 : decode cX3_init 25 = .ok (.newarray .int, 2) := by decide +kernel
theorem dX3_init_27 : decode cX3_init 27 = .ok (.putfield 22, 3) := by decide +kernel
theorem dX3_init_30 : decode cX3_init 30 = .ok (.return_, 1) := by decide +kernel
theorem dX3_append_0 : decode cX3_append 0 = .ok (.aload_n 0, 1) := by decide +kernel
theorem dX3_append_1 : decode cX3_append 1 = .ok (.getfield 9, 3) := by decide +kernel
theorem dX3_append_4 : decode cX3_append 4 = .ok (.bipush 120, 2) := by decide +kernel
theorem dX3_append_6 : decode cX3_append 6 = .ok (.if_icmp .ge 23, 3) := by decide +kernel
theorem dX3_append_9 : decode cX3_append 9 = .ok (.aload_n 0, 1) := by decide +kernel
theorem dX3_append_10 : decode cX3_append 10 = .ok (.getfield 18, 3) := by decide +kernel
theorem dX3_append_13 : decode cX3_append 13 = .ok (.aload_n 0, 1) := by decide +kernel
theorem dX3_append_14 : decode cX3_append 14 = .ok (.getfield 9, 3) := by decide +kernel
theorem dX3_append_17 : decode cX3_append 17 = .ok (.iload_n 1, 1) := by decide +kernel
theorem dX3_append_18 : decode cX3_append 18 = .ok (.iastore, 1) := by decide +kernel
theorem dX3_append_19 : decode cX3_append 19 = .ok (.aload_n 0, 1) := by decide +kernel
theorem dX3_append_20 : decode cX3_append 20 = .ok (.dup, 1) := by decide +kernel
theorem dX3_append_21 : decode cX3_append 21 = .ok (.getfield 9, 3) := by decide +kernel
theorem dX3_append_24 : decode cX3_append 24 = .ok (.iconst 1, 1) := by decide +kernel
theorem dX3_append_25 : decode cX3_append 25 = .ok (.iadd, 1) := by decide +kernel
theorem dX3_append_26 : decode cX3_append 26 = .ok (.putfield 9, 3) := by decide +kernel
theorem dX3_append_29 : decode cX3_append 29 = .ok (.return_, 1) := by decide +kernel
theorem dX3_readFor_0 : decode cX3_readFor 0 = .ok (.aload_n 2, 1) := by decide +kernel
theorem dX3_readFor_1 : decode cX3_readFor 1 = .ok (.aload_n 1, 1) := by decide +kernel
theorem dX3_readFor_2 : decode cX3_readFor 2 = .ok (.invokevirtual 25, 3) := by decide +kernel
theorem dX3_readFor_5 : decode cX3_readFor 5 = .ok (.aload_n 0, 1) := by decide +kernel
theorem dX3_readFor_6 : decode cX3_readFor 6 = .ok (.getfield 22, 3) := by decide +kernel
theorem dX3_readFor_9 : decode cX3_readFor 9 = .ok (.iconst 0, 1) := by decide +kernel
theorem dX3_readFor_10 : decode cX3_readFor 10 = .ok (.invokestatic 31, 3) := by decide +kernel
theorem dX3_readFor_13 : decode cX3_readFor 13 = .ok (.aload_n 0, 1) := by decide +kernel
theorem dX3_readFor_14 : decode cX3_readFor 14 = .ok (.iconst 0, 1) := by decide +kernel
theorem dX3_readFor_15 : decode cX3_readFor 15 = .ok (.putfield 15, 3) := by decide +kernel
theorem dX3_readFor_18 : decode cX3_readFor 18 = .ok (.iconst 0, 1) := by decide +kernel
theorem dX3_readFor_19 : decode cX3_readFor 19 = .ok (.istore_n 3, 1) := by decide +kernel
theorem dX3_readFor_20 : decode cX3_readFor 20 = .ok (.iload_n 3, 1) := by decide +kernel
theorem dX3_readFor_21 : decode cX3_readFor 21 = .ok (.bipush 120, 2) := by decide +kernel
theorem dX3_readFor_23 : decode cX3_readFor 23 = .ok (.if_icmp .ge 37, 3) := by decide +kernel
theorem dX3_readFor_26 : decode cX3_readFor 26 = .ok (.aload_n 0, 1) := by decide +kernel
theorem dX3_readFor_27 : decode cX3_readFor 27 = .ok (.getfield 15, 3) := by decide +kernel
theorem dX3_readFor_30 : decode cX3_readFor 30 = .ok (.aload_n 0, 1) := by decide +kernel
theorem dX3_readFor_31 : decode cX3_readFor 31 = .ok (.getfield 9, 3) := by decide +kernel
theorem dX3_readFor_34 : decode cX3_readFor 34 = .ok (.if_icmp .ge 26, 3) := by decide +kernel
theorem dX3_readFor_37 : decode cX3_readFor 37 = .ok (.aload_n 0, 1) := by decide +kernel
theorem dX3_readFor_38 : decode cX3_readFor 38 = .ok (.getfield 15, 3) := by decide +kernel
theorem dX3_readFor_41 : decode cX3_readFor 41 = .ok (.istore 4, 2) := by decide +kernel
theorem dX3_readFor_43 : decode cX3_readFor 43 = .ok (.aload_n 0, 1) := by decide +kernel
theorem dX3_readFor_44 : decode cX3_readFor 44 = .ok (.aload_n 2, 1) := by decide +kernel
theorem dX3_readFor_45 : decode cX3_readFor 45 = .ok (.invokevirtual 37, 3) := by decide +kernel
theorem dX3_readFor_48 : decode cX3_readFor 48 = .ok (.ifCond .ne 6, 3) := by decide +kernel
theorem dX3_readFor_51 : decode cX3_readFor 51 = .ok (.iload 4, 2) := by decide +kernel
theorem dX3_readFor_53 : decode cX3_readFor 53 = .ok (.ireturn, 1) := by decide +kernel
theorem dX3_readFor_54 : decode cX3_readFor 54 = .ok (.iinc 3 1, 3) := by decide +kernel
theorem dX3_readFor_57 : decode cX3_readFor 57 = .ok (.goto (-37), 3) := by decide +kernel
theorem dX3_readFor_60 : decode cX3_readFor 60 = .ok (.iconst (-1), 1) := by decide +kernel
theorem dX3_readFor_61 : decode cX3_readFor 61 = .ok (.ireturn, 1) := by decide +kernel
theorem dX3_readItem_0 : decode cX3_readItem 0 = .ok (.aload_n 0, 1) := by decide +kernel
theorem dX3_readItem_1 : decode cX3_readItem 1 = .ok (.invokevirtual 41, 3) := by decide +kernel
theorem dX3_readItem_4 : decode cX3_readItem 4 = .ok (.istore_n 2, 1) := by decide +kernel
theorem dX3_readItem_5 : decode cX3_readItem 5 = .ok (.iload_n 2, 1) := by decide +kernel
theorem dX3_readItem_6 : decode cX3_readItem 6 = .ok (.invokestatic 45, 3) := by decide +kernel
theorem dX3_readItem_9 : decode cX3_readItem 9 = .ok (.ifCond .ne 5, 3) := by decide +kernel
theorem dX3_readItem_12 : decode cX3_readItem 12 = .ok (.iconst 0, 1) := by decide +kernel
theorem dX3_readItem_13 : decode cX3_readItem 13 = .ok (.ireturn, 1) := by decide +kernel
theorem dX3_readItem_14 : decode cX3_readItem 14 = .ok (.aload_n 0, 1) := by decide +kernel
theorem dX3_readItem_15 : decode cX3_readItem 15 = .ok (.getfield 22, 3) := by decide +kernel
theorem dX3_readItem_18 : decode cX3_readItem 18 = .ok (.iload_n 2, 1) := by decide +kernel
theorem dX3_readItem_19 : decode cX3_readItem 19 = .ok (.iaload, 1) := by decide +kernel
theorem dX3_readItem_20 : decode cX3_readItem 20 = .ok (.istore_n 3, 1) := by decide +kernel
theorem dX3_readItem_21 : decode cX3_readItem 21 = .ok (.aload_n 0, 1) := by decide +kernel
theorem dX3_readItem_22 : decode cX3_readItem 22 = .ok (.invokevirtual 49, 3) := by decide +kernel
theorem dX3_readItem_25 : decode cX3_readItem 25 = .ok (.istore 4, 2) := by decide +kernel
theorem dX3_readItem_27 : decode cX3_readItem 27 = .ok (.iload 4, 2) := by decide +kernel
theorem dX3_readItem_29 : decode cX3_readItem 29 = .ok (.bipush 101, 2) := by decide +kernel
theorem dX3_readItem_31 : decode cX3_readItem 31 = .ok (.if_icmp .ne 7, 3) := by decide +kernel
theorem dX3_readItem_34 : decode cX3_readItem 34 = .ok (.iconst 1, 1) := by decide +kernel
theorem dX3_readItem_35 : decode cX3_readItem 35 = .ok (.goto 4, 3) := by decide +kernel
theorem dX3_readItem_38 : decode cX3_readItem 38 = .ok (.iconst 0, 1) := by decide +kernel
theorem dX3_readItem_39 : decode cX3_readItem 39 = .ok (.istore 5, 2) := by decide +kernel
theorem dX3_readItem_41 : decode cX3_readItem 41 = .ok (.iload 5, 2) := by decide +kernel
theorem dX3_readItem_43 : decode cX3_readItem 43 = .ok (.ifCond .eq 7, 3) := by decide +kernel
theorem dX3_readItem_46 : decode cX3_readItem 46 = .ok (.iconst (-1), 1) := by decide +kernel
theorem dX3_readItem_47 : decode cX3_readItem 47 = .ok (.goto 11, 3) := by decide +kernel
theorem dX3_readItem_50 : decode cX3_readItem 50 = .ok (.aload_n 0, 1) := by decide +kernel
theorem dX3_readItem_51 : decode cX3_readItem 51 = .ok (.iload 4, 2) := by decide +kernel
theorem dX3_readItem_53 : decode cX3_readItem 53 = .ok (.iload_n 2, 1) := by decide +kernel
theorem dX3_readItem_54 : decode cX3_readItem 54 = .ok (.iload_n 3, 1) := by decide +kernel
theorem dX3_readItem_55 : decode cX3_readItem 55 = .ok (.invokevirtual 52, 3) := by decide +kernel
theorem dX3_readItem_58 : decode cX3_readItem 58 = .ok (.istore 6, 2) := by decide +kernel
theorem dX3_readItem_60 : decode cX3_readItem 60 = .ok (.iload 5, 2) := by decide +kernel
theorem dX3_readItem_62 : decode cX3_readItem 62 = .ok (.ifCond .eq 10, 3) := by decide +kernel
theorem dX3_readItem_65 : decode cX3_readItem 65 = .ok (.aload_n 0, 1) := by decide +kernel
theorem dX3_readItem_66 : decode cX3_readItem 66 = .ok (.invokevirtual 56, 3) := by decide +kernel
theorem dX3_readItem_69 : decode cX3_readItem 69 = .ok (.goto 8, 3) := by decide +kernel
theorem dX3_readItem_72 : decode cX3_readItem 72 = .ok (.iload 6, 2) := by decide +kernel
theorem dX3_readItem_74 : decode cX3_readItem 74 = .ok (.invokestatic 59, 3) := by decide +kernel
theorem dX3_readItem_77 : decode cX3_readItem 77 = .ok (.istore 7, 2) := by decide +kernel
theorem dX3_readItem_79 : decode cX3_readItem 79 = .ok (.iload 7, 2) := by decide +kernel
theorem dX3_readItem_81 : decode cX3_readItem 81 = .ok (.iconst 1, 1) := by decide +kernel
theorem dX3_readItem_82 : decode cX3_readItem 82 = .ok (.if_icmp .lt 23, 3) := by decide +kernel
theorem dX3_readItem_85 : decode cX3_readItem 85 = .ok (.iload 7, 2) := by decide +kernel
theorem dX3_readItem_87 : decode cX3_readItem 87 = .ok (.aload_n 1, 1) := by decide +kernel
theorem dX3_readItem_88 : decode cX3_readItem 88 = .ok (.getfield 63, 3) := by decide +kernel
theorem dX3_readItem_91 : decode cX3_readItem 91 = .ok (.iload_n 3, 1) := by decide +kernel
theorem dX3_readItem_92 : decode cX3_readItem 92 = .ok (.isub, 1) := by decide +kernel
theorem dX3_readItem_93 : decode cX3_readItem 93 = .ok (.if_icmp .gt 12, 3) := by decide +kernel
theorem dX3_readItem_96 : decode cX3_readItem 96 = .ok (.aload_n 0, 1) := by decide +kernel
theorem dX3_readItem_97 : decode cX3_readItem 97 = .ok (.invokevirtual 49, 3) := by decide +kernel
theorem dX3_readItem_100 : decode cX3_readItem 100 = .ok (.bipush 59, 2) := by decide +kernel
theorem dX3_readItem_102 : decode cX3_readItem 102 = .ok (.if_icmp .eq 5, 3) := by decide +kernel
theorem dX3_readItem_105 : decode cX3_readItem 105 = .ok (.iconst 0, 1) := by decide +kernel
theorem dX3_readItem_106 : decode cX3_readItem 106 = .ok (.ireturn, 1) := by decide +kernel
theorem dX3_readItem_107 : decode cX3_readItem 107 = .ok (.aload_n 0, 1) := by decide +kernel
theorem dX3_readItem_108 : decode cX3_readItem 108 = .ok (.getfield 22, 3) := by decide +kernel
theorem dX3_readItem_111 : decode cX3_readItem 111 = .ok (.iload_n 2, 1) := by decide +kernel
theorem dX3_readItem_112 : decode cX3_readItem 112 = .ok (.iload_n 3, 1) := by decide +kernel
theorem dX3_readItem_113 : decode cX3_readItem 113 = .ok (.iload 7, 2) := by decide +kernel
theorem dX3_readItem_115 : decode cX3_readItem 115 = .ok (.iadd, 1) := by decide +kernel
theorem dX3_readItem_116 : decode cX3_readItem 116 = .ok (.iastore, 1) := by decide +kernel
theorem dX3_readItem_117 : decode cX3_readItem 117 = .ok (.iload 5, 2) := by decide +kernel
theorem dX3_readItem_119 : decode cX3_readItem 119 = .ok (.ifCond .ne 12, 3) := by decide +kernel
theorem dX3_readItem_122 : decode cX3_readItem 122 = .ok (.aload_n 1, 1) := by decide +kernel
theorem dX3_readItem_123 : decode cX3_readItem 123 = .ok (.iload 6, 2) := by decide +kernel
theorem dX3_readItem_125 : decode cX3_readItem 125 = .ok (.invokestatic 66, 3) := by decide +kernel
theorem dX3_readItem_128 : decode cX3_readItem 128 = .ok (.ifCond .eq 7, 3) := by decide +kernel
theorem dX3_readItem_131 : decode cX3_readItem 131 = .ok (.iconst 1, 1) := by decide +kernel
theorem dX3_readItem_132 : decode cX3_readItem 132 = .ok (.goto 4, 3) := by decide +kernel
theorem dX3_readItem_135 : decode cX3_readItem 135 = .ok (.iconst 0, 1) := by decide +kernel
theorem dX3_readItem_136 : decode cX3_readItem 136 = .ok (.ireturn, 1) := by decide +kernel
theorem dX3_spanOf_0 : decode cX3_spanOf 0 = .ok (.iload_n 0, 1) := by decide +kernel
theorem dX3_spanOf_1 : decode cX3_spanOf 1 = .ok (.iconst (-1), 1) := by decide +kernel
theorem dX3_spanOf_2 : decode cX3_spanOf 2 = .ok (.if_icmp .ne 7, 3) := by decide +kernel
theorem dX3_spanOf_5 : decode cX3_spanOf 5 = .ok (.iconst 0, 1) := by decide +kernel
theorem dX3_spanOf_6 : decode cX3_spanOf 6 = .ok (.goto 7, 3) := by decide +kernel
theorem dX3_spanOf_9 : decode cX3_spanOf 9 = .ok (.iload_n 0, 1) := by decide +kernel
theorem dX3_spanOf_10 : decode cX3_spanOf 10 = .ok (.invokestatic 70, 3) := by decide +kernel
theorem dX3_spanOf_13 : decode cX3_spanOf 13 = .ok (.ireturn, 1) := by decide +kernel
theorem dX3_isTaken_0 : decode cX3_isTaken 0 = .ok (.aload_n 0, 1) := by decide +kernel
theorem dX3_isTaken_1 : decode cX3_isTaken 1 = .ok (.getfield 73, 3) := by decide +kernel
theorem dX3_isTaken_4 : decode cX3_isTaken 4 = .ok (.bipush 60, 2) := by decide +kernel
theorem dX3_isTaken_6 : decode cX3_isTaken 6 = .ok (.if_icmp .ge 16, 3) := by decide +kernel
theorem dX3_isTaken_9 : decode cX3_isTaken 9 = .ok (.aload_n 0, 1) := by decide +kernel
theorem dX3_isTaken_10 : decode cX3_isTaken 10 = .ok (.iload_n 1, 1) := by decide +kernel
theorem dX3_isTaken_11 : decode cX3_isTaken 11 = .ok (.invokevirtual 74, 3) := by decide +kernel
theorem dX3_isTaken_14 : decode cX3_isTaken 14 = .ok (.iconst (-1), 1) := by decide +kernel
theorem dX3_isTaken_15 : decode cX3_isTaken 15 = .ok (.if_icmp .eq 7, 3) := by decide +kernel
theorem dX3_isTaken_18 : decode cX3_isTaken 18 = .ok (.iconst 1, 1) := by decide +kernel
theorem dX3_isTaken_19 : decode cX3_isTaken 19 = .ok (.goto 4, 3) := by decide +kernel
theorem dX3_isTaken_22 : decode cX3_isTaken 22 = .ok (.iconst 0, 1) := by decide +kernel
theorem dX3_isTaken_23 : decode cX3_isTaken 23 = .ok (.ireturn, 1) := by decide +kernel
theorem dX3_readSign_0 : decode cX3_readSign 0 = .ok (.iload_n 1, 1) := by decide +kernel
theorem dX3_readSign_1 : decode cX3_readSign 1 = .ok (.tableswitch 85 107 116 #[62, 85, 55, 85, 85, 85, 85, 75, 85, 68], 55) := by decide +kernel
theorem dX3_readSign_56 : decode cX3_readSign 56 = .ok (.aload_n 0, 1) := by decide +kernel
theorem dX3_readSign_57 : decode cX3_readSign 57 = .ok (.iload_n 2, 1) := by decide +kernel
theorem dX3_readSign_58 : decode cX3_readSign 58 = .ok (.iload_n 3, 1) := by decide +kernel
theorem dX3_readSign_59 : decode cX3_readSign 59 = .ok (.invokevirtual 77, 3) := by decide +kernel
theorem dX3_readSign_62 : decode cX3_readSign 62 = .ok (.ireturn, 1) := by decide +kernel
theorem dX3_readSign_63 : decode cX3_readSign 63 = .ok (.iload_n 2, 1) := by decide +kernel
theorem dX3_readSign_64 : decode cX3_readSign 64 = .ok (.iload_n 3, 1) := by decide +kernel
theorem dX3_readSign_65 : decode cX3_readSign 65 = .ok (.invokestatic 81, 3) := by decide +kernel
theorem dX3_readSign_68 : decode cX3_readSign 68 = .ok (.ireturn, 1) := by decide +kernel
theorem dX3_readSign_69 : decode cX3_readSign 69 = .ok (.aload_n 0, 1) := by decide +kernel
theorem dX3_readSign_70 : decode cX3_readSign 70 = .ok (.iload_n 2, 1) := by decide +kernel
theorem dX3_readSign_71 : decode cX3_readSign 71 = .ok (.iload_n 3, 1) := by decide +kernel
theorem dX3_readSign_72 : decode cX3_readSign 72 = .ok (.invokevirtual 84, 3) := by decide +kernel
theorem dX3_readSign_75 : decode cX3_readSign 75 = .ok (.ireturn, 1) := by decide +kernel
theorem dX3_readSign_76 : decode cX3_readSign 76 = .ok (.iload_n 2, 1) := by decide +kernel
theorem dX3_readSign_77 : decode cX3_readSign 77 = .ok (.iload_n 3, 1) := by decide +kernel
theorem dX3_readSign_78 : decode cX3_readSign 78 = .ok (.aload_n 0, 1) := by decide +kernel
theorem dX3_readSign_79 : decode cX3_readSign 79 = .ok (.invokevirtual 56, 3) := by decide +kernel
theorem dX3_readSign_82 : decode cX3_readSign 82 = .ok (.invokestatic 87, 3) := by decide +kernel
theorem dX3_readSign_85 : decode cX3_readSign 85 = .ok (.ireturn, 1) := by decide +kernel
theorem dX3_readSign_86 : decode cX3_readSign 86 = .ok (.iconst (-1), 1) := by decide +kernel
theorem dX3_readSign_87 : decode cX3_readSign 87 = .ok (.ireturn, 1) := by decide +kernel
theorem dX3_readMove_0 : decode cX3_readMove 0 = .ok (.aload_n 0, 1) := by decide +kernel
theorem dX3_readMove_1 : decode cX3_readMove 1 = .ok (.invokevirtual 41, 3) := by decide +kernel
theorem dX3_readMove_4 : decode cX3_readMove 4 = .ok (.istore_n 3, 1) := by decide +kernel
theorem dX3_readMove_5 : decode cX3_readMove 5 = .ok (.aload_n 0, 1) := by decide +kernel
theorem dX3_readMove_6 : decode cX3_readMove 6 = .ok (.invokevirtual 49, 3) := by decide +kernel
theorem dX3_readMove_9 : decode cX3_readMove 9 = .ok (.invokestatic 90, 3) := by decide +kernel
theorem dX3_readMove_12 : decode cX3_readMove 12 = .ok (.istore 4, 2) := by decide +kernel
theorem dX3_readMove_14 : decode cX3_readMove 14 = .ok (.aload_n 0, 1) := by decide +kernel
theorem dX3_readMove_15 : decode cX3_readMove 15 = .ok (.invokevirtual 56, 3) := by decide +kernel
theorem dX3_readMove_18 : decode cX3_readMove 18 = .ok (.istore 5, 2) := by decide +kernel
theorem dX3_readMove_20 : decode cX3_readMove 20 = .ok (.iload_n 1, 1) := by decide +kernel
theorem dX3_readMove_21 : decode cX3_readMove 21 = .ok (.bipush 6, 2) := by decide +kernel
theorem dX3_readMove_23 : decode cX3_readMove 23 = .ok (.if_icmp .eq 19, 3) := by decide +kernel
theorem dX3_readMove_26 : decode cX3_readMove 26 = .ok (.iload_n 3, 1) := by decide +kernel
theorem dX3_readMove_27 : decode cX3_readMove 27 = .ok (.iconst 0, 1) := by decide +kernel
theorem dX3_readMove_28 : decode cX3_readMove 28 = .ok (.bipush 8, 2) := by decide +kernel
theorem dX3_readMove_30 : decode cX3_readMove 30 = .ok (.invokestatic 93, 3) := by decide +kernel
theorem dX3_readMove_33 : decode cX3_readMove 33 = .ok (.ifCond .eq 9, 3) := by decide +kernel
theorem dX3_readMove_36 : decode cX3_readMove 36 = .ok (.iload 4, 2) := by decide +kernel
theorem dX3_readMove_38 : decode cX3_readMove 38 = .ok (.iconst (-1), 1) := by decide +kernel
theorem dX3_readMove_39 : decode cX3_readMove 39 = .ok (.if_icmp .ne 5, 3) := by decide +kernel
theorem dX3_readMove_42 : decode cX3_readMove 42 = .ok (.iconst (-1), 1) := by decide +kernel
theorem dX3_readMove_43 : decode cX3_readMove 43 = .ok (.ireturn, 1) := by decide +kernel
theorem dX3_readMove_44 : decode cX3_readMove 44 = .ok (.iload_n 1, 1) := by decide +kernel
theorem dX3_readMove_45 : decode cX3_readMove 45 = .ok (.iload_n 2, 1) := by decide +kernel
theorem dX3_readMove_46 : decode cX3_readMove 46 = .ok (.iload 5, 2) := by decide +kernel
theorem dX3_readMove_48 : decode cX3_readMove 48 = .ok (.iload_n 3, 1) := by decide +kernel
theorem dX3_readMove_49 : decode cX3_readMove 49 = .ok (.iload 4, 2) := by decide +kernel
theorem dX3_readMove_51 : decode cX3_readMove 51 = .ok (.invokestatic 97, 3) := by decide +kernel
theorem dX3_readMove_54 : decode cX3_readMove 54 = .ok (.ireturn, 1) := by decide +kernel
theorem dX3_readTurn_0 : decode cX3_readTurn 0 = .ok (.aload_n 0, 1) := by decide +kernel
theorem dX3_readTurn_1 : decode cX3_readTurn 1 = .ok (.invokevirtual 49, 3) := by decide +kernel
theorem dX3_readTurn_4 : decode cX3_readTurn 4 = .ok (.istore_n 3, 1) := by decide +kernel
theorem dX3_readTurn_5 : decode cX3_readTurn 5 = .ok (.aload_n 0, 1) := by decide +kernel
theorem dX3_readTurn_6 : decode cX3_readTurn 6 = .ok (.invokevirtual 41, 3) := by decide +kernel
theorem dX3_readTurn_9 : decode cX3_readTurn 9 = .ok (.istore 4, 2) := by decide +kernel
theorem dX3_readTurn_11 : decode cX3_readTurn 11 = .ok (.aload_n 0, 1) := by decide +kernel
theorem dX3_readTurn_12 : decode cX3_readTurn 12 = .ok (.invokevirtual 49, 3) := by decide +kernel
theorem dX3_readTurn_15 : decode cX3_readTurn 15 = .ok (.istore 5, 2) := by decide +kernel
theorem dX3_readTurn_17 : decode cX3_readTurn 17 = .ok (.aload_n 0, 1) := by decide +kernel
theorem dX3_readTurn_18 : decode cX3_readTurn 18 = .ok (.invokevirtual 56, 3) := by decide +kernel
theorem dX3_readTurn_21 : decode cX3_readTurn 21 = .ok (.istore 6, 2) := by decide +kernel
theorem dX3_readTurn_23 : decode cX3_readTurn 23 = .ok (.iload_n 1, 1) := by decide +kernel
theorem dX3_readTurn_24 : decode cX3_readTurn 24 = .ok (.bipush 6, 2) := by decide +kernel
theorem dX3_readTurn_26 : decode cX3_readTurn 26 = .ok (.if_icmp .ne 33, 3) := by decide +kernel
theorem dX3_readTurn_29 : decode cX3_readTurn 29 = .ok (.iload_n 3, 1) := by decide +kernel
theorem dX3_readTurn_30 : decode cX3_readTurn 30 = .ok (.bipush 43, 2) := by decide +kernel
theorem dX3_readTurn_32 : decode cX3_readTurn 32 = .ok (.if_icmp .eq 9, 3) := by decide +kernel
theorem dX3_readTurn_35 : decode cX3_readTurn 35 = .ok (.iload_n 3, 1) := by decide +kernel
theorem dX3_readTurn_36 : decode cX3_readTurn 36 = .ok (.bipush 45, 2) := by decide +kernel
theorem dX3_readTurn_38 : decode cX3_readTurn 38 = .ok (.if_icmp .ne 21, 3) := by decide +kernel
theorem dX3_readTurn_41 : decode cX3_readTurn 41 = .ok (.iload 4, 2) := by decide +kernel
theorem dX3_readTurn_43 : decode cX3_readTurn 43 = .ok (.iconst 1, 1) := by decide +kernel
theorem dX3_readTurn_44 : decode cX3_readTurn 44 = .ok (.bipush 8, 2) := by decide +kernel
theorem dX3_readTurn_46 : decode cX3_readTurn 46 = .ok (.invokestatic 93, 3) := by decide +kernel
theorem dX3_readTurn_49 : decode cX3_readTurn 49 = .ok (.ifCond .eq 10, 3) := by decide +kernel
theorem dX3_readTurn_52 : decode cX3_readTurn 52 = .ok (.iload 5, 2) := by decide +kernel
theorem dX3_readTurn_54 : decode cX3_readTurn 54 = .ok (.bipush 47, 2) := by decide +kernel
theorem dX3_readTurn_56 : decode cX3_readTurn 56 = .ok (.if_icmp .eq 5, 3) := by decide +kernel
theorem dX3_readTurn_59 : decode cX3_readTurn 59 = .ok (.iconst (-1), 1) := by decide +kernel
theorem dX3_readTurn_60 : decode cX3_readTurn 60 = .ok (.ireturn, 1) := by decide +kernel
theorem dX3_readTurn_61 : decode cX3_readTurn 61 = .ok (.iload_n 1, 1) := by decide +kernel
theorem dX3_readTurn_62 : decode cX3_readTurn 62 = .ok (.iload_n 2, 1) := by decide +kernel
theorem dX3_readTurn_63 : decode cX3_readTurn 63 = .ok (.iload 6, 2) := by decide +kernel
theorem dX3_readTurn_65 : decode cX3_readTurn 65 = .ok (.iload_n 3, 1) := by decide +kernel
theorem dX3_readTurn_66 : decode cX3_readTurn 66 = .ok (.bipush 43, 2) := by decide +kernel
theorem dX3_readTurn_68 : decode cX3_readTurn 68 = .ok (.if_icmp .ne 8, 3) := by decide +kernel
theorem dX3_readTurn_71 : decode cX3_readTurn 71 = .ok (.iload 4, 2) := by decide +kernel
theorem dX3_readTurn_73 : decode cX3_readTurn 73 = .ok (.goto 6, 3) := by decide +kernel
theorem dX3_readTurn_76 : decode cX3_readTurn 76 = .ok (.iload 4, 2) := by decide +kernel
theorem dX3_readTurn_78 : decode cX3_readTurn 78 = .ok (.ineg, 1) := by decide +kernel
theorem dX3_readTurn_79 : decode cX3_readTurn 79 = .ok (.invokestatic 101, 3) := by decide +kernel
theorem dX3_readTurn_82 : decode cX3_readTurn 82 = .ok (.ireturn, 1) := by decide +kernel
theorem dX3_levelNamed_0 : decode cX3_levelNamed 0 = .ok (.iload_n 0, 1) := by decide +kernel
theorem dX3_levelNamed_1 : decode cX3_levelNamed 1 = .ok (.lookupswitch 41 #[(104, 39), (108, 35), (110, 37)], 35) := by decide +kernel
theorem dX3_levelNamed_36 : decode cX3_levelNamed 36 = .ok (.iconst 0, 1) := by decide +kernel
theorem dX3_levelNamed_37 : decode cX3_levelNamed 37 = .ok (.ireturn, 1) := by decide +kernel
theorem dX3_levelNamed_38 : decode cX3_levelNamed 38 = .ok (.iconst 1, 1) := by decide +kernel
theorem dX3_levelNamed_39 : decode cX3_levelNamed 39 = .ok (.ireturn, 1) := by decide +kernel
theorem dX3_levelNamed_40 : decode cX3_levelNamed 40 = .ok (.iconst 2, 1) := by decide +kernel
theorem dX3_levelNamed_41 : decode cX3_levelNamed 41 = .ok (.ireturn, 1) := by decide +kernel
theorem dX3_levelNamed_42 : decode cX3_levelNamed 42 = .ok (.iconst (-1), 1) := by decide +kernel
theorem dX3_levelNamed_43 : decode cX3_levelNamed 43 = .ok (.ireturn, 1) := by decide +kernel
theorem dX3_readLength_0 : decode cX3_readLength 0 = .ok (.aload_n 0, 1) := by decide +kernel
theorem dX3_readLength_1 : decode cX3_readLength 1 = .ok (.aload_n 0, 1) := by decide +kernel
theorem dX3_readLength_2 : decode cX3_readLength 2 = .ok (.getfield 15, 3) := by decide +kernel
theorem dX3_readLength_5 : decode cX3_readLength 5 = .ok (.invokevirtual 105, 3) := by decide +kernel
theorem dX3_readLength_8 : decode cX3_readLength 8 = .ok (.istore_n 1, 1) := by decide +kernel
theorem dX3_readLength_9 : decode cX3_readLength 9 = .ok (.iload_n 1, 1) := by decide +kernel
theorem dX3_readLength_10 : decode cX3_readLength 10 = .ok (.iconst (-1), 1) := by decide +kernel
theorem dX3_readLength_11 : decode cX3_readLength 11 = .ok (.if_icmp .ne 5, 3) := by decide +kernel
theorem dX3_readLength_14 : decode cX3_readLength 14 = .ok (.iconst 0, 1) := by decide +kernel
theorem dX3_readLength_15 : decode cX3_readLength 15 = .ok (.ireturn, 1) := by decide +kernel
theorem dX3_readLength_16 : decode cX3_readLength 16 = .ok (.aload_n 0, 1) := by decide +kernel
theorem dX3_readLength_17 : decode cX3_readLength 17 = .ok (.dup, 1) := by decide +kernel
theorem dX3_readLength_18 : decode cX3_readLength 18 = .ok (.getfield 15, 3) := by decide +kernel
theorem dX3_readLength_21 : decode cX3_readLength 21 = .ok (.iconst 1, 1) := by decide +kernel
theorem dX3_readLength_22 : decode cX3_readLength 22 = .ok (.iadd, 1) := by decide +kernel
theorem dX3_readLength_23 : decode cX3_readLength 23 = .ok (.putfield 15, 3) := by decide +kernel
theorem dX3_readLength_26 : decode cX3_readLength 26 = .ok (.aload_n 0, 1) := by decide +kernel
theorem dX3_readLength_27 : decode cX3_readLength 27 = .ok (.aload_n 0, 1) := by decide +kernel
theorem dX3_readLength_28 : decode cX3_readLength 28 = .ok (.getfield 15, 3) := by decide +kernel
theorem dX3_readLength_31 : decode cX3_readLength 31 = .ok (.invokevirtual 105, 3) := by decide +kernel
theorem dX3_readLength_34 : decode cX3_readLength 34 = .ok (.istore_n 2, 1) := by decide +kernel
theorem dX3_readLength_35 : decode cX3_readLength 35 = .ok (.iload_n 2, 1) := by decide +kernel
theorem dX3_readLength_36 : decode cX3_readLength 36 = .ok (.iconst (-1), 1) := by decide +kernel
theorem dX3_readLength_37 : decode cX3_readLength 37 = .ok (.if_icmp .ne 5, 3) := by decide +kernel
theorem dX3_readLength_40 : decode cX3_readLength 40 = .ok (.iload_n 1, 1) := by decide +kernel
theorem dX3_readLength_41 : decode cX3_readLength 41 = .ok (.ireturn, 1) := by decide +kernel
theorem dX3_readLength_42 : decode cX3_readLength 42 = .ok (.aload_n 0, 1) := by decide +kernel
theorem dX3_readLength_43 : decode cX3_readLength 43 = .ok (.dup, 1) := by decide +kernel
theorem dX3_readLength_44 : decode cX3_readLength 44 = .ok (.getfield 15, 3) := by decide +kernel
theorem dX3_readLength_47 : decode cX3_readLength 47 = .ok (.iconst 1, 1) := by decide +kernel
theorem dX3_readLength_48 : decode cX3_readLength 48 = .ok (.iadd, 1) := by decide +kernel
theorem dX3_readLength_49 : decode cX3_readLength 49 = .ok (.putfield 15, 3) := by decide +kernel
theorem dX3_readLength_52 : decode cX3_readLength 52 = .ok (.iload_n 1, 1) := by decide +kernel
theorem dX3_readLength_53 : decode cX3_readLength 53 = .ok (.bipush 10, 2) := by decide +kernel
theorem dX3_readLength_55 : decode cX3_readLength 55 = .ok (.imul, 1) := by decide +kernel
theorem dX3_readLength_56 : decode cX3_readLength 56 = .ok (.iload_n 2, 1) := by decide +kernel
theorem dX3_readLength_57 : decode cX3_readLength 57 = .ok (.iadd, 1) := by decide +kernel
theorem dX3_readLength_58 : decode cX3_readLength 58 = .ok (.ireturn, 1) := by decide +kernel
theorem dX3_readDigit_0 : decode cX3_readDigit 0 = .ok (.aload_n 0, 1) := by decide +kernel
theorem dX3_readDigit_1 : decode cX3_readDigit 1 = .ok (.aload_n 0, 1) := by decide +kernel
theorem dX3_readDigit_2 : decode cX3_readDigit 2 = .ok (.getfield 15, 3) := by decide +kernel
theorem dX3_readDigit_5 : decode cX3_readDigit 5 = .ok (.invokevirtual 105, 3) := by decide +kernel
theorem dX3_readDigit_8 : decode cX3_readDigit 8 = .ok (.istore_n 1, 1) := by decide +kernel
theorem dX3_readDigit_9 : decode cX3_readDigit 9 = .ok (.aload_n 0, 1) := by decide +kernel
theorem dX3_readDigit_10 : decode cX3_readDigit 10 = .ok (.dup, 1) := by decide +kernel
theorem dX3_readDigit_11 : decode cX3_readDigit 11 = .ok (.getfield 15, 3) := by decide +kernel
theorem dX3_readDigit_14 : decode cX3_readDigit 14 = .ok (.iconst 1, 1) := by decide +kernel
theorem dX3_readDigit_15 : decode cX3_readDigit 15 = .ok (.iadd, 1) := by decide +kernel
theorem dX3_readDigit_16 : decode cX3_readDigit 16 = .ok (.putfield 15, 3) := by decide +kernel
theorem dX3_readDigit_19 : decode cX3_readDigit 19 = .ok (.iload_n 1, 1) := by decide +kernel
theorem dX3_readDigit_20 : decode cX3_readDigit 20 = .ok (.ireturn, 1) := by decide +kernel
theorem dX3_readCharacter_0 : decode cX3_readCharacter 0 = .ok (.aload_n 0, 1) := by decide +kernel
theorem dX3_readCharacter_1 : decode cX3_readCharacter 1 = .ok (.getfield 15, 3) := by decide +kernel
theorem dX3_readCharacter_4 : decode cX3_readCharacter 4 = .ok (.aload_n 0, 1) := by decide +kernel
theorem dX3_readCharacter_5 : decode cX3_readCharacter 5 = .ok (.getfield 9, 3) := by decide +kernel
theorem dX3_readCharacter_8 : decode cX3_readCharacter 8 = .ok (.if_icmp .ge 15, 3) := by decide +kernel
theorem dX3_readCharacter_11 : decode cX3_readCharacter 11 = .ok (.aload_n 0, 1) := by decide +kernel
theorem dX3_readCharacter_12 : decode cX3_readCharacter 12 = .ok (.getfield 18, 3) := by decide +kernel
theorem dX3_readCharacter_15 : decode cX3_readCharacter 15 = .ok (.aload_n 0, 1) := by decide +kernel
theorem dX3_readCharacter_16 : decode cX3_readCharacter 16 = .ok (.getfield 15, 3) := by decide +kernel
theorem dX3_readCharacter_19 : decode cX3_readCharacter 19 = .ok (.iaload, 1) := by decide +kernel
theorem dX3_readCharacter_20 : decode cX3_readCharacter 20 = .ok (.goto 4, 3) := by decide +kernel
theorem dX3_readCharacter_23 : decode cX3_readCharacter 23 = .ok (.iconst (-1), 1) := by decide +kernel
theorem dX3_readCharacter_24 : decode cX3_readCharacter 24 = .ok (.istore_n 1, 1) := by decide +kernel
theorem dX3_readCharacter_25 : decode cX3_readCharacter 25 = .ok (.aload_n 0, 1) := by decide +kernel
theorem dX3_readCharacter_26 : decode cX3_readCharacter 26 = .ok (.dup, 1) := by decide +kernel
theorem dX3_readCharacter_27 : decode cX3_readCharacter 27 = .ok (.getfield 15, 3) := by decide +kernel
theorem dX3_readCharacter_30 : decode cX3_readCharacter 30 = .ok (.iconst 1, 1) := by decide +kernel
theorem dX3_readCharacter_31 : decode cX3_readCharacter 31 = .ok (.iadd, 1) := by decide +kernel
theorem dX3_readCharacter_32 : decode cX3_readCharacter 32 = .ok (.putfield 15, 3) := by decide +kernel
theorem dX3_readCharacter_35 : decode cX3_readCharacter 35 = .ok (.iload_n 1, 1) := by decide +kernel
theorem dX3_readCharacter_36 : decode cX3_readCharacter 36 = .ok (.ireturn, 1) := by decide +kernel
theorem dX3_digitAt_0 : decode cX3_digitAt 0 = .ok (.iload_n 1, 1) := by decide +kernel
theorem dX3_digitAt_1 : decode cX3_digitAt 1 = .ok (.aload_n 0, 1) := by decide +kernel
theorem dX3_digitAt_2 : decode cX3_digitAt 2 = .ok (.getfield 9, 3) := by decide +kernel
theorem dX3_digitAt_5 : decode cX3_digitAt 5 = .ok (.if_icmp .ge 12, 3) := by decide +kernel
theorem dX3_digitAt_8 : decode cX3_digitAt 8 = .ok (.aload_n 0, 1) := by decide +kernel
theorem dX3_digitAt_9 : decode cX3_digitAt 9 = .ok (.getfield 18, 3) := by decide +kernel
theorem dX3_digitAt_12 : decode cX3_digitAt 12 = .ok (.iload_n 1, 1) := by decide +kernel
theorem dX3_digitAt_13 : decode cX3_digitAt 13 = .ok (.iaload, 1) := by decide +kernel
theorem dX3_digitAt_14 : decode cX3_digitAt 14 = .ok (.goto 4, 3) := by decide +kernel
theorem dX3_digitAt_17 : decode cX3_digitAt 17 = .ok (.iconst (-1), 1) := by decide +kernel
theorem dX3_digitAt_18 : decode cX3_digitAt 18 = .ok (.istore_n 2, 1) := by decide +kernel
theorem dX3_digitAt_19 : decode cX3_digitAt 19 = .ok (.iload_n 2, 1) := by decide +kernel
theorem dX3_digitAt_20 : decode cX3_digitAt 20 = .ok (.bipush 48, 2) := by decide +kernel
theorem dX3_digitAt_22 : decode cX3_digitAt 22 = .ok (.if_icmp .lt 16, 3) := by decide +kernel
theorem dX3_digitAt_25 : decode cX3_digitAt 25 = .ok (.iload_n 2, 1) := by decide +kernel
theorem dX3_digitAt_26 : decode cX3_digitAt 26 = .ok (.bipush 57, 2) := by decide +kernel
theorem dX3_digitAt_28 : decode cX3_digitAt 28 = .ok (.if_icmp .gt 10, 3) := by decide +kernel
theorem dX3_digitAt_31 : decode cX3_digitAt 31 = .ok (.iload_n 2, 1) := by decide +kernel
theorem dX3_digitAt_32 : decode cX3_digitAt 32 = .ok (.bipush 48, 2) := by decide +kernel
theorem dX3_digitAt_34 : decode cX3_digitAt 34 = .ok (.isub, 1) := by decide +kernel
theorem dX3_digitAt_35 : decode cX3_digitAt 35 = .ok (.goto 4, 3) := by decide +kernel
theorem dX3_digitAt_38 : decode cX3_digitAt 38 = .ok (.iconst (-1), 1) := by decide +kernel
theorem dX3_digitAt_39 : decode cX3_digitAt 39 = .ok (.ireturn, 1) := by decide +kernel
theorem dX4_move_0 : decode cX4_move 0 = .ok (.iload_n 0, 1) := by decide +kernel
theorem dX4_move_1 : decode cX4_move 1 = .ok (.iload_n 1, 1) := by decide +kernel
theorem dX4_move_2 : decode cX4_move 2 = .ok (.iload_n 2, 1) := by decide +kernel
theorem dX4_move_3 : decode cX4_move 3 = .ok (.iconst 0, 1) := by decide +kernel
theorem dX4_move_4 : decode cX4_move 4 = .ok (.iload_n 3, 1) := by decide +kernel
theorem dX4_move_5 : decode cX4_move 5 = .ok (.iload 4, 2) := by decide +kernel
theorem dX4_move_7 : decode cX4_move 7 = .ok (.iconst 0, 1) := by decide +kernel
theorem dX4_move_8 : decode cX4_move 8 = .ok (.invokestatic 11, 3) := by decide +kernel
theorem dX4_move_11 : decode cX4_move 11 = .ok (.ireturn, 1) := by decide +kernel
theorem dX4_hold_0 : decode cX4_hold 0 = .ok (.iload_n 0, 1) := by decide +kernel
theorem dX4_hold_1 : decode cX4_hold 1 = .ok (.iload_n 1, 1) := by decide +kernel
theorem dX4_hold_2 : decode cX4_hold 2 = .ok (.iconst 1, 1) := by decide +kernel
theorem dX4_hold_3 : decode cX4_hold 3 = .ok (.iconst 1, 1) := by decide +kernel
theorem dX4_hold_4 : decode cX4_hold 4 = .ok (.iconst 0, 1) := by decide +kernel
theorem dX4_hold_5 : decode cX4_hold 5 = .ok (.iconst 0, 1) := by decide +kernel
theorem dX4_hold_6 : decode cX4_hold 6 = .ok (.iconst 0, 1) := by decide +kernel
theorem dX4_hold_7 : decode cX4_hold 7 = .ok (.invokestatic 11, 3) := by decide +kernel
theorem dX4_hold_10 : decode cX4_hold 10 = .ok (.ireturn, 1) := by decide +kernel
theorem dX4_turn_0 : decode cX4_turn 0 = .ok (.iload_n 0, 1) := by decide +kernel
theorem dX4_turn_1 : decode cX4_turn 1 = .ok (.iload_n 1, 1) := by decide +kernel
theorem dX4_turn_2 : decode cX4_turn 2 = .ok (.iload_n 2, 1) := by decide +kernel
theorem dX4_turn_3 : decode cX4_turn 3 = .ok (.iconst 2, 1) := by decide +kernel
theorem dX4_turn_4 : decode cX4_turn 4 = .ok (.iconst 0, 1) := by decide +kernel
theorem dX4_turn_5 : decode cX4_turn 5 = .ok (.iconst 0, 1) := by decide +kernel
theorem dX4_turn_6 : decode cX4_turn 6 = .ok (.iload_n 3, 1) := by decide +kernel
theorem dX4_turn_7 : decode cX4_turn 7 = .ok (.invokestatic 11, 3) := by decide +kernel
theorem dX4_turn_10 : decode cX4_turn 10 = .ok (.ireturn, 1) := by decide +kernel
theorem dX4_release_0 : decode cX4_release 0 = .ok (.iload_n 0, 1) := by decide +kernel
theorem dX4_release_1 : decode cX4_release 1 = .ok (.iload_n 1, 1) := by decide +kernel
theorem dX4_release_2 : decode cX4_release 2 = .ok (.iload_n 2, 1) := by decide +kernel
theorem dX4_release_3 : decode cX4_release 3 = .ok (.iconst 3, 1) := by decide +kernel
theorem dX4_release_4 : decode cX4_release 4 = .ok (.iconst 0, 1) := by decide +kernel
theorem dX4_release_5 : decode cX4_release 5 = .ok (.iconst 0, 1) := by decide +kernel
theorem dX4_release_6 : decode cX4_release 6 = .ok (.iconst 0, 1) := by decide +kernel
theorem dX4_release_7 : decode cX4_release 7 = .ok (.invokestatic 11, 3) := by decide +kernel
theorem dX4_release_10 : decode cX4_release 10 = .ok (.ireturn, 1) := by decide +kernel
theorem dX4_packed_0 : decode cX4_packed 0 = .ok (.iload_n 1, 1) := by decide +kernel
theorem dX4_packed_1 : decode cX4_packed 1 = .ok (.bipush 23, 2) := by decide +kernel
theorem dX4_packed_3 : decode cX4_packed 3 = .ok (.ishl, 1) := by decide +kernel
theorem dX4_packed_4 : decode cX4_packed 4 = .ok (.iload_n 0, 1) := by decide +kernel
theorem dX4_packed_5 : decode cX4_packed 5 = .ok (.bipush 20, 2) := by decide +kernel
theorem dX4_packed_7 : decode cX4_packed 7 = .ok (.ishl, 1) := by decide +kernel
theorem dX4_packed_8 : decode cX4_packed 8 = .ok (.ior, 1) := by decide +kernel
theorem dX4_packed_9 : decode cX4_packed 9 = .ok (.iload_n 2, 1) := by decide +kernel
theorem dX4_packed_10 : decode cX4_packed 10 = .ok (.bipush 13, 2) := by decide +kernel
theorem dX4_packed_12 : decode cX4_packed 12 = .ok (.ishl, 1) := by decide +kernel
theorem dX4_packed_13 : decode cX4_packed 13 = .ok (.ior, 1) := by decide +kernel
theorem dX4_packed_14 : decode cX4_packed 14 = .ok (.iload_n 3, 1) := by decide +kernel
theorem dX4_packed_15 : decode cX4_packed 15 = .ok (.bipush 11, 2) := by decide +kernel
theorem dX4_packed_17 : decode cX4_packed 17 = .ok (.ishl, 1) := by decide +kernel
theorem dX4_packed_18 : decode cX4_packed 18 = .ok (.ior, 1) := by decide +kernel
theorem dX4_packed_19 : decode cX4_packed 19 = .ok (.iload 4, 2) := by decide +kernel
theorem dX4_packed_21 : decode cX4_packed 21 = .ok (.bipush 7, 2) := by decide +kernel
theorem dX4_packed_23 : decode cX4_packed 23 = .ok (.ishl, 1) := by decide +kernel
theorem dX4_packed_24 : decode cX4_packed 24 = .ok (.ior, 1) := by decide +kernel
theorem dX4_packed_25 : decode cX4_packed 25 = .ok (.iload 5, 2) := by decide +kernel
theorem dX4_packed_27 : decode cX4_packed 27 = .ok (.iconst 5, 1) := by decide +kernel
theorem dX4_packed_28 : decode cX4_packed 28 = .ok (.ishl, 1) := by decide +kernel
theorem dX4_packed_29 : decode cX4_packed 29 = .ok (.ior, 1) := by decide +kernel
theorem dX4_packed_30 : decode cX4_packed 30 = .ok (.iload 6, 2) := by decide +kernel
theorem dX4_packed_32 : decode cX4_packed 32 = .ok (.bipush 8, 2) := by decide +kernel
theorem dX4_packed_34 : decode cX4_packed 34 = .ok (.iadd, 1) := by decide +kernel
theorem dX4_packed_35 : decode cX4_packed 35 = .ok (.ior, 1) := by decide +kernel
theorem dX4_packed_36 : decode cX4_packed 36 = .ok (.ireturn, 1) := by decide +kernel
theorem dX4_beginOf_0 : decode cX4_beginOf 0 = .ok (.iload_n 0, 1) := by decide +kernel
theorem dX4_beginOf_1 : decode cX4_beginOf 1 = .ok (.bipush 23, 2) := by decide +kernel
theorem dX4_beginOf_3 : decode cX4_beginOf 3 = .ok (.ishr, 1) := by decide +kernel
theorem dX4_beginOf_4 : decode cX4_beginOf 4 = .ok (.bipush 127, 2) := by decide +kernel
theorem dX4_beginOf_6 : decode cX4_beginOf 6 = .ok (.iand, 1) := by decide +kernel
theorem dX4_beginOf_7 : decode cX4_beginOf 7 = .ok (.ireturn, 1) := by decide +kernel
theorem dX4_columnOf_0 : decode cX4_columnOf 0 = .ok (.iload_n 0, 1) := by decide +kernel
theorem dX4_columnOf_1 : decode cX4_columnOf 1 = .ok (.bipush 20, 2) := by decide +kernel
theorem dX4_columnOf_3 : decode cX4_columnOf 3 = .ok (.ishr, 1) := by decide +kernel
theorem dX4_columnOf_4 : decode cX4_columnOf 4 = .ok (.bipush 7, 2) := by decide +kernel
theorem dX4_columnOf_6 : decode cX4_columnOf 6 = .ok (.iand, 1) := by decide +kernel
theorem dX4_columnOf_7 : decode cX4_columnOf 7 = .ok (.ireturn, 1) := by decide +kernel
theorem dX4_spanOf_0 : decode cX4_spanOf 0 = .ok (.iload_n 0, 1) := by decide +kernel
theorem dX4_spanOf_1 : decode cX4_spanOf 1 = .ok (.bipush 13, 2) := by decide +kernel
theorem dX4_spanOf_3 : decode cX4_spanOf 3 = .ok (.ishr, 1) := by decide +kernel
theorem dX4_spanOf_4 : decode cX4_spanOf 4 = .ok (.bipush 127, 2) := by decide +kernel
theorem dX4_spanOf_6 : decode cX4_spanOf 6 = .ok (.iand, 1) := by decide +kernel
theorem dX4_spanOf_7 : decode cX4_spanOf 7 = .ok (.ireturn, 1) := by decide +kernel
theorem dX4_kindOf_0 : decode cX4_kindOf 0 = .ok (.iload_n 0, 1) := by decide +kernel
theorem dX4_kindOf_1 : decode cX4_kindOf 1 = .ok (.bipush 11, 2) := by decide +kernel
theorem dX4_kindOf_3 : decode cX4_kindOf 3 = .ok (.ishr, 1) := by decide +kernel
theorem dX4_kindOf_4 : decode cX4_kindOf 4 = .ok (.iconst 3, 1) := by decide +kernel
theorem dX4_kindOf_5 : decode cX4_kindOf 5 = .ok (.iand, 1) := by decide +kernel
theorem dX4_kindOf_6 : decode cX4_kindOf 6 = .ok (.ireturn, 1) := by decide +kernel
theorem dX4_directionOf_0 : decode cX4_directionOf 0 = .ok (.iload_n 0, 1) := by decide +kernel
theorem dX4_directionOf_1 : decode cX4_directionOf 1 = .ok (.bipush 7, 2) := by decide +kernel
theorem dX4_directionOf_3 : decode cX4_directionOf 3 = .ok (.ishr, 1) := by decide +kernel
theorem dX4_directionOf_4 : decode cX4_directionOf 4 = .ok (.bipush 15, 2) := by decide +kernel
theorem dX4_directionOf_6 : decode cX4_directionOf 6 = .ok (.iand, 1) := by decide +kernel
theorem dX4_directionOf_7 : decode cX4_directionOf 7 = .ok (.ireturn, 1) := by decide +kernel
theorem dX4_levelOf_0 : decode cX4_levelOf 0 = .ok (.iload_n 0, 1) := by decide +kernel
theorem dX4_levelOf_1 : decode cX4_levelOf 1 = .ok (.iconst 5, 1) := by decide +kernel
theorem dX4_levelOf_2 : decode cX4_levelOf 2 = .ok (.ishr, 1) := by decide +kernel
theorem dX4_levelOf_3 : decode cX4_levelOf 3 = .ok (.iconst 3, 1) := by decide +kernel
theorem dX4_levelOf_4 : decode cX4_levelOf 4 = .ok (.iand, 1) := by decide +kernel
theorem dX4_levelOf_5 : decode cX4_levelOf 5 = .ok (.ireturn, 1) := by decide +kernel
theorem dX4_amountOf_0 : decode cX4_amountOf 0 = .ok (.iload_n 0, 1) := by decide +kernel
theorem dX4_amountOf_1 : decode cX4_amountOf 1 = .ok (.bipush 31, 2) := by decide +kernel
theorem dX4_amountOf_3 : decode cX4_amountOf 3 = .ok (.iand, 1) := by decide +kernel
theorem dX4_amountOf_4 : decode cX4_amountOf 4 = .ok (.bipush 8, 2) := by decide +kernel
theorem dX4_amountOf_6 : decode cX4_amountOf 6 = .ok (.isub, 1) := by decide +kernel
theorem dX4_amountOf_7 : decode cX4_amountOf 7 = .ok (.ireturn, 1) := by decide +kernel
theorem dX4_shortEndOf_0 : decode cX4_shortEndOf 0 = .ok (.iload_n 0, 1) := by decide +kernel
theorem dX4_shortEndOf_1 : decode cX4_shortEndOf 1 = .ok (.invokestatic 15, 3) := by decide +kernel
theorem dX4_shortEndOf_4 : decode cX4_shortEndOf 4 = .ok (.iload_n 0, 1) := by decide +kernel
theorem dX4_shortEndOf_5 : decode cX4_shortEndOf 5 = .ok (.invokestatic 19, 3) := by decide +kernel
theorem dX4_shortEndOf_8 : decode cX4_shortEndOf 8 = .ok (.iadd, 1) := by decide +kernel
theorem dX4_shortEndOf_9 : decode cX4_shortEndOf 9 = .ok (.ireturn, 1) := by decide +kernel
theorem dX4_lookOf_0 : decode cX4_lookOf 0 = .ok (.iload_n 0, 1) := by decide +kernel
theorem dX4_lookOf_1 : decode cX4_lookOf 1 = .ok (.iconst (-1), 1) := by decide +kernel
theorem dX4_lookOf_2 : decode cX4_lookOf 2 = .ok (.if_icmp .ne 7, 3) := by decide +kernel
theorem dX4_lookOf_5 : decode cX4_lookOf 5 = .ok (.iconst (-1), 1) := by decide +kernel
theorem dX4_lookOf_6 : decode cX4_lookOf 6 = .ok (.goto 8, 3) := by decide +kernel
theorem dX4_lookOf_9 : decode cX4_lookOf 9 = .ok (.iload_n 0, 1) := by decide +kernel
theorem dX4_lookOf_10 : decode cX4_lookOf 10 = .ok (.sipush 8191, 3) := by decide +kernel
theorem dX4_lookOf_13 : decode cX4_lookOf 13 = .ok (.iand, 1) := by decide +kernel
theorem dX4_lookOf_14 : decode cX4_lookOf 14 = .ok (.ireturn, 1) := by decide +kernel
theorem dX4_movedTo_0 : decode cX4_movedTo 0 = .ok (.iload_n 0, 1) := by decide +kernel
theorem dX4_movedTo_1 : decode cX4_movedTo 1 = .ok (.invokestatic 22, 3) := by decide +kernel
theorem dX4_movedTo_4 : decode cX4_movedTo 4 = .ok (.iload_n 1, 1) := by decide +kernel
theorem dX4_movedTo_5 : decode cX4_movedTo 5 = .ok (.iload_n 0, 1) := by decide +kernel
theorem dX4_movedTo_6 : decode cX4_movedTo 6 = .ok (.invokestatic 19, 3) := by decide +kernel
theorem dX4_movedTo_9 : decode cX4_movedTo 9 = .ok (.iload_n 0, 1) := by decide +kernel
theorem dX4_movedTo_10 : decode cX4_movedTo 10 = .ok (.invokestatic 25, 3) := by decide +kernel
theorem dX4_movedTo_13 : decode cX4_movedTo 13 = .ok (.iload_n 0, 1) := by decide +kernel
theorem dX4_movedTo_14 : decode cX4_movedTo 14 = .ok (.invokestatic 28, 3) := by decide +kernel
theorem dX4_movedTo_17 : decode cX4_movedTo 17 = .ok (.iload_n 0, 1) := by decide +kernel
theorem dX4_movedTo_18 : decode cX4_movedTo 18 = .ok (.invokestatic 31, 3) := by decide +kernel
theorem dX4_movedTo_21 : decode cX4_movedTo 21 = .ok (.iload_n 0, 1) := by decide +kernel
theorem dX4_movedTo_22 : decode cX4_movedTo 22 = .ok (.invokestatic 34, 3) := by decide +kernel
theorem dX4_movedTo_25 : decode cX4_movedTo 25 = .ok (.invokestatic 11, 3) := by decide +kernel
theorem dX4_movedTo_28 : decode cX4_movedTo 28 = .ok (.ireturn, 1) := by decide +kernel
theorem dX4_turnedBack_0 : decode cX4_turnedBack 0 = .ok (.iload_n 0, 1) := by decide +kernel
theorem dX4_turnedBack_1 : decode cX4_turnedBack 1 = .ok (.invokestatic 22, 3) := by decide +kernel
theorem dX4_turnedBack_4 : decode cX4_turnedBack 4 = .ok (.iload_n 0, 1) := by decide +kernel
theorem dX4_turnedBack_5 : decode cX4_turnedBack 5 = .ok (.invokestatic 15, 3) := by decide +kernel
theorem dX4_turnedBack_8 : decode cX4_turnedBack 8 = .ok (.iload_n 0, 1) := by decide +kernel
theorem dX4_turnedBack_9 : decode cX4_turnedBack 9 = .ok (.invokestatic 19, 3) := by decide +kernel
theorem dX4_turnedBack_12 : decode cX4_turnedBack 12 = .ok (.iload_n 0, 1) := by decide +kernel
theorem dX4_turnedBack_13 : decode cX4_turnedBack 13 = .ok (.invokestatic 25, 3) := by decide +kernel
theorem dX4_turnedBack_16 : decode cX4_turnedBack 16 = .ok (.iload_n 0, 1) := by decide +kernel
theorem dX4_turnedBack_17 : decode cX4_turnedBack 17 = .ok (.invokestatic 28, 3) := by decide +kernel
theorem dX4_turnedBack_20 : decode cX4_turnedBack 20 = .ok (.iload_n 0, 1) := by decide +kernel
theorem dX4_turnedBack_21 : decode cX4_turnedBack 21 = .ok (.invokestatic 31, 3) := by decide +kernel
theorem dX4_turnedBack_24 : decode cX4_turnedBack 24 = .ok (.iload_n 0, 1) := by decide +kernel
theorem dX4_turnedBack_25 : decode cX4_turnedBack 25 = .ok (.invokestatic 34, 3) := by decide +kernel
theorem dX4_turnedBack_28 : decode cX4_turnedBack 28 = .ok (.ineg, 1) := by decide +kernel
theorem dX4_turnedBack_29 : decode cX4_turnedBack 29 = .ok (.invokestatic 11, 3) := by decide +kernel
theorem dX4_turnedBack_32 : decode cX4_turnedBack 32 = .ok (.ireturn, 1) := by decide +kernel
theorem dX4_mirrored_0 : decode cX4_mirrored 0 = .ok (.iload_n 0, 1) := by decide +kernel
theorem dX4_mirrored_1 : decode cX4_mirrored 1 = .ok (.iconst (-1), 1) := by decide +kernel
theorem dX4_mirrored_2 : decode cX4_mirrored 2 = .ok (.if_icmp .ne 5, 3) := by decide +kernel
theorem dX4_mirrored_5 : decode cX4_mirrored 5 = .ok (.iconst (-1), 1) := by decide +kernel
theorem dX4_mirrored_6 : decode cX4_mirrored 6 = .ok (.ireturn, 1) := by decide +kernel
theorem dX4_mirrored_7 : decode cX4_mirrored 7 = .ok (.iload_n 0, 1) := by decide +kernel
theorem dX4_mirrored_8 : decode cX4_mirrored 8 = .ok (.invokestatic 22, 3) := by decide +kernel
theorem dX4_mirrored_11 : decode cX4_mirrored 11 = .ok (.invokestatic 37, 3) := by decide +kernel
theorem dX4_mirrored_14 : decode cX4_mirrored 14 = .ok (.iload_n 0, 1) := by decide +kernel
theorem dX4_mirrored_15 : decode cX4_mirrored 15 = .ok (.invokestatic 15, 3) := by decide +kernel
theorem dX4_mirrored_18 : decode cX4_mirrored 18 = .ok (.iload_n 0, 1) := by decide +kernel
theorem dX4_mirrored_19 : decode cX4_mirrored 19 = .ok (.invokestatic 19, 3) := by decide +kernel
theorem dX4_mirrored_22 : decode cX4_mirrored 22 = .ok (.iload_n 0, 1) := by decide +kernel
theorem dX4_mirrored_23 : decode cX4_mirrored 23 = .ok (.invokestatic 25, 3) := by decide +kernel
theorem dX4_mirrored_26 : decode cX4_mirrored 26 = .ok (.iload_n 0, 1) := by decide +kernel
theorem dX4_mirrored_27 : decode cX4_mirrored 27 = .ok (.invokestatic 28, 3) := by decide +kernel
theorem dX4_mirrored_30 : decode cX4_mirrored 30 = .ok (.invokestatic 40, 3) := by decide +kernel
theorem dX4_mirrored_33 : decode cX4_mirrored 33 = .ok (.iload_n 0, 1) := by decide +kernel
theorem dX4_mirrored_34 : decode cX4_mirrored 34 = .ok (.invokestatic 31, 3) := by decide +kernel
theorem dX4_mirrored_37 : decode cX4_mirrored 37 = .ok (.iload_n 0, 1) := by decide +kernel
theorem dX4_mirrored_38 : decode cX4_mirrored 38 = .ok (.invokestatic 34, 3) := by decide +kernel
theorem dX4_mirrored_41 : decode cX4_mirrored 41 = .ok (.ineg, 1) := by decide +kernel
theorem dX4_mirrored_42 : decode cX4_mirrored 42 = .ok (.invokestatic 11, 3) := by decide +kernel
theorem dX4_mirrored_45 : decode cX4_mirrored 45 = .ok (.ireturn, 1) := by decide +kernel
theorem dX4_mirroredColumn_0 : decode cX4_mirroredColumn 0 = .ok (.iload_n 0, 1) := by decide +kernel
theorem dX4_mirroredColumn_1 : decode cX4_mirroredColumn 1 = .ok (.bipush 6, 2) := by decide +kernel
theorem dX4_mirroredColumn_3 : decode cX4_mirroredColumn 3 = .ok (.if_icmp .ne 6, 3) := by decide +kernel
theorem dX4_mirroredColumn_6 : decode cX4_mirroredColumn 6 = .ok (.bipush 6, 2) := by decide +kernel
theorem dX4_mirroredColumn_8 : decode cX4_mirroredColumn 8 = .ok (.ireturn, 1) := by decide +kernel
theorem dX4_mirroredColumn_9 : decode cX4_mirroredColumn 9 = .ok (.iload_n 0, 1) := by decide +kernel
theorem dX4_mirroredColumn_10 : decode cX4_mirroredColumn 10 = .ok (.iconst 2, 1) := by decide +kernel
theorem dX4_mirroredColumn_11 : decode cX4_mirroredColumn 11 = .ok (.irem, 1) := by decide +kernel
theorem dX4_mirroredColumn_12 : decode cX4_mirroredColumn 12 = .ok (.ifCond .ne 9, 3) := by decide +kernel
theorem dX4_mirroredColumn_15 : decode cX4_mirroredColumn 15 = .ok (.iload_n 0, 1) := by decide +kernel
theorem dX4_mirroredColumn_16 : decode cX4_mirroredColumn 16 = .ok (.iconst 1, 1) := by decide +kernel
theorem dX4_mirroredColumn_17 : decode cX4_mirroredColumn 17 = .ok (.iadd, 1) := by decide +kernel
theorem dX4_mirroredColumn_18 : decode cX4_mirroredColumn 18 = .ok (.goto 6, 3) := by decide +kernel
theorem dX4_mirroredColumn_21 : decode cX4_mirroredColumn 21 = .ok (.iload_n 0, 1) := by decide +kernel
theorem dX4_mirroredColumn_22 : decode cX4_mirroredColumn 22 = .ok (.iconst 1, 1) := by decide +kernel
theorem dX4_mirroredColumn_23 : decode cX4_mirroredColumn 23 = .ok (.isub, 1) := by decide +kernel
theorem dX4_mirroredColumn_24 : decode cX4_mirroredColumn 24 = .ok (.ireturn, 1) := by decide +kernel
theorem dX4_mirroredDirection_0 : decode cX4_mirroredDirection 0 = .ok (.iload_n 0, 1) := by decide +kernel
theorem dX4_mirroredDirection_1 : decode cX4_mirroredDirection 1 = .ok (.iconst 2, 1) := by decide +kernel
theorem dX4_mirroredDirection_2 : decode cX4_mirroredDirection 2 = .ok (.if_icmp .ge 7, 3) := by decide +kernel
theorem dX4_mirroredDirection_5 : decode cX4_mirroredDirection 5 = .ok (.iload_n 0, 1) := by decide +kernel
theorem dX4_mirroredDirection_6 : decode cX4_mirroredDirection 6 = .ok (.goto 7, 3) := by decide +kernel
theorem dX4_mirroredDirection_9 : decode cX4_mirroredDirection 9 = .ok (.bipush 10, 2) := by decide +kernel
theorem dX4_mirroredDirection_11 : decode cX4_mirroredDirection 11 = .ok (.iload_n 0, 1) := by decide +kernel
theorem dX4_mirroredDirection_12 : decode cX4_mirroredDirection 12 = .ok (.isub, 1) := by decide +kernel
theorem dX4_mirroredDirection_13 : decode cX4_mirroredDirection 13 = .ok (.ireturn, 1) := by decide +kernel
theorem dX5_init_0 : decode cX5_init 0 = .ok (.aload_n 0, 1) := by decide +kernel
theorem dX5_init_1 : decode cX5_init 1 = .ok (.invokespecial 3, 3) := by decide +kernel
theorem dX5_init_4 : decode cX5_init 4 = .ok (.aload_n 0, 1) := by decide +kernel
theorem dX5_init_5 : decode cX5_init 5 = .ok (.bipush 49, 2) := by decide +kernel
theorem dX5_init_7 : decode cX5_init 7 = .ok (.newarray .int, 2) := by decide +kernel
theorem dX5_init_9 : decode cX5_init 9 = .ok (.putfield 9, 3) := by decide +kernel
theorem dX5_init_12 : decode cX5_init 12 = .ok (.aload_n 0, 1) := by decide +kernel
theorem dX5_init_13 : decode cX5_init 13 = .ok (.bipush 49, 2) := by decide +kernel
theorem dX5_init_15 : decode cX5_init 15 = .ok (.newarray .int, 2) := by decide +kernel
theorem dX5_init_17 : decode cX5_init 17 = .ok (.putfield 15, 3) := by decide +kernel
theorem dX5_init_20 : decode cX5_init 20 = .ok (.aload_n 0, 1) := by decide +kernel
theorem dX5_init_21 : decode cX5_init 21 = .ok (.bipush 49, 2) := by decide +kernel
theorem dX5_init_23 : decode cX5_init 23 = .ok (.newarray .int, 2) := by decide +kernel
theorem dX5_init_25 : decode cX5_init 25 = .ok (.putfield 18, 3) := by decide +kernel
theorem dX5_init_28 : decode cX5_init 28 = .ok (.aload_n 0, 1) := by decide +kernel
theorem dX5_init_29 : decode cX5_init 29 = .ok (.bipush 49, 2) := by decide +kernel
theorem dX5_init_31 : decode cX5_init 31 = .ok (.newarray .int, 2) := by decide +kernel
theorem dX5_init_33 : decode cX5_init 33 = .ok (.putfield 21, 3) := by decide +kernel
theorem dX5_init_36 : decode cX5_init 36 = .ok (.aload_n 0, 1) := by decide +kernel
theorem dX5_init_37 : decode cX5_init 37 = .ok (.bipush 49, 2) := by decide +kernel
theorem dX5_init_39 : decode cX5_init 39 = .ok (.newarray .int, 2) := by decide +kernel
theorem dX5_init_41 : decode cX5_init 41 = .ok (.putfield 24, 3) := by decide +kernel
theorem dX5_init_44 : decode cX5_init 44 = .ok (.aload_n 0, 1) := by decide +kernel
theorem dX5_init_45 : decode cX5_init 45 = .ok (.bipush 49, 2) := by decide +kernel
theorem dX5_init_47 : decode cX5_init 47 = .ok (.newarray .int, 2) := by decide +kernel
theorem dX5_init_49 : decode cX5_init 49 = .ok (.putfield 27, 3) := by decide +kernel
theorem dX5_init_52 : decode cX5_init 52 = .ok (.return_, 1) := by decide +kernel
theorem dX5_follow_0 : decode cX5_follow 0 = .ok (.aload_n 0, 1) := by decide +kernel
theorem dX5_follow_1 : decode cX5_follow 1 = .ok (.getfield 21, 3) := by decide +kernel
theorem dX5_follow_4 : decode cX5_follow 4 = .ok (.iconst 0, 1) := by decide +kernel
theorem dX5_follow_5 : decode cX5_follow 5 = .ok (.invokestatic 30, 3) := by decide +kernel
theorem dX5_follow_8 : decode cX5_follow 8 = .ok (.aload_n 0, 1) := by decide +kernel
theorem dX5_follow_9 : decode cX5_follow 9 = .ok (.getfield 24, 3) := by decide +kernel
theorem dX5_follow_12 : decode cX5_follow 12 = .ok (.iconst (-1), 1) := by decide +kernel
theorem dX5_follow_13 : decode cX5_follow 13 = .ok (.invokestatic 30, 3) := by decide +kernel
theorem dX5_follow_16 : decode cX5_follow 16 = .ok (.aload_n 0, 1) := by decide +kernel
theorem dX5_follow_17 : decode cX5_follow 17 = .ok (.getfield 27, 3) := by decide +kernel
theorem dX5_follow_20 : decode cX5_follow 20 = .ok (.iconst (-1), 1) := by decide +kernel
theorem dX5_follow_21 : decode cX5_follow 21 = .ok (.invokestatic 30, 3) := by decide +kernel
theorem dX5_follow_24 : decode cX5_follow 24 = .ok (.iconst 0, 1) := by decide +kernel
theorem dX5_follow_25 : decode cX5_follow 25 = .ok (.istore_n 2, 1) := by decide +kernel
theorem dX5_follow_26 : decode cX5_follow 26 = .ok (.iload_n 2, 1) := by decide +kernel
theorem dX5_follow_27 : decode cX5_follow 27 = .ok (.aload_n 1, 1) := by decide +kernel
theorem dX5_follow_28 : decode cX5_follow 28 = .ok (.getfield 36, 3) := by decide +kernel
theorem dX5_follow_31 : decode cX5_follow 31 = .ok (.if_icmp .ge 18, 3) := by decide +kernel
theorem dX5_follow_34 : decode cX5_follow 34 = .ok (.aload_n 0, 1) := by decide +kernel
theorem dX5_follow_35 : decode cX5_follow 35 = .ok (.aload_n 1, 1) := by decide +kernel
theorem dX5_follow_36 : decode cX5_follow 36 = .ok (.iload_n 2, 1) := by decide +kernel
theorem dX5_follow_37 : decode cX5_follow 37 = .ok (.invokevirtual 42, 3) := by decide +kernel
theorem dX5_follow_40 : decode cX5_follow 40 = .ok (.invokevirtual 46, 3) := by decide +kernel
theorem dX5_follow_43 : decode cX5_follow 43 = .ok (.iinc 2 1, 3) := by decide +kernel
theorem dX5_follow_46 : decode cX5_follow 46 = .ok (.goto (-20), 3) := by decide +kernel
theorem dX5_follow_49 : decode cX5_follow 49 = .ok (.iconst 1, 1) := by decide +kernel
theorem dX5_follow_50 : decode cX5_follow 50 = .ok (.istore_n 2, 1) := by decide +kernel
theorem dX5_follow_51 : decode cX5_follow 51 = .ok (.iload_n 2, 1) := by decide +kernel
theorem dX5_follow_52 : decode cX5_follow 52 = .ok (.aload_n 1, 1) := by decide +kernel
theorem dX5_follow_53 : decode cX5_follow 53 = .ok (.getfield 50, 3) := by decide +kernel
theorem dX5_follow_56 : decode cX5_follow 56 = .ok (.if_icmp .gt 97, 3) := by decide +kernel
theorem dX5_follow_59 : decode cX5_follow 59 = .ok (.aload_n 0, 1) := by decide +kernel
theorem dX5_follow_60 : decode cX5_follow 60 = .ok (.getfield 18, 3) := by decide +kernel
theorem dX5_follow_63 : decode cX5_follow 63 = .ok (.iload_n 2, 1) := by decide +kernel
theorem dX5_follow_64 : decode cX5_follow 64 = .ok (.aload_n 0, 1) := by decide +kernel
theorem dX5_follow_65 : decode cX5_follow 65 = .ok (.getfield 18, 3) := by decide +kernel
theorem dX5_follow_68 : decode cX5_follow 68 = .ok (.iload_n 2, 1) := by decide +kernel
theorem dX5_follow_69 : decode cX5_follow 69 = .ok (.iconst 1, 1) := by decide +kernel
theorem dX5_follow_70 : decode cX5_follow 70 = .ok (.isub, 1) := by decide +kernel
theorem dX5_follow_71 : decode cX5_follow 71 = .ok (.iaload, 1) := by decide +kernel
theorem dX5_follow_72 : decode cX5_follow 72 = .ok (.aload_n 0, 1) := by decide +kernel
theorem dX5_follow_73 : decode cX5_follow 73 = .ok (.getfield 21, 3) := by decide +kernel
theorem dX5_follow_76 : decode cX5_follow 76 = .ok (.iload_n 2, 1) := by decide +kernel
theorem dX5_follow_77 : decode cX5_follow 77 = .ok (.iaload, 1) := by decide +kernel
theorem dX5_follow_78 : decode cX5_follow 78 = .ok (.iadd, 1) := by decide +kernel
theorem dX5_follow_79 : decode cX5_follow 79 = .ok (.bipush 8, 2) := by decide +kernel
theorem dX5_follow_81 : decode cX5_follow 81 = .ok (.invokestatic 53, 3) := by decide +kernel
theorem dX5_follow_84 : decode cX5_follow 84 = .ok (.iastore, 1) := by decide +kernel
theorem dX5_follow_85 : decode cX5_follow 85 = .ok (.aload_n 0, 1) := by decide +kernel
theorem dX5_follow_86 : decode cX5_follow 86 = .ok (.getfield 9, 3) := by decide +kernel
theorem dX5_follow_89 : decode cX5_follow 89 = .ok (.iload_n 2, 1) := by decide +kernel
theorem dX5_follow_90 : decode cX5_follow 90 = .ok (.aload_n 0, 1) := by decide +kernel
theorem dX5_follow_91 : decode cX5_follow 91 = .ok (.getfield 9, 3) := by decide +kernel
theorem dX5_follow_94 : decode cX5_follow 94 = .ok (.iload_n 2, 1) := by decide +kernel
theorem dX5_follow_95 : decode cX5_follow 95 = .ok (.iconst 1, 1) := by decide +kernel
theorem dX5_follow_96 : decode cX5_follow 96 = .ok (.isub, 1) := by decide +kernel
theorem dX5_follow_97 : decode cX5_follow 97 = .ok (.iaload, 1) := by decide +kernel
theorem dX5_follow_98 : decode cX5_follow 98 = .ok (.iastore, 1) := by decide +kernel
theorem dX5_follow_99 : decode cX5_follow 99 = .ok (.aload_n 0, 1) := by decide +kernel
theorem dX5_follow_100 : decode cX5_follow 100 = .ok (.getfield 15, 3) := by decide +kernel
theorem dX5_follow_103 : decode cX5_follow 103 = .ok (.iload_n 2, 1) := by decide +kernel
theorem dX5_follow_104 : decode cX5_follow 104 = .ok (.aload_n 0, 1) := by decide +kernel
theorem dX5_follow_105 : decode cX5_follow 105 = .ok (.getfield 15, 3) := by decide +kernel
theorem dX5_follow_108 : decode cX5_follow 108 = .ok (.iload_n 2, 1) := by decide +kernel
theorem dX5_follow_109 : decode cX5_follow 109 = .ok (.iconst 1, 1) := by decide +kernel
theorem dX5_follow_110 : decode cX5_follow 110 = .ok (.isub, 1) := by decide +kernel
theorem dX5_follow_111 : decode cX5_follow 111 = .ok (.iaload, 1) := by decide +kernel
theorem dX5_follow_112 : decode cX5_follow 112 = .ok (.iastore, 1) := by decide +kernel
theorem dX5_follow_113 : decode cX5_follow 113 = .ok (.aload_n 0, 1) := by decide +kernel
theorem dX5_follow_114 : decode cX5_follow 114 = .ok (.iload_n 2, 1) := by decide +kernel
theorem dX5_follow_115 : decode cX5_follow 115 = .ok (.aload_n 0, 1) := by decide +kernel
theorem dX5_follow_116 : decode cX5_follow 116 = .ok (.getfield 24, 3) := by decide +kernel
theorem dX5_follow_119 : decode cX5_follow 119 = .ok (.iload_n 2, 1) := by decide +kernel
theorem dX5_follow_120 : decode cX5_follow 120 = .ok (.iaload, 1) := by decide +kernel
theorem dX5_follow_121 : decode cX5_follow 121 = .ok (.aload_n 0, 1) := by decide +kernel
theorem dX5_follow_122 : decode cX5_follow 122 = .ok (.getfield 27, 3) := by decide +kernel
theorem dX5_follow_125 : decode cX5_follow 125 = .ok (.iload_n 2, 1) := by decide +kernel
theorem dX5_follow_126 : decode cX5_follow 126 = .ok (.iaload, 1) := by decide +kernel
theorem dX5_follow_127 : decode cX5_follow 127 = .ok (.invokevirtual 59, 3) := by decide +kernel
theorem dX5_follow_130 : decode cX5_follow 130 = .ok (.aload_n 0, 1) := by decide +kernel
theorem dX5_follow_131 : decode cX5_follow 131 = .ok (.iload_n 2, 1) := by decide +kernel
theorem dX5_follow_132 : decode cX5_follow 132 = .ok (.aload_n 0, 1) := by decide +kernel
theorem dX5_follow_133 : decode cX5_follow 133 = .ok (.getfield 27, 3) := by decide +kernel
theorem dX5_follow_136 : decode cX5_follow 136 = .ok (.iload_n 2, 1) := by decide +kernel
theorem dX5_follow_137 : decode cX5_follow 137 = .ok (.iaload, 1) := by decide +kernel
theorem dX5_follow_138 : decode cX5_follow 138 = .ok (.aload_n 0, 1) := by decide +kernel
theorem dX5_follow_139 : decode cX5_follow 139 = .ok (.getfield 24, 3) := by decide +kernel
theorem dX5_follow_142 : decode cX5_follow 142 = .ok (.iload_n 2, 1) := by decide +kernel
theorem dX5_follow_143 : decode cX5_follow 143 = .ok (.iaload, 1) := by decide +kernel
theorem dX5_follow_144 : decode cX5_follow 144 = .ok (.invokevirtual 59, 3) := by decide +kernel
theorem dX5_follow_147 : decode cX5_follow 147 = .ok (.iinc 2 1, 3) := by decide +kernel
theorem dX5_follow_150 : decode cX5_follow 150 = .ok (.goto (-99), 3) := by decide +kernel
theorem dX5_follow_153 : decode cX5_follow 153 = .ok (.return_, 1) := by decide +kernel
theorem dX5_noteEnd_0 : decode cX5_noteEnd 0 = .ok (.iload_n 1, 1) := by decide +kernel
theorem dX5_noteEnd_1 : decode cX5_noteEnd 1 = .ok (.invokestatic 63, 3) := by decide +kernel
theorem dX5_noteEnd_4 : decode cX5_noteEnd 4 = .ok (.istore_n 2, 1) := by decide +kernel
theorem dX5_noteEnd_5 : decode cX5_noteEnd 5 = .ok (.iload_n 2, 1) := by decide +kernel
theorem dX5_noteEnd_6 : decode cX5_noteEnd 6 = .ok (.aload_n 0, 1) := by decide +kernel
theorem dX5_noteEnd_7 : decode cX5_noteEnd 7 = .ok (.getfield 21, 3) := by decide +kernel
theorem dX5_noteEnd_10 : decode cX5_noteEnd 10 = .ok (.arraylength, 1) := by decide +kernel
theorem dX5_noteEnd_11 : decode cX5_noteEnd 11 = .ok (.if_icmp .lt 4, 3) := by decide +kernel
theorem dX5_noteEnd_14 : decode cX5_noteEnd 14 = .ok (.return_, 1) := by decide +kernel
theorem dX5_noteEnd_15 : decode cX5_noteEnd 15 = .ok (.iload_n 1, 1) := by decide +kernel
theorem dX5_noteEnd_16 : decode cX5_noteEnd 16 = .ok (.invokestatic 68, 3) := by decide +kernel
theorem dX5_noteEnd_19 : decode cX5_noteEnd 19 = .ok (.iconst 2, 1) := by decide +kernel
theorem dX5_noteEnd_20 : decode cX5_noteEnd 20 = .ok (.if_icmp .ne 16, 3) := by decide +kernel
theorem dX5_noteEnd_23 : decode cX5_noteEnd 23 = .ok (.aload_n 0, 1) := by decide +kernel
theorem dX5_noteEnd_24 : decode cX5_noteEnd 24 = .ok (.getfield 21, 3) := by decide +kernel
theorem dX5_noteEnd_27 : decode cX5_noteEnd 27 = .ok (.iload_n 2, 1) := by decide +kernel
theorem dX5_noteEnd_28 : decode cX5_noteEnd 28 = .ok (.iload_n 1, 1) := by decide +kernel
theorem dX5_noteEnd_29 : decode cX5_noteEnd 29 = .ok (.invokestatic 71, 3) := by decide +kernel
theorem dX5_noteEnd_32 : decode cX5_noteEnd 32 = .ok (.iastore, 1) := by decide +kernel
theorem dX5_noteEnd_33 : decode cX5_noteEnd 33 = .ok (.goto 16, 3) := by decide +kernel
theorem dX5_noteEnd_36 : decode cX5_noteEnd 36 = .ok (.iload_n 1, 1) := by decide +kernel
theorem dX5_noteEnd_37 : decode cX5_noteEnd 37 = .ok (.invokestatic 68, 3) := by decide +kernel
theorem dX5_noteEnd_40 : decode cX5_noteEnd 40 = .ok (.ifCond .ne 9, 3) := by decide +kernel
theorem dX5_noteEnd_43 : decode cX5_noteEnd 43 = .ok (.aload_n 0, 1) := by decide +kernel
theorem dX5_noteEnd_44 : decode cX5_noteEnd 44 = .ok (.iload_n 1, 1) := by decide +kernel
theorem dX5_noteEnd_45 : decode cX5_noteEnd 45 = .ok (.iload_n 2, 1) := by decide +kernel
theorem dX5_noteEnd_46 : decode cX5_noteEnd 46 = .ok (.invokevirtual 74, 3) := by decide +kernel
theorem dX5_noteEnd_49 : decode cX5_noteEnd 49 = .ok (.return_, 1) := by decide +kernel
theorem dX5_noteStep_0 : decode cX5_noteStep 0 = .ok (.iload_n 1, 1) := by decide +kernel
theorem dX5_noteStep_1 : decode cX5_noteStep 1 = .ok (.invokestatic 78, 3) := by decide +kernel
theorem dX5_noteStep_4 : decode cX5_noteStep 4 = .ok (.ifCond .ne 13, 3) := by decide +kernel
theorem dX5_noteStep_7 : decode cX5_noteStep 7 = .ok (.aload_n 0, 1) := by decide +kernel
theorem dX5_noteStep_8 : decode cX5_noteStep 8 = .ok (.getfield 24, 3) := by decide +kernel
theorem dX5_noteStep_11 : decode cX5_noteStep 11 = .ok (.iload_n 2, 1) := by decide +kernel
theorem dX5_noteStep_12 : decode cX5_noteStep 12 = .ok (.iload_n 1, 1) := by decide +kernel
theorem dX5_noteStep_13 : decode cX5_noteStep 13 = .ok (.iastore, 1) := by decide +kernel
theorem dX5_noteStep_14 : decode cX5_noteStep 14 = .ok (.goto 18, 3) := by decide +kernel
theorem dX5_noteStep_17 : decode cX5_noteStep 17 = .ok (.iload_n 1, 1) := by decide +kernel
theorem dX5_noteStep_18 : decode cX5_noteStep 18 = .ok (.invokestatic 78, 3) := by decide +kernel
theorem dX5_noteStep_21 : decode cX5_noteStep 21 = .ok (.iconst 1, 1) := by decide +kernel
theorem dX5_noteStep_22 : decode cX5_noteStep 22 = .ok (.if_icmp .ne 10, 3) := by decide +kernel
theorem dX5_noteStep_25 : decode cX5_noteStep 25 = .ok (.aload_n 0, 1) := by decide +kernel
theorem dX5_noteStep_26 : decode cX5_noteStep 26 = .ok (.getfield 27, 3) := by decide +kernel
theorem dX5_noteStep_29 : decode cX5_noteStep 29 = .ok (.iload_n 2, 1) := by decide +kernel
theorem dX5_noteStep_30 : decode cX5_noteStep 30 = .ok (.iload_n 1, 1) := by decide +kernel
theorem dX5_noteStep_31 : decode cX5_noteStep 31 = .ok (.iastore, 1) := by decide +kernel
theorem dX5_noteStep_32 : decode cX5_noteStep 32 = .ok (.return_, 1) := by decide +kernel
theorem dX5_step_0 : decode cX5_step 0 = .ok (.iload_n 2, 1) := by decide +kernel
theorem dX5_step_1 : decode cX5_step 1 = .ok (.iconst (-1), 1) := by decide +kernel
theorem dX5_step_2 : decode cX5_step 2 = .ok (.if_icmp .eq 10, 3) := by decide +kernel
theorem dX5_step_5 : decode cX5_step 5 = .ok (.iload_n 2, 1) := by decide +kernel
theorem dX5_step_6 : decode cX5_step 6 = .ok (.invokestatic 81, 3) := by decide +kernel
theorem dX5_step_9 : decode cX5_step 9 = .ok (.ifCond .ne 4, 3) := by decide +kernel
theorem dX5_step_12 : decode cX5_step 12 = .ok (.return_, 1) := by decide +kernel
theorem dX5_step_13 : decode cX5_step 13 = .ok (.iload_n 3, 1) := by decide +kernel
theorem dX5_step_14 : decode cX5_step 14 = .ok (.iconst (-1), 1) := by decide +kernel
theorem dX5_step_15 : decode cX5_step 15 = .ok (.if_icmp .ne 7, 3) := by decide +kernel
theorem dX5_step_18 : decode cX5_step 18 = .ok (.iconst 2, 1) := by decide +kernel
theorem dX5_step_19 : decode cX5_step 19 = .ok (.goto 4, 3) := by decide +kernel
theorem dX5_step_22 : decode cX5_step 22 = .ok (.iconst 1, 1) := by decide +kernel
theorem dX5_step_23 : decode cX5_step 23 = .ok (.istore 4, 2) := by decide +kernel
theorem dX5_step_25 : decode cX5_step 25 = .ok (.aload_n 0, 1) := by decide +kernel
theorem dX5_step_26 : decode cX5_step 26 = .ok (.getfield 18, 3) := by decide +kernel
theorem dX5_step_29 : decode cX5_step 29 = .ok (.iload_n 2, 1) := by decide +kernel
theorem dX5_step_30 : decode cX5_step 30 = .ok (.invokestatic 84, 3) := by decide +kernel
theorem dX5_step_33 : decode cX5_step 33 = .ok (.iaload, 1) := by decide +kernel
theorem dX5_step_34 : decode cX5_step 34 = .ok (.iload_n 2, 1) := by decide +kernel
theorem dX5_step_35 : decode cX5_step 35 = .ok (.invokestatic 81, 3) := by decide +kernel
theorem dX5_step_38 : decode cX5_step 38 = .ok (.iadd, 1) := by decide +kernel
theorem dX5_step_39 : decode cX5_step 39 = .ok (.iconst 1, 1) := by decide +kernel
theorem dX5_step_40 : decode cX5_step 40 = .ok (.isub, 1) := by decide +kernel
theorem dX5_step_41 : decode cX5_step 41 = .ok (.bipush 8, 2) := by decide +kernel
theorem dX5_step_43 : decode cX5_step 43 = .ok (.invokestatic 53, 3) := by decide +kernel
theorem dX5_step_46 : decode cX5_step 46 = .ok (.istore 5, 2) := by decide +kernel
theorem dX5_step_48 : decode cX5_step 48 = .ok (.aload_n 0, 1) := by decide +kernel
theorem dX5_step_49 : decode cX5_step 49 = .ok (.getfield 9, 3) := by decide +kernel
theorem dX5_step_52 : decode cX5_step 52 = .ok (.iload_n 1, 1) := by decide +kernel
theorem dX5_step_53 : decode cX5_step 53 = .ok (.dup2, 1) := by decide +kernel
theorem dX5_step_54 : decode cX5_step 54 = .ok (.iaload, 1) := by decide +kernel
theorem dX5_step_55 : decode cX5_step 55 = .ok (.iload 4, 2) := by decide +kernel
theorem dX5_step_57 : decode cX5_step 57 = .ok (.getstatic 87, 3) := by decide +kernel
theorem dX5_step_60 : decode cX5_step 60 = .ok (.iload 5, 2) := by decide +kernel
theorem dX5_step_62 : decode cX5_step 62 = .ok (.iaload, 1) := by decide +kernel
theorem dX5_step_63 : decode cX5_step 63 = .ok (.imul, 1) := by decide +kernel
theorem dX5_step_64 : decode cX5_step 64 = .ok (.iadd, 1) := by decide +kernel
theorem dX5_step_65 : decode cX5_step 65 = .ok (.iastore, 1) := by decide +kernel
theorem dX5_step_66 : decode cX5_step 66 = .ok (.aload_n 0, 1) := by decide +kernel
theorem dX5_step_67 : decode cX5_step 67 = .ok (.getfield 15, 3) := by decide +kernel
theorem dX5_step_70 : decode cX5_step 70 = .ok (.iload_n 1, 1) := by decide +kernel
theorem dX5_step_71 : decode cX5_step 71 = .ok (.dup2, 1) := by decide +kernel
theorem dX5_step_72 : decode cX5_step 72 = .ok (.iaload, 1) := by decide +kernel
theorem dX5_step_73 : decode cX5_step 73 = .ok (.iload 4, 2) := by decide +kernel
theorem dX5_step_75 : decode cX5_step 75 = .ok (.getstatic 90, 3) := by decide +kernel
theorem dX5_step_78 : decode cX5_step 78 = .ok (.iload 5, 2) := by decide +kernel
theorem dX5_step_80 : decode cX5_step 80 = .ok (.iaload, 1) := by decide +kernel
theorem dX5_step_81 : decode cX5_step 81 = .ok (.imul, 1) := by decide +kernel
theorem dX5_step_82 : decode cX5_step 82 = .ok (.iadd, 1) := by decide +kernel
theorem dX5_step_83 : decode cX5_step 83 = .ok (.iastore, 1) := by decide +kernel
theorem dX5_step_84 : decode cX5_step 84 = .ok (.return_, 1) := by decide +kernel
theorem dX5_distanceAt_0 : decode cX5_distanceAt 0 = .ok (.aload_n 0, 1) := by decide +kernel
theorem dX5_distanceAt_1 : decode cX5_distanceAt 1 = .ok (.getfield 9, 3) := by decide +kernel
theorem dX5_distanceAt_4 : decode cX5_distanceAt 4 = .ok (.iload_n 1, 1) := by decide +kernel
theorem dX5_distanceAt_5 : decode cX5_distanceAt 5 = .ok (.iaload, 1) := by decide +kernel
theorem dX5_distanceAt_6 : decode cX5_distanceAt 6 = .ok (.invokestatic 93, 3) := by decide +kernel
theorem dX5_distanceAt_9 : decode cX5_distanceAt 9 = .ok (.aload_n 0, 1) := by decide +kernel
theorem dX5_distanceAt_10 : decode cX5_distanceAt 10 = .ok (.getfield 15, 3) := by decide +kernel
theorem dX5_distanceAt_13 : decode cX5_distanceAt 13 = .ok (.iload_n 1, 1) := by decide +kernel
theorem dX5_distanceAt_14 : decode cX5_distanceAt 14 = .ok (.iaload, 1) := by decide +kernel
theorem dX5_distanceAt_15 : decode cX5_distanceAt 15 = .ok (.invokestatic 93, 3) := by decide +kernel
theorem dX5_distanceAt_18 : decode cX5_distanceAt 18 = .ok (.invokestatic 96, 3) := by decide +kernel
theorem dX5_distanceAt_21 : decode cX5_distanceAt 21 = .ok (.ireturn, 1) := by decide +kernel
theorem dX6_init_0 : decode cX6_init 0 = .ok (.aload_n 0, 1) := by decide +kernel
theorem dX6_init_1 : decode cX6_init 1 = .ok (.invokespecial 3, 3) := by decide +kernel
theorem dX6_init_4 : decode cX6_init 4 = .ok (.aload_n 0, 1) := by decide +kernel
theorem dX6_init_5 : decode cX6_init 5 = .ok (.iconst 0, 1) := by decide +kernel
theorem dX6_init_6 : decode cX6_init 6 = .ok (.putfield 9, 3) := by decide +kernel
theorem dX6_init_9 : decode cX6_init 9 = .ok (.aload_n 0, 1) := by decide +kernel
theorem dX6_init_10 : decode cX6_init 10 = .ok (.iconst 0, 1) := by decide +kernel
theorem dX6_init_11 : decode cX6_init 11 = .ok (.putfield 15, 3) := by decide +kernel
theorem dX6_init_14 : decode cX6_init 14 = .ok (.aload_n 0, 1) := by decide +kernel
theorem dX6_init_15 : decode cX6_init 15 = .ok (.bipush 48, 2) := by decide +kernel
theorem dX6_init_17 : decode cX6_init 17 = .ok (.newarray .int, 2) := by decide +kernel
theorem dX6_init_19 : decode cX6_init 19 = .ok (.putfield 18, 3) := by decide +kernel
theorem dX6_init_22 : decode cX6_init 22 = .ok (.aload_n 0, 1) := by decide +kernel
theorem dX6_init_23 : decode cX6_init 23 = .ok (.bipush 48, 2) := by decide +kernel
theorem dX6_init_25 : decode cX6_init 25 = .ok (.newarray .int, 2) := by decide +kernel
theorem dX6_init_27 : decode cX6_init 27 = .ok (.putfield 22, 3) := by decide +kernel
theorem dX6_init_30 : decode cX6_init 30 = .ok (.aload_n 0, 1) := by decide +kernel
theorem dX6_init_31 : decode cX6_init 31 = .ok (.bipush 48, 2) := by decide +kernel
theorem dX6_init_33 : decode cX6_init 33 = .ok (.newarray .int, 2) := by decide +kernel
theorem dX6_init_35 : decode cX6_init 35 = .ok (.putfield 25, 3) := by decide +kernel
theorem dX6_init_38 : decode cX6_init 38 = .ok (.aload_n 0, 1) := by decide +kernel
theorem dX6_init_39 : decode cX6_init 39 = .ok (.bipush 48, 2) := by decide +kernel
theorem dX6_init_41 : decode cX6_init 41 = .ok (.newarray .int, 2) := by decide +kernel
theorem dX6_init_43 : decode cX6_init 43 = .ok (.putfield 28, 3) := by decide +kernel
theorem dX6_init_46 : decode cX6_init 46 = .ok (.aload_n 0, 1) := by decide +kernel
theorem dX6_init_47 : decode cX6_init 47 = .ok (.bipush 48, 2) := by decide +kernel
theorem dX6_init_49 : decode cX6_init 49 = .ok (.newarray .int, 2) := by decide +kernel
theorem dX6_init_51 : decode cX6_init 51 = .ok (.putfield 31, 3) := by decide +kernel
theorem dX6_init_54 : decode cX6_init 54 = .ok (.return_, 1) := by decide +kernel
theorem dX6_weigh_0 : decode cX6_weigh 0 = .ok (.aload_n 0, 1) := by decide +kernel
theorem dX6_weigh_1 : decode cX6_weigh 1 = .ok (.aload_n 1, 1) := by decide +kernel
theorem dX6_weigh_2 : decode cX6_weigh 2 = .ok (.getfield 34, 3) := by decide +kernel
theorem dX6_weigh_5 : decode cX6_weigh 5 = .ok (.putfield 9, 3) := by decide +kernel
theorem dX6_weigh_8 : decode cX6_weigh 8 = .ok (.aload_n 0, 1) := by decide +kernel
theorem dX6_weigh_9 : decode cX6_weigh 9 = .ok (.aload_n 1, 1) := by decide +kernel
theorem dX6_weigh_10 : decode cX6_weigh 10 = .ok (.getfield 37, 3) := by decide +kernel
theorem dX6_weigh_13 : decode cX6_weigh 13 = .ok (.putfield 15, 3) := by decide +kernel
theorem dX6_weigh_16 : decode cX6_weigh 16 = .ok (.aload_n 0, 1) := by decide +kernel
theorem dX6_weigh_17 : decode cX6_weigh 17 = .ok (.getfield 25, 3) := by decide +kernel
theorem dX6_weigh_20 : decode cX6_weigh 20 = .ok (.iconst 0, 1) := by decide +kernel
theorem dX6_weigh_21 : decode cX6_weigh 21 = .ok (.invokestatic 38, 3) := by decide +kernel
theorem dX6_weigh_24 : decode cX6_weigh 24 = .ok (.aload_n 0, 1) := by decide +kernel
theorem dX6_weigh_25 : decode cX6_weigh 25 = .ok (.getfield 28, 3) := by decide +kernel
theorem dX6_weigh_28 : decode cX6_weigh 28 = .ok (.iconst 0, 1) := by decide +kernel
theorem dX6_weigh_29 : decode cX6_weigh 29 = .ok (.invokestatic 38, 3) := by decide +kernel
theorem dX6_weigh_32 : decode cX6_weigh 32 = .ok (.aload_n 0, 1) := by decide +kernel
theorem dX6_weigh_33 : decode cX6_weigh 33 = .ok (.aload_n 1, 1) := by decide +kernel
theorem dX6_weigh_34 : decode cX6_weigh 34 = .ok (.iconst 0, 1) := by decide +kernel
theorem dX6_weigh_35 : decode cX6_weigh 35 = .ok (.invokevirtual 44, 3) := by decide +kernel
theorem dX6_weigh_38 : decode cX6_weigh 38 = .ok (.aload_n 0, 1) := by decide +kernel
theorem dX6_weigh_39 : decode cX6_weigh 39 = .ok (.aload_n 1, 1) := by decide +kernel
theorem dX6_weigh_40 : decode cX6_weigh 40 = .ok (.iconst 1, 1) := by decide +kernel
theorem dX6_weigh_41 : decode cX6_weigh 41 = .ok (.invokevirtual 44, 3) := by decide +kernel
theorem dX6_weigh_44 : decode cX6_weigh 44 = .ok (.aload_n 0, 1) := by decide +kernel
theorem dX6_weigh_45 : decode cX6_weigh 45 = .ok (.invokevirtual 48, 3) := by decide +kernel
theorem dX6_weigh_48 : decode cX6_weigh 48 = .ok (.return_, 1) := by decide +kernel
theorem dX6_weighSide_0 : decode cX6_weighSide 0 = .ok (.aload_n 1, 1) := by decide +kernel
theorem dX6_weighSide_1 : decode cX6_weighSide 1 = .ok (.iload_n 2, 1) := by decide +kernel
theorem dX6_weighSide_2 : decode cX6_weighSide 2 = .ok (.aload_n 0, 1) := by decide +kernel
theorem dX6_weighSide_3 : decode cX6_weighSide 3 = .ok (.getfield 18, 3) := by decide +kernel
theorem dX6_weighSide_6 : decode cX6_weighSide 6 = .ok (.invokevirtual 51, 3) := by decide +kernel
theorem dX6_weighSide_9 : decode cX6_weighSide 9 = .ok (.aload_n 1, 1) := by decide +kernel
theorem dX6_weighSide_10 : decode cX6_weighSide 10 = .ok (.iconst 2, 1) := by decide +kernel
theorem dX6_weighSide_11 : decode cX6_weighSide 11 = .ok (.iload_n 2, 1) := by decide +kernel
theorem dX6_weighSide_12 : decode cX6_weighSide 12 = .ok (.iadd, 1) := by decide +kernel
theorem dX6_weighSide_13 : decode cX6_weighSide 13 = .ok (.aload_n 0, 1) := by decide +kernel
theorem dX6_weighSide_14 : decode cX6_weighSide 14 = .ok (.getfield 22, 3) := by decide +kernel
theorem dX6_weighSide_17 : decode cX6_weighSide 17 = .ok (.invokevirtual 51, 3) := by decide +kernel
theorem dX6_weighSide_20 : decode cX6_weighSide 20 = .ok (.iconst 1, 1) := by decide +kernel
theorem dX6_weighSide_21 : decode cX6_weighSide 21 = .ok (.iload_n 2, 1) := by decide +kernel
theorem dX6_weighSide_22 : decode cX6_weighSide 22 = .ok (.ishl, 1) := by decide +kernel
theorem dX6_weighSide_23 : decode cX6_weighSide 23 = .ok (.istore_n 3, 1) := by decide +kernel
theorem dX6_weighSide_24 : decode cX6_weighSide 24 = .ok (.iconst 0, 1) := by decide +kernel
theorem dX6_weighSide_25 : decode cX6_weighSide 25 = .ok (.istore 4, 2) := by decide +kernel
theorem dX6_weighSide_27 : decode cX6_weighSide 27 = .ok (.iload 4, 2) := by decide +kernel
theorem dX6_weighSide_29 : decode cX6_weighSide 29 = .ok (.aload_n 0, 1) := by decide +kernel
theorem dX6_weighSide_30 : decode cX6_weighSide 30 = .ok (.getfield 9, 3) := by decide +kernel
theorem dX6_weighSide_33 : decode cX6_weighSide 33 = .ok (.if_icmp .ge 68, 3) := by decide +kernel
theorem dX6_weighSide_36 : decode cX6_weighSide 36 = .ok (.aload_n 0, 1) := by decide +kernel
theorem dX6_weighSide_37 : decode cX6_weighSide 37 = .ok (.getfield 18, 3) := by decide +kernel
theorem dX6_weighSide_40 : decode cX6_weighSide 40 = .ok (.iload 4, 2) := by decide +kernel
theorem dX6_weighSide_42 : decode cX6_weighSide 42 = .ok (.iaload, 1) := by decide +kernel
theorem dX6_weighSide_43 : decode cX6_weighSide 43 = .ok (.invokestatic 55, 3) := by decide +kernel
theorem dX6_weighSide_46 : decode cX6_weighSide 46 = .ok (.ifCond .eq 49, 3) := by decide +kernel
theorem dX6_weighSide_49 : decode cX6_weighSide 49 = .ok (.aload_n 0, 1) := by decide +kernel
theorem dX6_weighSide_50 : decode cX6_weighSide 50 = .ok (.getfield 25, 3) := by decide +kernel
theorem dX6_weighSide_53 : decode cX6_weighSide 53 = .ok (.iload 4, 2) := by decide +kernel
theorem dX6_weighSide_55 : decode cX6_weighSide 55 = .ok (.dup2, 1) := by decide +kernel
theorem dX6_weighSide_56 : decode cX6_weighSide 56 = .ok (.iaload, 1) := by decide +kernel
theorem dX6_weighSide_57 : decode cX6_weighSide 57 = .ok (.iload_n 3, 1) := by decide +kernel
theorem dX6_weighSide_58 : decode cX6_weighSide 58 = .ok (.ior, 1) := by decide +kernel
theorem dX6_weighSide_59 : decode cX6_weighSide 59 = .ok (.iastore, 1) := by decide +kernel
theorem dX6_weighSide_60 : decode cX6_weighSide 60 = .ok (.aload_n 0, 1) := by decide +kernel
theorem dX6_weighSide_61 : decode cX6_weighSide 61 = .ok (.getfield 22, 3) := by decide +kernel
theorem dX6_weighSide_64 : decode cX6_weighSide 64 = .ok (.iload 4, 2) := by decide +kernel
theorem dX6_weighSide_66 : decode cX6_weighSide 66 = .ok (.iaload, 1) := by decide +kernel
theorem dX6_weighSide_67 : decode cX6_weighSide 67 = .ok (.iconst (-1), 1) := by decide +kernel
theorem dX6_weighSide_68 : decode cX6_weighSide 68 = .ok (.if_icmp .eq 27, 3) := by decide +kernel
theorem dX6_weighSide_71 : decode cX6_weighSide 71 = .ok (.aload_n 0, 1) := by decide +kernel
theorem dX6_weighSide_72 : decode cX6_weighSide 72 = .ok (.getfield 22, 3) := by decide +kernel
theorem dX6_weighSide_75 : decode cX6_weighSide 75 = .ok (.iload 4, 2) := by decide +kernel
theorem dX6_weighSide_77 : decode cX6_weighSide 77 = .ok (.iaload, 1) := by decide +kernel
theorem dX6_weighSide_78 : decode cX6_weighSide 78 = .ok (.invokestatic 59, 3) := by decide +kernel
theorem dX6_weighSide_81 : decode cX6_weighSide 81 = .ok (.ifCond .ne 14, 3) := by decide +kernel
theorem dX6_weighSide_84 : decode cX6_weighSide 84 = .ok (.aload_n 0, 1) := by decide +kernel
theorem dX6_weighSide_85 : decode cX6_weighSide 85 = .ok (.getfield 28, 3) := by decide +kernel
theorem dX6_weighSide_88 : decode cX6_weighSide 88 = .ok (.iload 4, 2) := by decide +kernel
theorem dX6_weighSide_90 : decode cX6_weighSide 90 = .ok (.dup2, 1) := by decide +kernel
theorem dX6_weighSide_91 : decode cX6_weighSide 91 = .ok (.iaload, 1) := by decide +kernel
theorem dX6_weighSide_92 : decode cX6_weighSide 92 = .ok (.iload_n 3, 1) := by decide +kernel
theorem dX6_weighSide_93 : decode cX6_weighSide 93 = .ok (.ior, 1) := by decide +kernel
theorem dX6_weighSide_94 : decode cX6_weighSide 94 = .ok (.iastore, 1) := by decide +kernel
theorem dX6_weighSide_95 : decode cX6_weighSide 95 = .ok (.iinc 4 1, 3) := by decide +kernel
theorem dX6_weighSide_98 : decode cX6_weighSide 98 = .ok (.goto (-71), 3) := by decide +kernel
theorem dX6_weighSide_101 : decode cX6_weighSide 101 = .ok (.return_, 1) := by decide +kernel
theorem dX6_canBear_0 : decode cX6_canBear 0 = .ok (.iload_n 0, 1) := by decide +kernel
theorem dX6_canBear_1 : decode cX6_canBear 1 = .ok (.iconst (-1), 1) := by decide +kernel
theorem dX6_canBear_2 : decode cX6_canBear 2 = .ok (.if_icmp .eq 22, 3) := by decide +kernel
theorem dX6_canBear_5 : decode cX6_canBear 5 = .ok (.iload_n 0, 1) := by decide +kernel
theorem dX6_canBear_6 : decode cX6_canBear 6 = .ok (.invokestatic 59, 3) := by decide +kernel
theorem dX6_canBear_9 : decode cX6_canBear 9 = .ok (.ifCond .eq 11, 3) := by decide +kernel
theorem dX6_canBear_12 : decode cX6_canBear 12 = .ok (.iload_n 0, 1) := by decide +kernel
theorem dX6_canBear_13 : decode cX6_canBear 13 = .ok (.invokestatic 59, 3) := by decide +kernel
theorem dX6_canBear_16 : decode cX6_canBear 16 = .ok (.iconst 1, 1) := by decide +kernel
theorem dX6_canBear_17 : decode cX6_canBear 17 = .ok (.if_icmp .ne 7, 3) := by decide +kernel
theorem dX6_canBear_20 : decode cX6_canBear 20 = .ok (.iconst 1, 1) := by decide +kernel
theorem dX6_canBear_21 : decode cX6_canBear 21 = .ok (.goto 4, 3) := by decide +kernel
theorem dX6_canBear_24 : decode cX6_canBear 24 = .ok (.iconst 0, 1) := by decide +kernel
theorem dX6_canBear_25 : decode cX6_canBear 25 = .ok (.ireturn, 1) := by decide +kernel
theorem dX6_measureFlights_0 : decode cX6_measureFlights 0 = .ok (.iconst 0, 1) := by decide +kernel
theorem dX6_measureFlights_1 : decode cX6_measureFlights 1 = .ok (.istore_n 1, 1) := by decide +kernel
theorem dX6_measureFlights_2 : decode cX6_measureFlights 2 = .ok (.iconst 0, 1) := by decide +kernel
theorem dX6_measureFlights_3 : decode cX6_measureFlights 3 = .ok (.istore_n 2, 1) := by decide +kernel
theorem dX6_measureFlights_4 : decode cX6_measureFlights 4 = .ok (.iload_n 2, 1) := by decide +kernel
theorem dX6_measureFlights_5 : decode cX6_measureFlights 5 = .ok (.aload_n 0, 1) := by decide +kernel
theorem dX6_measureFlights_6 : decode cX6_measureFlights 6 = .ok (.getfield 9, 3) := by decide +kernel
theorem dX6_measureFlights_9 : decode cX6_measureFlights 9 = .ok (.if_icmp .ge 33, 3) := by decide +kernel
theorem dX6_measureFlights_12 : decode cX6_measureFlights 12 = .ok (.aload_n 0, 1) := by decide +kernel
theorem dX6_measureFlights_13 : decode cX6_measureFlights 13 = .ok (.getfield 25, 3) := by decide +kernel
theorem dX6_measureFlights_16 : decode cX6_measureFlights 16 = .ok (.iload_n 2, 1) := by decide +kernel
theorem dX6_measureFlights_17 : decode cX6_measureFlights 17 = .ok (.iaload, 1) := by decide +kernel
theorem dX6_measureFlights_18 : decode cX6_measureFlights 18 = .ok (.ifCond .ne 9, 3) := by decide +kernel
theorem dX6_measureFlights_21 : decode cX6_measureFlights 21 = .ok (.iload_n 1, 1) := by decide +kernel
theorem dX6_measureFlights_22 : decode cX6_measureFlights 22 = .ok (.iconst 1, 1) := by decide +kernel
theorem dX6_measureFlights_23 : decode cX6_measureFlights 23 = .ok (.iadd, 1) := by decide +kernel
theorem dX6_measureFlights_24 : decode cX6_measureFlights 24 = .ok (.goto 4, 3) := by decide +kernel
theorem dX6_measureFlights_27 : decode cX6_measureFlights 27 = .ok (.iconst 0, 1) := by decide +kernel
theorem dX6_measureFlights_28 : decode cX6_measureFlights 28 = .ok (.istore_n 1, 1) := by decide +kernel
theorem dX6_measureFlights_29 : decode cX6_measureFlights 29 = .ok (.aload_n 0, 1) := by decide +kernel
theorem dX6_measureFlights_30 : decode cX6_measureFlights 30 = .ok (.getfield 31, 3) := by decide +kernel
theorem dX6_measureFlights_33 : decode cX6_measureFlights 33 = .ok (.iload_n 2, 1) := by decide +kernel
theorem dX6_measureFlights_34 : decode cX6_measureFlights 34 = .ok (.iload_n 1, 1) := by decide +kernel
theorem dX6_measureFlights_35 : decode cX6_measureFlights 35 = .ok (.iastore, 1) := by decide +kernel
theorem dX6_measureFlights_36 : decode cX6_measureFlights 36 = .ok (.iinc 2 1, 3) := by decide +kernel
theorem dX6_measureFlights_39 : decode cX6_measureFlights 39 = .ok (.goto (-35), 3) := by decide +kernel
theorem dX6_measureFlights_42 : decode cX6_measureFlights 42 = .ok (.aload_n 0, 1) := by decide +kernel
theorem dX6_measureFlights_43 : decode cX6_measureFlights 43 = .ok (.getfield 9, 3) := by decide +kernel
theorem dX6_measureFlights_46 : decode cX6_measureFlights 46 = .ok (.iconst 2, 1) := by decide +kernel
theorem dX6_measureFlights_47 : decode cX6_measureFlights 47 = .ok (.isub, 1) := by decide +kernel
theorem dX6_measureFlights_48 : decode cX6_measureFlights 48 = .ok (.istore_n 2, 1) := by decide +kernel
theorem dX6_measureFlights_49 : decode cX6_measureFlights 49 = .ok (.iload_n 2, 1) := by decide +kernel
theorem dX6_measureFlights_50 : decode cX6_measureFlights 50 = .ok (.ifCond .lt 43, 3) := by decide +kernel
theorem dX6_measureFlights_53 : decode cX6_measureFlights 53 = .ok (.aload_n 0, 1) := by decide +kernel
theorem dX6_measureFlights_54 : decode cX6_measureFlights 54 = .ok (.getfield 31, 3) := by decide +kernel
theorem dX6_measureFlights_57 : decode cX6_measureFlights 57 = .ok (.iload_n 2, 1) := by decide +kernel
theorem dX6_measureFlights_58 : decode cX6_measureFlights 58 = .ok (.iaload, 1) := by decide +kernel
theorem dX6_measureFlights_59 : decode cX6_measureFlights 59 = .ok (.ifCond .le 28, 3) := by decide +kernel
theorem dX6_measureFlights_62 : decode cX6_measureFlights 62 = .ok (.aload_n 0, 1) := by decide +kernel
theorem dX6_measureFlights_63 : decode cX6_measureFlights 63 = .ok (.getfield 31, 3) := by decide +kernel
theorem dX6_measureFlights_66 : decode cX6_measureFlights 66 = .ok (.iload_n 2, 1) := by decide +kernel
theorem dX6_measureFlights_67 : decode cX6_measureFlights 67 = .ok (.iconst 1, 1) := by decide +kernel
theorem dX6_measureFlights_68 : decode cX6_measureFlights 68 = .ok (.iadd, 1) := by decide +kernel
theorem dX6_measureFlights_69 : decode cX6_measureFlights 69 = .ok (.iaload, 1) := by decide +kernel
theorem dX6_measureFlights_70 : decode cX6_measureFlights 70 = .ok (.ifCond .le 17, 3) := by decide +kernel
theorem dX6_measureFlights_73 : decode cX6_measureFlights 73 = .ok (.aload_n 0, 1) := by decide +kernel
theorem dX6_measureFlights_74 : decode cX6_measureFlights 74 = .ok (.getfield 31, 3) := by decide +kernel
theorem dX6_measureFlights_77 : decode cX6_measureFlights 77 = .ok (.iload_n 2, 1) := by decide +kernel
theorem dX6_measureFlights_78 : decode cX6_measureFlights 78 = .ok (.aload_n 0, 1) := by decide +kernel
theorem dX6_measureFlights_79 : decode cX6_measureFlights 79 = .ok (.getfield 31, 3) := by decide +kernel
theorem dX6_measureFlights_82 : decode cX6_measureFlights 82 = .ok (.iload_n 2, 1) := by decide +kernel
theorem dX6_measureFlights_83 : decode cX6_measureFlights 83 = .ok (.iconst 1, 1) := by decide +kernel
theorem dX6_measureFlights_84 : decode cX6_measureFlights 84 = .ok (.iadd, 1) := by decide +kernel
theorem dX6_measureFlights_85 : decode cX6_measureFlights 85 = .ok (.iaload, 1) := by decide +kernel
theorem dX6_measureFlights_86 : decode cX6_measureFlights 86 = .ok (.iastore, 1) := by decide +kernel
theorem dX6_measureFlights_87 : decode cX6_measureFlights 87 = .ok (.iinc 2 (-1), 3) := by decide +kernel
theorem dX6_measureFlights_90 : decode cX6_measureFlights 90 = .ok (.goto (-41), 3) := by decide +kernel
theorem dX6_measureFlights_93 : decode cX6_measureFlights 93 = .ok (.return_, 1) := by decide +kernel
theorem dX6_isWrong_0 : decode cX6_isWrong 0 = .ok (.aload_n 0, 1) := by decide +kernel
theorem dX6_isWrong_1 : decode cX6_isWrong 1 = .ok (.getfield 28, 3) := by decide +kernel
theorem dX6_isWrong_4 : decode cX6_isWrong 4 = .ok (.iload_n 1, 1) := by decide +kernel
theorem dX6_isWrong_5 : decode cX6_isWrong 5 = .ok (.iaload, 1) := by decide +kernel
theorem dX6_isWrong_6 : decode cX6_isWrong 6 = .ok (.ifCond .ne 16, 3) := by decide +kernel
theorem dX6_isWrong_9 : decode cX6_isWrong 9 = .ok (.aload_n 0, 1) := by decide +kernel
theorem dX6_isWrong_10 : decode cX6_isWrong 10 = .ok (.getfield 31, 3) := by decide +kernel
theorem dX6_isWrong_13 : decode cX6_isWrong 13 = .ok (.iload_n 1, 1) := by decide +kernel
theorem dX6_isWrong_14 : decode cX6_isWrong 14 = .ok (.iaload, 1) := by decide +kernel
theorem dX6_isWrong_15 : decode cX6_isWrong 15 = .ok (.aload_n 0, 1) := by decide +kernel
theorem dX6_isWrong_16 : decode cX6_isWrong 16 = .ok (.getfield 15, 3) := by decide +kernel
theorem dX6_isWrong_19 : decode cX6_isWrong 19 = .ok (.if_icmp .le 7, 3) := by decide +kernel
theorem dX6_isWrong_22 : decode cX6_isWrong 22 = .ok (.iconst 1, 1) := by decide +kernel
theorem dX6_isWrong_23 : decode cX6_isWrong 23 = .ok (.goto 4, 3) := by decide +kernel
theorem dX6_isWrong_26 : decode cX6_isWrong 26 = .ok (.iconst 0, 1) := by decide +kernel
theorem dX6_isWrong_27 : decode cX6_isWrong 27 = .ok (.ireturn, 1) := by decide +kernel
theorem dX6_wrongBeats_0 : decode cX6_wrongBeats 0 = .ok (.iconst 0, 1) := by decide +kernel
theorem dX6_wrongBeats_1 : decode cX6_wrongBeats 1 = .ok (.istore_n 1, 1) := by decide +kernel
theorem dX6_wrongBeats_2 : decode cX6_wrongBeats 2 = .ok (.iconst 0, 1) := by decide +kernel
theorem dX6_wrongBeats_3 : decode cX6_wrongBeats 3 = .ok (.istore_n 2, 1) := by decide +kernel
theorem dX6_wrongBeats_4 : decode cX6_wrongBeats 4 = .ok (.iload_n 2, 1) := by decide +kernel
theorem dX6_wrongBeats_5 : decode cX6_wrongBeats 5 = .ok (.aload_n 0, 1) := by decide +kernel
theorem dX6_wrongBeats_6 : decode cX6_wrongBeats 6 = .ok (.getfield 9, 3) := by decide +kernel
theorem dX6_wrongBeats_9 : decode cX6_wrongBeats 9 = .ok (.if_icmp .ge 20, 3) := by decide +kernel
theorem dX6_wrongBeats_12 : decode cX6_wrongBeats 12 = .ok (.aload_n 0, 1) := by decide +kernel
theorem dX6_wrongBeats_13 : decode cX6_wrongBeats 13 = .ok (.iload_n 2, 1) := by decide +kernel
theorem dX6_wrongBeats_14 : decode cX6_wrongBeats 14 = .ok (.invokevirtual 65, 3) := by decide +kernel
theorem dX6_wrongBeats_17 : decode cX6_wrongBeats 17 = .ok (.ifCond .eq 6, 3) := by decide +kernel
theorem dX6_wrongBeats_20 : decode cX6_wrongBeats 20 = .ok (.iinc 1 1, 3) := by decide +kernel
theorem dX6_wrongBeats_23 : decode cX6_wrongBeats 23 = .ok (.iinc 2 1, 3) := by decide +kernel
theorem dX6_wrongBeats_26 : decode cX6_wrongBeats 26 = .ok (.goto (-22), 3) := by decide +kernel
theorem dX6_wrongBeats_29 : decode cX6_wrongBeats 29 = .ok (.iload_n 1, 1) := by decide +kernel
theorem dX6_wrongBeats_30 : decode cX6_wrongBeats 30 = .ok (.ireturn, 1) := by decide +kernel
theorem dX6_beatsOn_0 : decode cX6_beatsOn 0 = .ok (.iconst 0, 1) := by decide +kernel
theorem dX6_beatsOn_1 : decode cX6_beatsOn 1 = .ok (.istore_n 2, 1) := by decide +kernel
theorem dX6_beatsOn_2 : decode cX6_beatsOn 2 = .ok (.iconst 0, 1) := by decide +kernel
theorem dX6_beatsOn_3 : decode cX6_beatsOn 3 = .ok (.istore_n 3, 1) := by decide +kernel
theorem dX6_beatsOn_4 : decode cX6_beatsOn 4 = .ok (.iload_n 3, 1) := by decide +kernel
theorem dX6_beatsOn_5 : decode cX6_beatsOn 5 = .ok (.aload_n 0, 1) := by decide +kernel
theorem dX6_beatsOn_6 : decode cX6_beatsOn 6 = .ok (.getfield 9, 3) := by decide +kernel
theorem dX6_beatsOn_9 : decode cX6_beatsOn 9 = .ok (.if_icmp .ge 22, 3) := by decide +kernel
theorem dX6_beatsOn_12 : decode cX6_beatsOn 12 = .ok (.aload_n 0, 1) := by decide +kernel
theorem dX6_beatsOn_13 : decode cX6_beatsOn 13 = .ok (.getfield 25, 3) := by decide +kernel
theorem dX6_beatsOn_16 : decode cX6_beatsOn 16 = .ok (.iload_n 3, 1) := by decide +kernel
theorem dX6_beatsOn_17 : decode cX6_beatsOn 17 = .ok (.iaload, 1) := by decide +kernel
theorem dX6_beatsOn_18 : decode cX6_beatsOn 18 = .ok (.iload_n 1, 1) := by decide +kernel
theorem dX6_beatsOn_19 : decode cX6_beatsOn 19 = .ok (.if_icmp .ne 6, 3) := by decide +kernel
theorem dX6_beatsOn_22 : decode cX6_beatsOn 22 = .ok (.iinc 2 1, 3) := by decide +kernel
theorem dX6_beatsOn_25 : decode cX6_beatsOn 25 = .ok (.iinc 3 1, 3) := by decide +kernel
theorem dX6_beatsOn_28 : decode cX6_beatsOn 28 = .ok (.goto (-24), 3) := by decide +kernel
theorem dX6_beatsOn_31 : decode cX6_beatsOn 31 = .ok (.iload_n 2, 1) := by decide +kernel
theorem dX6_beatsOn_32 : decode cX6_beatsOn 32 = .ok (.ireturn, 1) := by decide +kernel
theorem dX6_longestFlight_0 : decode cX6_longestFlight 0 = .ok (.iconst 0, 1) := by decide +kernel
theorem dX6_longestFlight_1 : decode cX6_longestFlight 1 = .ok (.istore_n 1, 1) := by decide +kernel
theorem dX6_longestFlight_2 : decode cX6_longestFlight 2 = .ok (.iconst 0, 1) := by decide +kernel
theorem dX6_longestFlight_3 : decode cX6_longestFlight 3 = .ok (.istore_n 2, 1) := by decide +kernel
theorem dX6_longestFlight_4 : decode cX6_longestFlight 4 = .ok (.iload_n 2, 1) := by decide +kernel
theorem dX6_longestFlight_5 : decode cX6_longestFlight 5 = .ok (.aload_n 0, 1) := by decide +kernel
theorem dX6_longestFlight_6 : decode cX6_longestFlight 6 = .ok (.getfield 9, 3) := by decide +kernel
theorem dX6_longestFlight_9 : decode cX6_longestFlight 9 = .ok (.if_icmp .ge 20, 3) := by decide +kernel
theorem dX6_longestFlight_12 : decode cX6_longestFlight 12 = .ok (.iload_n 1, 1) := by decide +kernel
theorem dX6_longestFlight_13 : decode cX6_longestFlight 13 = .ok (.aload_n 0, 1) := by decide +kernel
theorem dX6_longestFlight_14 : decode cX6_longestFlight 14 = .ok (.getfield 31, 3) := by decide +kernel
theorem dX6_longestFlight_17 : decode cX6_longestFlight 17 = .ok (.iload_n 2, 1) := by decide +kernel
theorem dX6_longestFlight_18 : decode cX6_longestFlight 18 = .ok (.iaload, 1) := by decide +kernel
theorem dX6_longestFlight_19 : decode cX6_longestFlight 19 = .ok (.invokestatic 68, 3) := by decide +kernel
theorem dX6_longestFlight_22 : decode cX6_longestFlight 22 = .ok (.istore_n 1, 1) := by decide +kernel
theorem dX6_longestFlight_23 : decode cX6_longestFlight 23 = .ok (.iinc 2 1, 3) := by decide +kernel
theorem dX6_longestFlight_26 : decode cX6_longestFlight 26 = .ok (.goto (-22), 3) := by decide +kernel
theorem dX6_longestFlight_29 : decode cX6_longestFlight 29 = .ok (.iload_n 1, 1) := by decide +kernel
theorem dX6_longestFlight_30 : decode cX6_longestFlight 30 = .ok (.ireturn, 1) := by decide +kernel
theorem dX6_flightCount_0 : decode cX6_flightCount 0 = .ok (.iconst 0, 1) := by decide +kernel
theorem dX6_flightCount_1 : decode cX6_flightCount 1 = .ok (.istore_n 1, 1) := by decide +kernel
theorem dX6_flightCount_2 : decode cX6_flightCount 2 = .ok (.iconst 0, 1) := by decide +kernel
theorem dX6_flightCount_3 : decode cX6_flightCount 3 = .ok (.istore_n 2, 1) := by decide +kernel
theorem dX6_flightCount_4 : decode cX6_flightCount 4 = .ok (.iconst 0, 1) := by decide +kernel
theorem dX6_flightCount_5 : decode cX6_flightCount 5 = .ok (.istore_n 3, 1) := by decide +kernel
theorem dX6_flightCount_6 : decode cX6_flightCount 6 = .ok (.iload_n 3, 1) := by decide +kernel
theorem dX6_flightCount_7 : decode cX6_flightCount 7 = .ok (.aload_n 0, 1) := by decide +kernel
theorem dX6_flightCount_8 : decode cX6_flightCount 8 = .ok (.getfield 9, 3) := by decide +kernel
theorem dX6_flightCount_11 : decode cX6_flightCount 11 = .ok (.if_icmp .ge 32, 3) := by decide +kernel
theorem dX6_flightCount_14 : decode cX6_flightCount 14 = .ok (.aload_n 0, 1) := by decide +kernel
theorem dX6_flightCount_15 : decode cX6_flightCount 15 = .ok (.getfield 31, 3) := by decide +kernel
theorem dX6_flightCount_18 : decode cX6_flightCount 18 = .ok (.iload_n 3, 1) := by decide +kernel
theorem dX6_flightCount_19 : decode cX6_flightCount 19 = .ok (.iaload, 1) := by decide +kernel
theorem dX6_flightCount_20 : decode cX6_flightCount 20 = .ok (.ifCond .le 10, 3) := by decide +kernel
theorem dX6_flightCount_23 : decode cX6_flightCount 23 = .ok (.iload_n 2, 1) := by decide +kernel
theorem dX6_flightCount_24 : decode cX6_flightCount 24 = .ok (.ifCond .ne 6, 3) := by decide +kernel
theorem dX6_flightCount_27 : decode cX6_flightCount 27 = .ok (.iinc 1 1, 3) := by decide +kernel
theorem dX6_flightCount_30 : decode cX6_flightCount 30 = .ok (.aload_n 0, 1) := by decide +kernel
theorem dX6_flightCount_31 : decode cX6_flightCount 31 = .ok (.getfield 31, 3) := by decide +kernel
theorem dX6_flightCount_34 : decode cX6_flightCount 34 = .ok (.iload_n 3, 1) := by decide +kernel
theorem dX6_flightCount_35 : decode cX6_flightCount 35 = .ok (.iaload, 1) := by decide +kernel
theorem dX6_flightCount_36 : decode cX6_flightCount 36 = .ok (.istore_n 2, 1) := by decide +kernel
theorem dX6_flightCount_37 : decode cX6_flightCount 37 = .ok (.iinc 3 1, 3) := by decide +kernel
theorem dX6_flightCount_40 : decode cX6_flightCount 40 = .ok (.goto (-34), 3) := by decide +kernel
theorem dX6_flightCount_43 : decode cX6_flightCount 43 = .ok (.iload_n 1, 1) := by decide +kernel
theorem dX6_flightCount_44 : decode cX6_flightCount 44 = .ok (.ireturn, 1) := by decide +kernel
theorem dX6_isAnyLegTold_0 : decode cX6_isAnyLegTold 0 = .ok (.iconst 0, 1) := by decide +kernel
theorem dX6_isAnyLegTold_1 : decode cX6_isAnyLegTold 1 = .ok (.istore_n 1, 1) := by decide +kernel
theorem dX6_isAnyLegTold_2 : decode cX6_isAnyLegTold 2 = .ok (.iload_n 1, 1) := by decide +kernel
theorem dX6_isAnyLegTold_3 : decode cX6_isAnyLegTold 3 = .ok (.aload_n 0, 1) := by decide +kernel
theorem dX6_isAnyLegTold_4 : decode cX6_isAnyLegTold 4 = .ok (.getfield 9, 3) := by decide +kernel
theorem dX6_isAnyLegTold_7 : decode cX6_isAnyLegTold 7 = .ok (.if_icmp .ge 20, 3) := by decide +kernel
theorem dX6_isAnyLegTold_10 : decode cX6_isAnyLegTold 10 = .ok (.aload_n 0, 1) := by decide +kernel
theorem dX6_isAnyLegTold_11 : decode cX6_isAnyLegTold 11 = .ok (.getfield 28, 3) := by decide +kernel
theorem dX6_isAnyLegTold_14 : decode cX6_isAnyLegTold 14 = .ok (.iload_n 1, 1) := by decide +kernel
theorem dX6_isAnyLegTold_15 : decode cX6_isAnyLegTold 15 = .ok (.iaload, 1) := by decide +kernel
theorem dX6_isAnyLegTold_16 : decode cX6_isAnyLegTold 16 = .ok (.ifCond .eq 5, 3) := by decide +kernel
theorem dX6_isAnyLegTold_19 : decode cX6_isAnyLegTold 19 = .ok (.iconst 1, 1) := by decide +kernel
theorem dX6_isAnyLegTold_20 : decode cX6_isAnyLegTold 20 = .ok (.ireturn, 1) := by decide +kernel
theorem dX6_isAnyLegTold_21 : decode cX6_isAnyLegTold 21 = .ok (.iinc 1 1, 3) := by decide +kernel
theorem dX6_isAnyLegTold_24 : decode cX6_isAnyLegTold 24 = .ok (.goto (-22), 3) := by decide +kernel
theorem dX6_isAnyLegTold_27 : decode cX6_isAnyLegTold 27 = .ok (.iconst 0, 1) := by decide +kernel
theorem dX6_isAnyLegTold_28 : decode cX6_isAnyLegTold 28 = .ok (.ireturn, 1) := by decide +kernel
theorem dX7_init_0 : decode cX7_init 0 = .ok (.aload_n 0, 1) := by decide +kernel
theorem dX7_init_1 : decode cX7_init 1 = .ok (.invokespecial 1, 3) := by decide +kernel
theorem dX7_init_4 : decode cX7_init 4 = .ok (.aload_n 0, 1) := by decide +kernel
theorem dX7_init_5 : decode cX7_init 5 = .ok (.new 7, 3) := by decide +kernel
theorem dX7_init_8 : decode cX7_init 8 = .ok (.dup, 1) := by decide +kernel
theorem dX7_init_9 : decode cX7_init 9 = .ok (.invokespecial 9, 3) := by decide +kernel
theorem dX7_init_12 : decode cX7_init 12 = .ok (.putfield 10, 3) := by decide +kernel
theorem dX7_init_15 : decode cX7_init 15 = .ok (.aload_n 0, 1) := by decide +kernel
theorem dX7_init_16 : decode cX7_init 16 = .ok (.new 7, 3) := by decide +kernel
theorem dX7_init_19 : decode cX7_init 19 = .ok (.dup, 1) := by decide +kernel
theorem dX7_init_20 : decode cX7_init 20 = .ok (.invokespecial 9, 3) := by decide +kernel
theorem dX7_init_23 : decode cX7_init 23 = .ok (.putfield 16, 3) := by decide +kernel
theorem dX7_init_26 : decode cX7_init 26 = .ok (.aload_n 0, 1) := by decide +kernel
theorem dX7_init_27 : decode cX7_init 27 = .ok (.new 7, 3) := by decide +kernel
theorem dX7_init_30 : decode cX7_init 30 = .ok (.dup, 1) := by decide +kernel
theorem dX7_init_31 : decode cX7_init 31 = .ok (.invokespecial 9, 3) := by decide +kernel
theorem dX7_init_34 : decode cX7_init 34 = .ok (.putfield 19, 3) := by decide +kernel
theorem dX7_init_37 : decode cX7_init 37 = .ok (.aload_n 0, 1) := by decide +kernel
theorem dX7_init_38 : decode cX7_init 38 = .ok (.new 22, 3) := by decide +kernel
theorem dX7_init_41 : decode cX7_init 41 = .ok (.dup, 1) := by decide +kernel
theorem dX7_init_42 : decode cX7_init 42 = .ok (.invokespecial 24, 3) := by decide +kernel
theorem dX7_init_45 : decode cX7_init 45 = .ok (.putfield 25, 3) := by decide +kernel
theorem dX7_init_48 : decode cX7_init 48 = .ok (.aload_n 0, 1) := by decide +kernel
theorem dX7_init_49 : decode cX7_init 49 = .ok (.new 29, 3) := by decide +kernel
theorem dX7_init_52 : decode cX7_init 52 = .ok (.dup, 1) := by decide +kernel
theorem dX7_init_53 : decode cX7_init 53 = .ok (.invokespecial 31, 3) := by decide +kernel
theorem dX7_init_56 : decode cX7_init 56 = .ok (.putfield 32, 3) := by decide +kernel
theorem dX7_init_59 : decode cX7_init 59 = .ok (.aload_n 0, 1) := by decide +kernel
theorem dX7_init_60 : decode cX7_init 60 = .ok (.new 36, 3) := by decide +kernel
theorem dX7_init_63 : decode cX7_init 63 = .ok (.dup, 1) := by decide +kernel
theorem dX7_init_64 : decode cX7_init 64 = .ok (.invokespecial 38, 3) := by decide +kernel
theorem dX7_init_67 : decode cX7_init 67 = .ok (.putfield 39, 3) := by decide +kernel
theorem dX7_init_70 : decode cX7_init 70 = .ok (.aload_n 0, 1) := by decide +kernel
theorem dX7_init_71 : decode cX7_init 71 = .ok (.new 43, 3) := by decide +kernel
theorem dX7_init_74 : decode cX7_init 74 = .ok (.dup, 1) := by decide +kernel
theorem dX7_init_75 : decode cX7_init 75 = .ok (.invokespecial 45, 3) := by decide +kernel
theorem dX7_init_78 : decode cX7_init 78 = .ok (.putfield 46, 3) := by decide +kernel
theorem dX7_init_81 : decode cX7_init 81 = .ok (.aload_n 0, 1) := by decide +kernel
theorem dX7_init_82 : decode cX7_init 82 = .ok (.new 50, 3) := by decide +kernel
theorem dX7_init_85 : decode cX7_init 85 = .ok (.dup, 1) := by decide +kernel
theorem dX7_init_86 : decode cX7_init 86 = .ok (.invokespecial 52, 3) := by decide +kernel
theorem dX7_init_89 : decode cX7_init 89 = .ok (.putfield 53, 3) := by decide +kernel
theorem dX7_init_92 : decode cX7_init 92 = .ok (.aload_n 0, 1) := by decide +kernel
theorem dX7_init_93 : decode cX7_init 93 = .ok (.bipush 48, 2) := by decide +kernel
theorem dX7_init_95 : decode cX7_init 95 = .ok (.newarray .int, 2) := by decide +kernel
theorem dX7_init_97 : decode cX7_init 97 = .ok (.putfield 57, 3) := by decide +kernel
theorem dX7_init_100 : decode cX7_init 100 = .ok (.return_, 1) := by decide +kernel
theorem dX7_reset_0 : decode cX7_reset 0 = .ok (.iload_n 1, 1) := by decide +kernel
theorem dX7_reset_1 : decode cX7_reset 1 = .ok (.iconst 4, 1) := by decide +kernel
theorem dX7_reset_2 : decode cX7_reset 2 = .ok (.bipush 48, 2) := by decide +kernel
theorem dX7_reset_4 : decode cX7_reset 4 = .ok (.invokestatic 61, 3) := by decide +kernel
theorem dX7_reset_7 : decode cX7_reset 7 = .ok (.ifCond .ne 7, 3) := by decide +kernel
theorem dX7_reset_10 : decode cX7_reset 10 = .ok (.sipush (-1001), 3) := by decide +kernel
theorem dX7_reset_13 : decode cX7_reset 13 = .ok (.ireturn, 1) := by decide +kernel
theorem dX7_reset_14 : decode cX7_reset 14 = .ok (.aload_n 0, 1) := by decide +kernel
theorem dX7_reset_15 : decode cX7_reset 15 = .ok (.getfield 10, 3) := by decide +kernel
theorem dX7_reset_18 : decode cX7_reset 18 = .ok (.getfield 65, 3) := by decide +kernel
theorem dX7_reset_21 : decode cX7_reset 21 = .ok (.istore_n 2, 1) := by decide +kernel
theorem dX7_reset_22 : decode cX7_reset 22 = .ok (.aload_n 0, 1) := by decide +kernel
theorem dX7_reset_23 : decode cX7_reset 23 = .ok (.getfield 25, 3) := by decide +kernel
theorem dX7_reset_26 : decode cX7_reset 26 = .ok (.aload_n 0, 1) := by decide +kernel
theorem dX7_reset_27 : decode cX7_reset 27 = .ok (.getfield 10, 3) := by decide +kernel
theorem dX7_reset_30 : decode cX7_reset 30 = .ok (.invokevirtual 69, 3) := by decide +kernel
theorem dX7_reset_33 : decode cX7_reset 33 = .ok (.aload_n 0, 1) := by decide +kernel
theorem dX7_reset_34 : decode cX7_reset 34 = .ok (.getfield 10, 3) := by decide +kernel
theorem dX7_reset_37 : decode cX7_reset 37 = .ok (.iload_n 1, 1) := by decide +kernel
theorem dX7_reset_38 : decode cX7_reset 38 = .ok (.invokevirtual 73, 3) := by decide +kernel
theorem dX7_reset_41 : decode cX7_reset 41 = .ok (.iload_n 2, 1) := by decide +kernel
theorem dX7_reset_42 : decode cX7_reset 42 = .ok (.ireturn, 1) := by decide +kernel
theorem dX7_addMove_0 : decode cX7_addMove 0 = .ok (.iload_n 1, 1) := by decide +kernel
theorem dX7_addMove_1 : decode cX7_addMove 1 = .ok (.iconst 0, 1) := by decide +kernel
theorem dX7_addMove_2 : decode cX7_addMove 2 = .ok (.iconst 5, 1) := by decide +kernel
theorem dX7_addMove_3 : decode cX7_addMove 3 = .ok (.invokestatic 61, 3) := by decide +kernel
theorem dX7_addMove_6 : decode cX7_addMove 6 = .ok (.ifCond .eq 33, 3) := by decide +kernel
theorem dX7_addMove_9 : decode cX7_addMove 9 = .ok (.aload_n 0, 1) := by decide +kernel
theorem dX7_addMove_10 : decode cX7_addMove 10 = .ok (.iload_n 2, 1) := by decide +kernel
theorem dX7_addMove_11 : decode cX7_addMove 11 = .ok (.iload_n 3, 1) := by decide +kernel
theorem dX7_addMove_12 : decode cX7_addMove 12 = .ok (.invokevirtual 77, 3) := by decide +kernel
theorem dX7_addMove_15 : decode cX7_addMove 15 = .ok (.ifCond .eq 24, 3) := by decide +kernel
theorem dX7_addMove_18 : decode cX7_addMove 18 = .ok (.iload 4, 2) := by decide +kernel
theorem dX7_addMove_20 : decode cX7_addMove 20 = .ok (.iconst 0, 1) := by decide +kernel
theorem dX7_addMove_21 : decode cX7_addMove 21 = .ok (.bipush 8, 2) := by decide +kernel
theorem dX7_addMove_23 : decode cX7_addMove 23 = .ok (.invokestatic 61, 3) := by decide +kernel
theorem dX7_addMove_26 : decode cX7_addMove 26 = .ok (.ifCond .eq 13, 3) := by decide +kernel
theorem dX7_addMove_29 : decode cX7_addMove 29 = .ok (.iload 5, 2) := by decide +kernel
theorem dX7_addMove_31 : decode cX7_addMove 31 = .ok (.iconst 0, 1) := by decide +kernel
theorem dX7_addMove_32 : decode cX7_addMove 32 = .ok (.iconst 2, 1) := by decide +kernel
theorem dX7_addMove_33 : decode cX7_addMove 33 = .ok (.invokestatic 61, 3) := by decide +kernel
theorem dX7_addMove_36 : decode cX7_addMove 36 = .ok (.ifCond .ne 7, 3) := by decide +kernel
theorem dX7_addMove_39 : decode cX7_addMove 39 = .ok (.sipush (-1001), 3) := by decide +kernel
theorem dX7_addMove_42 : decode cX7_addMove 42 = .ok (.ireturn, 1) := by decide +kernel
theorem dX7_addMove_43 : decode cX7_addMove 43 = .ok (.aload_n 0, 1) := by decide +kernel
theorem dX7_addMove_44 : decode cX7_addMove 44 = .ok (.iload_n 1, 1) := by decide +kernel
theorem dX7_addMove_45 : decode cX7_addMove 45 = .ok (.iload_n 2, 1) := by decide +kernel
theorem dX7_addMove_46 : decode cX7_addMove 46 = .ok (.iload_n 3, 1) := by decide +kernel
theorem dX7_addMove_47 : decode cX7_addMove 47 = .ok (.iload 4, 2) := by decide +kernel
theorem dX7_addMove_49 : decode cX7_addMove 49 = .ok (.iload 5, 2) := by decide +kernel
theorem dX7_addMove_51 : decode cX7_addMove 51 = .ok (.invokestatic 81, 3) := by decide +kernel
theorem dX7_addMove_54 : decode cX7_addMove 54 = .ok (.invokevirtual 87, 3) := by decide +kernel
theorem dX7_addMove_57 : decode cX7_addMove 57 = .ok (.ireturn, 1) := by decide +kernel
theorem dX7_removeSign_0 : decode cX7_removeSign 0 = .ok (.iload_n 1, 1) := by decide +kernel
theorem dX7_removeSign_1 : decode cX7_removeSign 1 = .ok (.iconst 0, 1) := by decide +kernel
theorem dX7_removeSign_2 : decode cX7_removeSign 2 = .ok (.aload_n 0, 1) := by decide +kernel
theorem dX7_removeSign_3 : decode cX7_removeSign 3 = .ok (.getfield 10, 3) := by decide +kernel
theorem dX7_removeSign_6 : decode cX7_removeSign 6 = .ok (.getfield 110, 3) := by decide +kernel
theorem dX7_removeSign_9 : decode cX7_removeSign 9 = .ok (.iconst 1, 1) := by decide +kernel
theorem dX7_removeSign_10 : decode cX7_removeSign 10 = .ok (.isub, 1) := by decide +kernel
theorem dX7_removeSign_11 : decode cX7_removeSign 11 = .ok (.invokestatic 61, 3) := by decide +kernel
theorem dX7_removeSign_14 : decode cX7_removeSign 14 = .ok (.ifCond .ne 7, 3) := by decide +kernel
theorem dX7_removeSign_17 : decode cX7_removeSign 17 = .ok (.sipush (-1001), 3) := by decide +kernel
theorem dX7_removeSign_20 : decode cX7_removeSign 20 = .ok (.ireturn, 1) := by decide +kernel
theorem dX7_removeSign_21 : decode cX7_removeSign 21 = .ok (.aload_n 0, 1) := by decide +kernel
theorem dX7_removeSign_22 : decode cX7_removeSign 22 = .ok (.getfield 25, 3) := by decide +kernel
theorem dX7_removeSign_25 : decode cX7_removeSign 25 = .ok (.aload_n 0, 1) := by decide +kernel
theorem dX7_removeSign_26 : decode cX7_removeSign 26 = .ok (.getfield 10, 3) := by decide +kernel
theorem dX7_removeSign_29 : decode cX7_removeSign 29 = .ok (.invokevirtual 69, 3) := by decide +kernel
theorem dX7_removeSign_32 : decode cX7_removeSign 32 = .ok (.aload_n 0, 1) := by decide +kernel
theorem dX7_removeSign_33 : decode cX7_removeSign 33 = .ok (.getfield 10, 3) := by decide +kernel
theorem dX7_removeSign_36 : decode cX7_removeSign 36 = .ok (.iload_n 1, 1) := by decide +kernel
theorem dX7_removeSign_37 : decode cX7_removeSign 37 = .ok (.invokevirtual 113, 3) := by decide +kernel
theorem dX7_removeSign_40 : decode cX7_removeSign 40 = .ok (.aload_n 0, 1) := by decide +kernel
theorem dX7_removeSign_41 : decode cX7_removeSign 41 = .ok (.getfield 10, 3) := by decide +kernel
theorem dX7_removeSign_44 : decode cX7_removeSign 44 = .ok (.getfield 110, 3) := by decide +kernel
theorem dX7_removeSign_47 : decode cX7_removeSign 47 = .ok (.ireturn, 1) := by decide +kernel
theorem dX7_copyPhrase_0 : decode cX7_copyPhrase 0 = .ok (.aload_n 0, 1) := by decide +kernel
theorem dX7_copyPhrase_1 : decode cX7_copyPhrase 1 = .ok (.iload_n 1, 1) := by decide +kernel
theorem dX7_copyPhrase_2 : decode cX7_copyPhrase 2 = .ok (.iload_n 2, 1) := by decide +kernel
theorem dX7_copyPhrase_3 : decode cX7_copyPhrase 3 = .ok (.invokevirtual 116, 3) := by decide +kernel
theorem dX7_copyPhrase_6 : decode cX7_copyPhrase 6 = .ok (.ifCond .eq 27, 3) := by decide +kernel
theorem dX7_copyPhrase_9 : decode cX7_copyPhrase 9 = .ok (.aload_n 0, 1) := by decide +kernel
theorem dX7_copyPhrase_10 : decode cX7_copyPhrase 10 = .ok (.iload_n 3, 1) := by decide +kernel
theorem dX7_copyPhrase_11 : decode cX7_copyPhrase 11 = .ok (.invokevirtual 95, 3) := by decide +kernel
theorem dX7_copyPhrase_14 : decode cX7_copyPhrase 14 = .ok (.ifCond .eq 19, 3) := by decide +kernel
theorem dX7_copyPhrase_17 : decode cX7_copyPhrase 17 = .ok (.iload 4, 2) := by decide +kernel
theorem dX7_copyPhrase_19 : decode cX7_copyPhrase 19 = .ok (.invokestatic 119, 3) := by decide +kernel
theorem dX7_copyPhrase_22 : decode cX7_copyPhrase 22 = .ok (.ifCond .eq 11, 3) := by decide +kernel
theorem dX7_copyPhrase_25 : decode cX7_copyPhrase 25 = .ok (.iload 5, 2) := by decide +kernel
theorem dX7_copyPhrase_27 : decode cX7_copyPhrase 27 = .ok (.invokestatic 119, 3) := by decide +kernel
theorem dX7_copyPhrase_30 : decode cX7_copyPhrase 30 = .ok (.ifCond .ne 7, 3) := by decide +kernel
theorem dX7_copyPhrase_33 : decode cX7_copyPhrase 33 = .ok (.sipush (-1001), 3) := by decide +kernel
theorem dX7_copyPhrase_36 : decode cX7_copyPhrase 36 = .ok (.ireturn, 1) := by decide +kernel
theorem dX7_copyPhrase_37 : decode cX7_copyPhrase 37 = .ok (.aload_n 0, 1) := by decide +kernel
theorem dX7_copyPhrase_38 : decode cX7_copyPhrase 38 = .ok (.getfield 16, 3) := by decide +kernel
theorem dX7_copyPhrase_41 : decode cX7_copyPhrase 41 = .ok (.aload_n 0, 1) := by decide +kernel
theorem dX7_copyPhrase_42 : decode cX7_copyPhrase 42 = .ok (.getfield 10, 3) := by decide +kernel
theorem dX7_copyPhrase_45 : decode cX7_copyPhrase 45 = .ok (.invokevirtual 122, 3) := by decide +kernel
theorem dX7_copyPhrase_48 : decode cX7_copyPhrase 48 = .ok (.iconst 0, 1) := by decide +kernel
theorem dX7_copyPhrase_49 : decode cX7_copyPhrase 49 = .ok (.istore 6, 2) := by decide +kernel
theorem dX7_copyPhrase_51 : decode cX7_copyPhrase 51 = .ok (.iload 6, 2) := by decide +kernel
theorem dX7_copyPhrase_53 : decode cX7_copyPhrase 53 = .ok (.aload_n 0, 1) := by decide +kernel
theorem dX7_copyPhrase_54 : decode cX7_copyPhrase 54 = .ok (.getfield 10, 3) := by decide +kernel
theorem dX7_copyPhrase_57 : decode cX7_copyPhrase 57 = .ok (.getfield 110, 3) := by decide +kernel
theorem dX7_copyPhrase_60 : decode cX7_copyPhrase 60 = .ok (.if_icmp .ge 81, 3) := by decide +kernel
theorem dX7_copyPhrase_63 : decode cX7_copyPhrase 63 = .ok (.aload_n 0, 1) := by decide +kernel
theorem dX7_copyPhrase_64 : decode cX7_copyPhrase 64 = .ok (.getfield 10, 3) := by decide +kernel
theorem dX7_copyPhrase_67 : decode cX7_copyPhrase 67 = .ok (.iload 6, 2) := by decide +kernel
theorem dX7_copyPhrase_69 : decode cX7_copyPhrase 69 = .ok (.invokevirtual 125, 3) := by decide +kernel
theorem dX7_copyPhrase_72 : decode cX7_copyPhrase 72 = .ok (.istore 7, 2) := by decide +kernel
theorem dX7_copyPhrase_74 : decode cX7_copyPhrase 74 = .ok (.iload 7, 2) := by decide +kernel
theorem dX7_copyPhrase_76 : decode cX7_copyPhrase 76 = .ok (.iload_n 1, 1) := by decide +kernel
theorem dX7_copyPhrase_77 : decode cX7_copyPhrase 77 = .ok (.iload_n 2, 1) := by decide +kernel
theorem dX7_copyPhrase_78 : decode cX7_copyPhrase 78 = .ok (.invokestatic 128, 3) := by decide +kernel
theorem dX7_copyPhrase_81 : decode cX7_copyPhrase 81 = .ok (.ifCond .eq 54, 3) := by decide +kernel
theorem dX7_copyPhrase_84 : decode cX7_copyPhrase 84 = .ok (.iload 5, 2) := by decide +kernel
theorem dX7_copyPhrase_86 : decode cX7_copyPhrase 86 = .ok (.iconst 1, 1) := by decide +kernel
theorem dX7_copyPhrase_87 : decode cX7_copyPhrase 87 = .ok (.if_icmp .ne 15, 3) := by decide +kernel
theorem dX7_copyPhrase_90 : decode cX7_copyPhrase 90 = .ok (.iload_n 3, 1) := by decide +kernel
theorem dX7_copyPhrase_91 : decode cX7_copyPhrase 91 = .ok (.iload_n 2, 1) := by decide +kernel
theorem dX7_copyPhrase_92 : decode cX7_copyPhrase 92 = .ok (.iadd, 1) := by decide +kernel
theorem dX7_copyPhrase_93 : decode cX7_copyPhrase 93 = .ok (.iload 7, 2) := by decide +kernel
theorem dX7_copyPhrase_95 : decode cX7_copyPhrase 95 = .ok (.invokestatic 131, 3) := by decide +kernel
theorem dX7_copyPhrase_98 : decode cX7_copyPhrase 98 = .ok (.isub, 1) := by decide +kernel
theorem dX7_copyPhrase_99 : decode cX7_copyPhrase 99 = .ok (.goto 12, 3) := by decide +kernel
theorem dX7_copyPhrase_102 : decode cX7_copyPhrase 102 = .ok (.iload_n 3, 1) := by decide +kernel
theorem dX7_copyPhrase_103 : decode cX7_copyPhrase 103 = .ok (.iload 7, 2) := by decide +kernel
theorem dX7_copyPhrase_105 : decode cX7_copyPhrase 105 = .ok (.invokestatic 134, 3) := by decide +kernel
theorem dX7_copyPhrase_108 : decode cX7_copyPhrase 108 = .ok (.iadd, 1) := by decide +kernel
theorem dX7_copyPhrase_109 : decode cX7_copyPhrase 109 = .ok (.iload_n 1, 1) := by decide +kernel
theorem dX7_copyPhrase_110 : decode cX7_copyPhrase 110 = .ok (.isub, 1) := by decide +kernel
theorem dX7_copyPhrase_111 : decode cX7_copyPhrase 111 = .ok (.istore 8, 2) := by decide +kernel
theorem dX7_copyPhrase_113 : decode cX7_copyPhrase 113 = .ok (.aload_n 0, 1) := by decide +kernel
theorem dX7_copyPhrase_114 : decode cX7_copyPhrase 114 = .ok (.getfield 16, 3) := by decide +kernel
theorem dX7_copyPhrase_117 : decode cX7_copyPhrase 117 = .ok (.iload 7, 2) := by decide +kernel
theorem dX7_copyPhrase_119 : decode cX7_copyPhrase 119 = .ok (.iload 8, 2) := by decide +kernel
theorem dX7_copyPhrase_121 : decode cX7_copyPhrase 121 = .ok (.invokestatic 137, 3) := by decide +kernel
theorem dX7_copyPhrase_124 : decode cX7_copyPhrase 124 = .ok (.iload 4, 2) := by decide +kernel
theorem dX7_copyPhrase_126 : decode cX7_copyPhrase 126 = .ok (.iload 5, 2) := by decide +kernel
theorem dX7_copyPhrase_128 : decode cX7_copyPhrase 128 = .ok (.invokestatic 140, 3) := by decide +kernel
theorem dX7_copyPhrase_131 : decode cX7_copyPhrase 131 = .ok (.invokevirtual 143, 3) := by decide +kernel
theorem dX7_copyPhrase_134 : decode cX7_copyPhrase 134 = .ok (.pop, 1) := by decide +kernel
theorem dX7_copyPhrase_135 : decode cX7_copyPhrase 135 = .ok (.iinc 6 1, 3) := by decide +kernel
theorem dX7_copyPhrase_138 : decode cX7_copyPhrase 138 = .ok (.goto (-87), 3) := by decide +kernel
theorem dX7_copyPhrase_141 : decode cX7_copyPhrase 141 = .ok (.aload_n 0, 1) := by decide +kernel
theorem dX7_copyPhrase_142 : decode cX7_copyPhrase 142 = .ok (.invokevirtual 146, 3) := by decide +kernel
theorem dX7_copyPhrase_145 : decode cX7_copyPhrase 145 = .ok (.ifCond .ne 7, 3) := by decide +kernel
theorem dX7_copyPhrase_148 : decode cX7_copyPhrase 148 = .ok (.sipush (-1002), 3) := by decide +kernel
theorem dX7_copyPhrase_151 : decode cX7_copyPhrase 151 = .ok (.ireturn, 1) := by decide +kernel
theorem dX7_copyPhrase_152 : decode cX7_copyPhrase 152 = .ok (.aload_n 0, 1) := by decide +kernel
theorem dX7_copyPhrase_153 : decode cX7_copyPhrase 153 = .ok (.getfield 19, 3) := by decide +kernel
theorem dX7_copyPhrase_156 : decode cX7_copyPhrase 156 = .ok (.getfield 110, 3) := by decide +kernel
theorem dX7_copyPhrase_159 : decode cX7_copyPhrase 159 = .ok (.bipush 60, 2) := by decide +kernel
theorem dX7_copyPhrase_161 : decode cX7_copyPhrase 161 = .ok (.if_icmp .le 7, 3) := by decide +kernel
theorem dX7_copyPhrase_164 : decode cX7_copyPhrase 164 = .ok (.sipush (-1003), 3) := by decide +kernel
theorem dX7_copyPhrase_167 : decode cX7_copyPhrase 167 = .ok (.ireturn, 1) := by decide +kernel
theorem dX7_copyPhrase_168 : decode cX7_copyPhrase 168 = .ok (.aload_n 0, 1) := by decide +kernel
theorem dX7_copyPhrase_169 : decode cX7_copyPhrase 169 = .ok (.getfield 25, 3) := by decide +kernel
theorem dX7_copyPhrase_172 : decode cX7_copyPhrase 172 = .ok (.aload_n 0, 1) := by decide +kernel
theorem dX7_copyPhrase_173 : decode cX7_copyPhrase 173 = .ok (.getfield 10, 3) := by decide +kernel
theorem dX7_copyPhrase_176 : decode cX7_copyPhrase 176 = .ok (.invokevirtual 69, 3) := by decide +kernel
theorem dX7_copyPhrase_179 : decode cX7_copyPhrase 179 = .ok (.aload_n 0, 1) := by decide +kernel
theorem dX7_copyPhrase_180 : decode cX7_copyPhrase 180 = .ok (.getfield 10, 3) := by decide +kernel
theorem dX7_copyPhrase_183 : decode cX7_copyPhrase 183 = .ok (.aload_n 0, 1) := by decide +kernel
theorem dX7_copyPhrase_184 : decode cX7_copyPhrase 184 = .ok (.getfield 19, 3) := by decide +kernel
theorem dX7_copyPhrase_187 : decode cX7_copyPhrase 187 = .ok (.invokevirtual 150, 3) := by decide +kernel
theorem dX7_copyPhrase_190 : decode cX7_copyPhrase 190 = .ok (.aload_n 0, 1) := by decide +kernel
theorem dX7_copyPhrase_191 : decode cX7_copyPhrase 191 = .ok (.getfield 16, 3) := by decide +kernel
theorem dX7_copyPhrase_194 : decode cX7_copyPhrase 194 = .ok (.getfield 110, 3) := by decide +kernel
theorem dX7_copyPhrase_197 : decode cX7_copyPhrase 197 = .ok (.ireturn, 1) := by decide +kernel
theorem dX7_setLeap_0 : decode cX7_setLeap 0 = .ok (.iload_n 1, 1) := by decide +kernel
theorem dX7_setLeap_1 : decode cX7_setLeap 1 = .ok (.iconst 0, 1) := by decide +kernel
theorem dX7_setLeap_2 : decode cX7_setLeap 2 = .ok (.bipush 8, 2) := by decide +kernel
theorem dX7_setLeap_4 : decode cX7_setLeap 4 = .ok (.invokestatic 61, 3) := by decide +kernel
theorem dX7_setLeap_7 : decode cX7_setLeap 7 = .ok (.ifCond .ne 7, 3) := by decide +kernel
theorem dX7_setLeap_10 : decode cX7_setLeap 10 = .ok (.sipush (-1001), 3) := by decide +kernel
theorem dX7_setLeap_13 : decode cX7_setLeap 13 = .ok (.ireturn, 1) := by decide +kernel
theorem dX7_setLeap_14 : decode cX7_setLeap 14 = .ok (.aload_n 0, 1) := by decide +kernel
theorem dX7_setLeap_15 : decode cX7_setLeap 15 = .ok (.getfield 10, 3) := by decide +kernel
theorem dX7_setLeap_18 : decode cX7_setLeap 18 = .ok (.getfield 153, 3) := by decide +kernel
theorem dX7_setLeap_21 : decode cX7_setLeap 21 = .ok (.istore_n 2, 1) := by decide +kernel
theorem dX7_setLeap_22 : decode cX7_setLeap 22 = .ok (.aload_n 0, 1) := by decide +kernel
theorem dX7_setLeap_23 : decode cX7_setLeap 23 = .ok (.getfield 25, 3) := by decide +kernel
theorem dX7_setLeap_26 : decode cX7_setLeap 26 = .ok (.aload_n 0, 1) := by decide +kernel
theorem dX7_setLeap_27 : decode cX7_setLeap 27 = .ok (.getfield 10, 3) := by decide +kernel
theorem dX7_setLeap_30 : decode cX7_setLeap 30 = .ok (.invokevirtual 69, 3) := by decide +kernel
theorem dX7_setLeap_33 : decode cX7_setLeap 33 = .ok (.aload_n 0, 1) := by decide +kernel
theorem dX7_setLeap_34 : decode cX7_setLeap 34 = .ok (.getfield 10, 3) := by decide +kernel
theorem dX7_setLeap_37 : decode cX7_setLeap 37 = .ok (.iload_n 1, 1) := by decide +kernel
theorem dX7_setLeap_38 : decode cX7_setLeap 38 = .ok (.putfield 153, 3) := by decide +kernel
theorem dX7_setLeap_41 : decode cX7_setLeap 41 = .ok (.iload_n 2, 1) := by decide +kernel
theorem dX7_setLeap_42 : decode cX7_setLeap 42 = .ok (.ireturn, 1) := by decide +kernel
theorem dX7_lay_0 : decode cX7_lay 0 = .ok (.aload_n 0, 1) := by decide +kernel
theorem dX7_lay_1 : decode cX7_lay 1 = .ok (.getfield 53, 3) := by decide +kernel
theorem dX7_lay_4 : decode cX7_lay 4 = .ok (.aload_n 0, 1) := by decide +kernel
theorem dX7_lay_5 : decode cX7_lay 5 = .ok (.getfield 10, 3) := by decide +kernel
theorem dX7_lay_8 : decode cX7_lay 8 = .ok (.aload_n 0, 1) := by decide +kernel
theorem dX7_lay_9 : decode cX7_lay 9 = .ok (.getfield 19, 3) := by decide +kernel
theorem dX7_lay_12 : decode cX7_lay 12 = .ok (.invokevirtual 156, 3) := by decide +kernel
theorem dX7_lay_15 : decode cX7_lay 15 = .ok (.iconst (-1), 1) := by decide +kernel
theorem dX7_lay_16 : decode cX7_lay 16 = .ok (.if_icmp .eq 7, 3) := by decide +kernel
theorem dX7_lay_19 : decode cX7_lay 19 = .ok (.sipush (-1002), 3) := by decide +kernel
theorem dX7_lay_22 : decode cX7_lay 22 = .ok (.ireturn, 1) := by decide +kernel
theorem dX7_lay_23 : decode cX7_lay 23 = .ok (.aload_n 0, 1) := by decide +kernel
theorem dX7_lay_24 : decode cX7_lay 24 = .ok (.getfield 25, 3) := by decide +kernel
theorem dX7_lay_27 : decode cX7_lay 27 = .ok (.aload_n 0, 1) := by decide +kernel
theorem dX7_lay_28 : decode cX7_lay 28 = .ok (.getfield 10, 3) := by decide +kernel
theorem dX7_lay_31 : decode cX7_lay 31 = .ok (.invokevirtual 69, 3) := by decide +kernel
theorem dX7_lay_34 : decode cX7_lay 34 = .ok (.aload_n 0, 1) := by decide +kernel
theorem dX7_lay_35 : decode cX7_lay 35 = .ok (.getfield 10, 3) := by decide +kernel
theorem dX7_lay_38 : decode cX7_lay 38 = .ok (.aload_n 0, 1) := by decide +kernel
theorem dX7_lay_39 : decode cX7_lay 39 = .ok (.getfield 19, 3) := by decide +kernel
theorem dX7_lay_42 : decode cX7_lay 42 = .ok (.invokevirtual 150, 3) := by decide +kernel
theorem dX7_lay_45 : decode cX7_lay 45 = .ok (.aload_n 0, 1) := by decide +kernel
theorem dX7_lay_46 : decode cX7_lay 46 = .ok (.getfield 10, 3) := by decide +kernel
theorem dX7_lay_49 : decode cX7_lay 49 = .ok (.getfield 110, 3) := by decide +kernel
theorem dX7_lay_52 : decode cX7_lay 52 = .ok (.ireturn, 1) := by decide +kernel
theorem dX7_undo_0 : decode cX7_undo 0 = .ok (.aload_n 0, 1) := by decide +kernel
theorem dX7_undo_1 : decode cX7_undo 1 = .ok (.getfield 25, 3) := by decide +kernel
theorem dX7_undo_4 : decode cX7_undo 4 = .ok (.getfield 160, 3) := by decide +kernel
theorem dX7_undo_7 : decode cX7_undo 7 = .ok (.ifCond .ne 7, 3) := by decide +kernel
theorem dX7_undo_10 : decode cX7_undo 10 = .ok (.sipush (-1002), 3) := by decide +kernel
theorem dX7_undo_13 : decode cX7_undo 13 = .ok (.ireturn, 1) := by decide +kernel
theorem dX7_undo_14 : decode cX7_undo 14 = .ok (.aload_n 0, 1) := by decide +kernel
theorem dX7_undo_15 : decode cX7_undo 15 = .ok (.getfield 25, 3) := by decide +kernel
theorem dX7_undo_18 : decode cX7_undo 18 = .ok (.aload_n 0, 1) := by decide +kernel
theorem dX7_undo_19 : decode cX7_undo 19 = .ok (.getfield 10, 3) := by decide +kernel
theorem dX7_undo_22 : decode cX7_undo 22 = .ok (.invokevirtual 161, 3) := by decide +kernel
theorem dX7_undo_25 : decode cX7_undo 25 = .ok (.aload_n 0, 1) := by decide +kernel
theorem dX7_undo_26 : decode cX7_undo 26 = .ok (.getfield 25, 3) := by decide +kernel
theorem dX7_undo_29 : decode cX7_undo 29 = .ok (.getfield 160, 3) := by decide +kernel
theorem dX7_undo_32 : decode cX7_undo 32 = .ok (.ireturn, 1) := by decide +kernel
theorem dX7_count_0 : decode cX7_count 0 = .ok (.iload_n 1, 1) := by decide +kernel
theorem dX7_count_1 : decode cX7_count 1 = .ok (.tableswitch 75 0 4 #[35, 43, 51, 59, 67], 35) := by decide +kernel
theorem dX7_count_36 : decode cX7_count 36 = .ok (.aload_n 0, 1) := by decide +kernel
theorem dX7_count_37 : decode cX7_count 37 = .ok (.getfield 10, 3) := by decide +kernel
theorem dX7_count_40 : decode cX7_count 40 = .ok (.getfield 65, 3) := by decide +kernel
theorem dX7_count_43 : decode cX7_count 43 = .ok (.ireturn, 1) := by decide +kernel
theorem dX7_count_44 : decode cX7_count 44 = .ok (.aload_n 0, 1) := by decide +kernel
theorem dX7_count_45 : decode cX7_count 45 = .ok (.getfield 10, 3) := by decide +kernel
theorem dX7_count_48 : decode cX7_count 48 = .ok (.getfield 110, 3) := by decide +kernel
theorem dX7_count_51 : decode cX7_count 51 = .ok (.ireturn, 1) := by decide +kernel
theorem dX7_count_52 : decode cX7_count 52 = .ok (.aload_n 0, 1) := by decide +kernel
theorem dX7_count_53 : decode cX7_count 53 = .ok (.getfield 10, 3) := by decide +kernel
theorem dX7_count_56 : decode cX7_count 56 = .ok (.getfield 153, 3) := by decide +kernel
theorem dX7_count_59 : decode cX7_count 59 = .ok (.ireturn, 1) := by decide +kernel
theorem dX7_count_60 : decode cX7_count 60 = .ok (.aload_n 0, 1) := by decide +kernel
theorem dX7_count_61 : decode cX7_count 61 = .ok (.getfield 25, 3) := by decide +kernel
theorem dX7_count_64 : decode cX7_count 64 = .ok (.getfield 160, 3) := by decide +kernel
theorem dX7_count_67 : decode cX7_count 67 = .ok (.ireturn, 1) := by decide +kernel
theorem dX7_count_68 : decode cX7_count 68 = .ok (.aload_n 0, 1) := by decide +kernel
theorem dX7_count_69 : decode cX7_count 69 = .ok (.getfield 53, 3) := by decide +kernel
theorem dX7_count_72 : decode cX7_count 72 = .ok (.getfield 164, 3) := by decide +kernel
theorem dX7_count_75 : decode cX7_count 75 = .ok (.ireturn, 1) := by decide +kernel
theorem dX7_count_76 : decode cX7_count 76 = .ok (.sipush (-1001), 3) := by decide +kernel
theorem dX7_count_79 : decode cX7_count 79 = .ok (.ireturn, 1) := by decide +kernel
theorem dX7_sign_0 : decode cX7_sign 0 = .ok (.iload_n 1, 1) := by decide +kernel
theorem dX7_sign_1 : decode cX7_sign 1 = .ok (.iconst 0, 1) := by decide +kernel
theorem dX7_sign_2 : decode cX7_sign 2 = .ok (.aload_n 0, 1) := by decide +kernel
theorem dX7_sign_3 : decode cX7_sign 3 = .ok (.getfield 10, 3) := by decide +kernel
theorem dX7_sign_6 : decode cX7_sign 6 = .ok (.getfield 110, 3) := by decide +kernel
theorem dX7_sign_9 : decode cX7_sign 9 = .ok (.iconst 1, 1) := by decide +kernel
theorem dX7_sign_10 : decode cX7_sign 10 = .ok (.isub, 1) := by decide +kernel
theorem dX7_sign_11 : decode cX7_sign 11 = .ok (.invokestatic 61, 3) := by decide +kernel
theorem dX7_sign_14 : decode cX7_sign 14 = .ok (.ifCond .ne 7, 3) := by decide +kernel
theorem dX7_sign_17 : decode cX7_sign 17 = .ok (.sipush (-1001), 3) := by decide +kernel
theorem dX7_sign_20 : decode cX7_sign 20 = .ok (.ireturn, 1) := by decide +kernel
theorem dX7_sign_21 : decode cX7_sign 21 = .ok (.aload_n 0, 1) := by decide +kernel
theorem dX7_sign_22 : decode cX7_sign 22 = .ok (.getfield 10, 3) := by decide +kernel
theorem dX7_sign_25 : decode cX7_sign 25 = .ok (.iload_n 1, 1) := by decide +kernel
theorem dX7_sign_26 : decode cX7_sign 26 = .ok (.invokevirtual 125, 3) := by decide +kernel
theorem dX7_sign_29 : decode cX7_sign 29 = .ok (.istore_n 3, 1) := by decide +kernel
theorem dX7_sign_30 : decode cX7_sign 30 = .ok (.iload_n 3, 1) := by decide +kernel
theorem dX7_sign_31 : decode cX7_sign 31 = .ok (.invokestatic 165, 3) := by decide +kernel
theorem dX7_sign_34 : decode cX7_sign 34 = .ok (.istore 4, 2) := by decide +kernel
theorem dX7_sign_36 : decode cX7_sign 36 = .ok (.iload_n 2, 1) := by decide +kernel
theorem dX7_sign_37 : decode cX7_sign 37 = .ok (.tableswitch 114 0 6 #[43, 48, 53, 62, 65, 81, 97], 43) := by decide +kernel
theorem dX7_sign_80 : decode cX7_sign 80 = .ok (.iload_n 3, 1) := by decide +kernel
theorem dX7_sign_81 : decode cX7_sign 81 = .ok (.invokestatic 168, 3) := by decide +kernel
theorem dX7_sign_84 : decode cX7_sign 84 = .ok (.ireturn, 1) := by decide +kernel
theorem dX7_sign_85 : decode cX7_sign 85 = .ok (.iload_n 3, 1) := by decide +kernel
theorem dX7_sign_86 : decode cX7_sign 86 = .ok (.invokestatic 134, 3) := by decide +kernel
theorem dX7_sign_89 : decode cX7_sign 89 = .ok (.ireturn, 1) := by decide +kernel
theorem dX7_sign_90 : decode cX7_sign 90 = .ok (.aload_n 0, 1) := by decide +kernel
theorem dX7_sign_91 : decode cX7_sign 91 = .ok (.getfield 10, 3) := by decide +kernel
theorem dX7_sign_94 : decode cX7_sign 94 = .ok (.iload_n 1, 1) := by decide +kernel
theorem dX7_sign_95 : decode cX7_sign 95 = .ok (.invokevirtual 171, 3) := by decide +kernel
theorem dX7_sign_98 : decode cX7_sign 98 = .ok (.ireturn, 1) := by decide +kernel
theorem dX7_sign_99 : decode cX7_sign 99 = .ok (.iload 4, 2) := by decide +kernel
theorem dX7_sign_101 : decode cX7_sign 101 = .ok (.ireturn, 1) := by decide +kernel
theorem dX7_sign_102 : decode cX7_sign 102 = .ok (.iload 4, 2) := by decide +kernel
theorem dX7_sign_104 : decode cX7_sign 104 = .ok (.ifCond .ne 10, 3) := by decide +kernel
theorem dX7_sign_107 : decode cX7_sign 107 = .ok (.iload_n 3, 1) := by decide +kernel
theorem dX7_sign_108 : decode cX7_sign 108 = .ok (.invokestatic 174, 3) := by decide +kernel
theorem dX7_sign_111 : decode cX7_sign 111 = .ok (.goto 6, 3) := by decide +kernel
theorem dX7_sign_114 : decode cX7_sign 114 = .ok (.sipush (-1004), 3) := by decide +kernel
theorem dX7_sign_117 : decode cX7_sign 117 = .ok (.ireturn, 1) := by decide +kernel
theorem dX7_sign_118 : decode cX7_sign 118 = .ok (.iload 4, 2) := by decide +kernel
theorem dX7_sign_120 : decode cX7_sign 120 = .ok (.ifCond .ne 10, 3) := by decide +kernel
theorem dX7_sign_123 : decode cX7_sign 123 = .ok (.iload_n 3, 1) := by decide +kernel
theorem dX7_sign_124 : decode cX7_sign 124 = .ok (.invokestatic 177, 3) := by decide +kernel
theorem dX7_sign_127 : decode cX7_sign 127 = .ok (.goto 6, 3) := by decide +kernel
theorem dX7_sign_130 : decode cX7_sign 130 = .ok (.sipush (-1004), 3) := by decide +kernel
theorem dX7_sign_133 : decode cX7_sign 133 = .ok (.ireturn, 1) := by decide +kernel
theorem dX7_sign_134 : decode cX7_sign 134 = .ok (.iload 4, 2) := by decide +kernel
theorem dX7_sign_136 : decode cX7_sign 136 = .ok (.iconst 2, 1) := by decide +kernel
theorem dX7_sign_137 : decode cX7_sign 137 = .ok (.if_icmp .ne 10, 3) := by decide +kernel
theorem dX7_sign_140 : decode cX7_sign 140 = .ok (.iload_n 3, 1) := by decide +kernel
theorem dX7_sign_141 : decode cX7_sign 141 = .ok (.invokestatic 180, 3) := by decide +kernel
theorem dX7_sign_144 : decode cX7_sign 144 = .ok (.goto 6, 3) := by decide +kernel
theorem dX7_sign_147 : decode cX7_sign 147 = .ok (.sipush (-1004), 3) := by decide +kernel
theorem dX7_sign_150 : decode cX7_sign 150 = .ok (.ireturn, 1) := by decide +kernel
theorem dX7_sign_151 : decode cX7_sign 151 = .ok (.sipush (-1001), 3) := by decide +kernel
theorem dX7_sign_154 : decode cX7_sign 154 = .ok (.ireturn, 1) := by decide +kernel
theorem dX7_signAt_0 : decode cX7_signAt 0 = .ok (.iload_n 1, 1) := by decide +kernel
theorem dX7_signAt_1 : decode cX7_signAt 1 = .ok (.invokestatic 91, 3) := by decide +kernel
theorem dX7_signAt_4 : decode cX7_signAt 4 = .ok (.ifCond .eq 11, 3) := by decide +kernel
theorem dX7_signAt_7 : decode cX7_signAt 7 = .ok (.aload_n 0, 1) := by decide +kernel
theorem dX7_signAt_8 : decode cX7_signAt 8 = .ok (.iload_n 2, 1) := by decide +kernel
theorem dX7_signAt_9 : decode cX7_signAt 9 = .ok (.invokevirtual 95, 3) := by decide +kernel
theorem dX7_signAt_12 : decode cX7_signAt 12 = .ok (.ifCond .ne 7, 3) := by decide +kernel
theorem dX7_signAt_15 : decode cX7_signAt 15 = .ok (.sipush (-1001), 3) := by decide +kernel
theorem dX7_signAt_18 : decode cX7_signAt 18 = .ok (.ireturn, 1) := by decide +kernel
theorem dX7_signAt_19 : decode cX7_signAt 19 = .ok (.aload_n 0, 1) := by decide +kernel
theorem dX7_signAt_20 : decode cX7_signAt 20 = .ok (.getfield 10, 3) := by decide +kernel
theorem dX7_signAt_23 : decode cX7_signAt 23 = .ok (.iload_n 1, 1) := by decide +kernel
theorem dX7_signAt_24 : decode cX7_signAt 24 = .ok (.iload_n 2, 1) := by decide +kernel
theorem dX7_signAt_25 : decode cX7_signAt 25 = .ok (.invokevirtual 183, 3) := by decide +kernel
theorem dX7_signAt_28 : decode cX7_signAt 28 = .ok (.istore_n 3, 1) := by decide +kernel
theorem dX7_signAt_29 : decode cX7_signAt 29 = .ok (.iload_n 3, 1) := by decide +kernel
theorem dX7_signAt_30 : decode cX7_signAt 30 = .ok (.iconst (-1), 1) := by decide +kernel
theorem dX7_signAt_31 : decode cX7_signAt 31 = .ok (.if_icmp .ne 9, 3) := by decide +kernel
theorem dX7_signAt_34 : decode cX7_signAt 34 = .ok (.sipush (-1004), 3) := by decide +kernel
theorem dX7_signAt_37 : decode cX7_signAt 37 = .ok (.goto 4, 3) := by decide +kernel
theorem dX7_signAt_40 : decode cX7_signAt 40 = .ok (.iload_n 3, 1) := by decide +kernel
theorem dX7_signAt_41 : decode cX7_signAt 41 = .ok (.ireturn, 1) := by decide +kernel
theorem dX7_isFaulty_0 : decode cX7_isFaulty 0 = .ok (.aload_n 0, 1) := by decide +kernel
theorem dX7_isFaulty_1 : decode cX7_isFaulty 1 = .ok (.iload_n 1, 1) := by decide +kernel
theorem dX7_isFaulty_2 : decode cX7_isFaulty 2 = .ok (.invokevirtual 95, 3) := by decide +kernel
theorem dX7_isFaulty_5 : decode cX7_isFaulty 5 = .ok (.ifCond .ne 7, 3) := by decide +kernel
theorem dX7_isFaulty_8 : decode cX7_isFaulty 8 = .ok (.sipush (-1001), 3) := by decide +kernel
theorem dX7_isFaulty_11 : decode cX7_isFaulty 11 = .ok (.ireturn, 1) := by decide +kernel
theorem dX7_isFaulty_12 : decode cX7_isFaulty 12 = .ok (.aload_n 0, 1) := by decide +kernel
theorem dX7_isFaulty_13 : decode cX7_isFaulty 13 = .ok (.getfield 32, 3) := by decide +kernel
theorem dX7_isFaulty_16 : decode cX7_isFaulty 16 = .ok (.aload_n 0, 1) := by decide +kernel
theorem dX7_isFaulty_17 : decode cX7_isFaulty 17 = .ok (.getfield 10, 3) := by decide +kernel
theorem dX7_isFaulty_20 : decode cX7_isFaulty 20 = .ok (.invokevirtual 186, 3) := by decide +kernel
theorem dX7_isFaulty_23 : decode cX7_isFaulty 23 = .ok (.aload_n 0, 1) := by decide +kernel
theorem dX7_isFaulty_24 : decode cX7_isFaulty 24 = .ok (.getfield 32, 3) := by decide +kernel
theorem dX7_isFaulty_27 : decode cX7_isFaulty 27 = .ok (.iload_n 1, 1) := by decide +kernel
theorem dX7_isFaulty_28 : decode cX7_isFaulty 28 = .ok (.invokevirtual 195, 3) := by decide +kernel
theorem dX7_isFaulty_31 : decode cX7_isFaulty 31 = .ok (.ifCond .eq 7, 3) := by decide +kernel
theorem dX7_isFaulty_34 : decode cX7_isFaulty 34 = .ok (.iconst 1, 1) := by decide +kernel
theorem dX7_isFaulty_35 : decode cX7_isFaulty 35 = .ok (.goto 4, 3) := by decide +kernel
theorem dX7_isFaulty_38 : decode cX7_isFaulty 38 = .ok (.iconst 0, 1) := by decide +kernel
theorem dX7_isFaulty_39 : decode cX7_isFaulty 39 = .ok (.ireturn, 1) := by decide +kernel
theorem dX7_nextFault_0 : decode cX7_nextFault 0 = .ok (.aload_n 0, 1) := by decide +kernel
theorem dX7_nextFault_1 : decode cX7_nextFault 1 = .ok (.iload_n 1, 1) := by decide +kernel
theorem dX7_nextFault_2 : decode cX7_nextFault 2 = .ok (.invokevirtual 95, 3) := by decide +kernel
theorem dX7_nextFault_5 : decode cX7_nextFault 5 = .ok (.ifCond .ne 7, 3) := by decide +kernel
theorem dX7_nextFault_8 : decode cX7_nextFault 8 = .ok (.sipush (-1001), 3) := by decide +kernel
theorem dX7_nextFault_11 : decode cX7_nextFault 11 = .ok (.ireturn, 1) := by decide +kernel
theorem dX7_nextFault_12 : decode cX7_nextFault 12 = .ok (.aload_n 0, 1) := by decide +kernel
theorem dX7_nextFault_13 : decode cX7_nextFault 13 = .ok (.getfield 32, 3) := by decide +kernel
theorem dX7_nextFault_16 : decode cX7_nextFault 16 = .ok (.aload_n 0, 1) := by decide +kernel
theorem dX7_nextFault_17 : decode cX7_nextFault 17 = .ok (.getfield 10, 3) := by decide +kernel
theorem dX7_nextFault_20 : decode cX7_nextFault 20 = .ok (.invokevirtual 186, 3) := by decide +kernel
theorem dX7_nextFault_23 : decode cX7_nextFault 23 = .ok (.iload_n 1, 1) := by decide +kernel
theorem dX7_nextFault_24 : decode cX7_nextFault 24 = .ok (.istore_n 2, 1) := by decide +kernel
theorem dX7_nextFault_25 : decode cX7_nextFault 25 = .ok (.iload_n 2, 1) := by decide +kernel
theorem dX7_nextFault_26 : decode cX7_nextFault 26 = .ok (.aload_n 0, 1) := by decide +kernel
theorem dX7_nextFault_27 : decode cX7_nextFault 27 = .ok (.getfield 10, 3) := by decide +kernel
theorem dX7_nextFault_30 : decode cX7_nextFault 30 = .ok (.getfield 65, 3) := by decide +kernel
theorem dX7_nextFault_33 : decode cX7_nextFault 33 = .ok (.if_icmp .ge 22, 3) := by decide +kernel
theorem dX7_nextFault_36 : decode cX7_nextFault 36 = .ok (.aload_n 0, 1) := by decide +kernel
theorem dX7_nextFault_37 : decode cX7_nextFault 37 = .ok (.getfield 32, 3) := by decide +kernel
theorem dX7_nextFault_40 : decode cX7_nextFault 40 = .ok (.iload_n 2, 1) := by decide +kernel
theorem dX7_nextFault_41 : decode cX7_nextFault 41 = .ok (.invokevirtual 195, 3) := by decide +kernel
theorem dX7_nextFault_44 : decode cX7_nextFault 44 = .ok (.ifCond .eq 5, 3) := by decide +kernel
theorem dX7_nextFault_47 : decode cX7_nextFault 47 = .ok (.iload_n 2, 1) := by decide +kernel
theorem dX7_nextFault_48 : decode cX7_nextFault 48 = .ok (.ireturn, 1) := by decide +kernel
theorem dX7_nextFault_49 : decode cX7_nextFault 49 = .ok (.iinc 2 1, 3) := by decide +kernel
theorem dX7_nextFault_52 : decode cX7_nextFault 52 = .ok (.goto (-27), 3) := by decide +kernel
theorem dX7_nextFault_55 : decode cX7_nextFault 55 = .ok (.sipush (-1004), 3) := by decide +kernel
theorem dX7_nextFault_58 : decode cX7_nextFault 58 = .ok (.ireturn, 1) := by decide +kernel
theorem dX7_beats_0 : decode cX7_beats 0 = .ok (.iload_n 1, 1) := by decide +kernel
theorem dX7_beats_1 : decode cX7_beats 1 = .ok (.iconst 0, 1) := by decide +kernel
theorem dX7_beats_2 : decode cX7_beats 2 = .ok (.bipush 6, 2) := by decide +kernel
theorem dX7_beats_4 : decode cX7_beats 4 = .ok (.invokestatic 61, 3) := by decide +kernel
theorem dX7_beats_7 : decode cX7_beats 7 = .ok (.ifCond .ne 7, 3) := by decide +kernel
theorem dX7_beats_10 : decode cX7_beats 10 = .ok (.sipush (-1001), 3) := by decide +kernel
theorem dX7_beats_13 : decode cX7_beats 13 = .ok (.ireturn, 1) := by decide +kernel
theorem dX7_beats_14 : decode cX7_beats 14 = .ok (.aload_n 0, 1) := by decide +kernel
theorem dX7_beats_15 : decode cX7_beats 15 = .ok (.getfield 32, 3) := by decide +kernel
theorem dX7_beats_18 : decode cX7_beats 18 = .ok (.aload_n 0, 1) := by decide +kernel
theorem dX7_beats_19 : decode cX7_beats 19 = .ok (.getfield 10, 3) := by decide +kernel
theorem dX7_beats_22 : decode cX7_beats 22 = .ok (.invokevirtual 186, 3) := by decide +kernel
theorem dX7_beats_25 : decode cX7_beats 25 = .ok (.iload_n 1, 1) := by decide +kernel
theorem dX7_beats_26 : decode cX7_beats 26 = .ok (.lookupswitch 58 #[(0, 34), (5, 42), (6, 50)], 34) := by decide +kernel
theorem dX7_beats_60 : decode cX7_beats 60 = .ok (.aload_n 0, 1) := by decide +kernel
theorem dX7_beats_61 : decode cX7_beats 61 = .ok (.getfield 32, 3) := by decide +kernel
theorem dX7_beats_64 : decode cX7_beats 64 = .ok (.invokevirtual 198, 3) := by decide +kernel
theorem dX7_beats_67 : decode cX7_beats 67 = .ok (.ireturn, 1) := by decide +kernel
theorem dX7_beats_68 : decode cX7_beats 68 = .ok (.aload_n 0, 1) := by decide +kernel
theorem dX7_beats_69 : decode cX7_beats 69 = .ok (.getfield 32, 3) := by decide +kernel
theorem dX7_beats_72 : decode cX7_beats 72 = .ok (.invokevirtual 202, 3) := by decide +kernel
theorem dX7_beats_75 : decode cX7_beats 75 = .ok (.ireturn, 1) := by decide +kernel
theorem dX7_beats_76 : decode cX7_beats 76 = .ok (.aload_n 0, 1) := by decide +kernel
theorem dX7_beats_77 : decode cX7_beats 77 = .ok (.getfield 32, 3) := by decide +kernel
theorem dX7_beats_80 : decode cX7_beats 80 = .ok (.invokevirtual 205, 3) := by decide +kernel
theorem dX7_beats_83 : decode cX7_beats 83 = .ok (.ireturn, 1) := by decide +kernel
theorem dX7_beats_84 : decode cX7_beats 84 = .ok (.aload_n 0, 1) := by decide +kernel
theorem dX7_beats_85 : decode cX7_beats 85 = .ok (.getfield 32, 3) := by decide +kernel
theorem dX7_beats_88 : decode cX7_beats 88 = .ok (.iload_n 1, 1) := by decide +kernel
theorem dX7_beats_89 : decode cX7_beats 89 = .ok (.iconst 1, 1) := by decide +kernel
theorem dX7_beats_90 : decode cX7_beats 90 = .ok (.isub, 1) := by decide +kernel
theorem dX7_beats_91 : decode cX7_beats 91 = .ok (.invokevirtual 208, 3) := by decide +kernel
theorem dX7_beats_94 : decode cX7_beats 94 = .ok (.ireturn, 1) := by decide +kernel
theorem dX7_leastLeap_0 : decode cX7_leastLeap 0 = .ok (.aload_n 0, 1) := by decide +kernel
theorem dX7_leastLeap_1 : decode cX7_leastLeap 1 = .ok (.getfield 32, 3) := by decide +kernel
theorem dX7_leastLeap_4 : decode cX7_leastLeap 4 = .ok (.aload_n 0, 1) := by decide +kernel
theorem dX7_leastLeap_5 : decode cX7_leastLeap 5 = .ok (.getfield 10, 3) := by decide +kernel
theorem dX7_leastLeap_8 : decode cX7_leastLeap 8 = .ok (.invokevirtual 186, 3) := by decide +kernel
theorem dX7_leastLeap_11 : decode cX7_leastLeap 11 = .ok (.aload_n 0, 1) := by decide +kernel
theorem dX7_leastLeap_12 : decode cX7_leastLeap 12 = .ok (.getfield 32, 3) := by decide +kernel
theorem dX7_leastLeap_15 : decode cX7_leastLeap 15 = .ok (.invokevirtual 211, 3) := by decide +kernel
theorem dX7_leastLeap_18 : decode cX7_leastLeap 18 = .ok (.ifCond .eq 9, 3) := by decide +kernel
theorem dX7_leastLeap_21 : decode cX7_leastLeap 21 = .ok (.sipush (-1004), 3) := by decide +kernel
theorem dX7_leastLeap_24 : decode cX7_leastLeap 24 = .ok (.goto 10, 3) := by decide +kernel
theorem dX7_leastLeap_27 : decode cX7_leastLeap 27 = .ok (.aload_n 0, 1) := by decide +kernel
theorem dX7_leastLeap_28 : decode cX7_leastLeap 28 = .ok (.getfield 32, 3) := by decide +kernel
theorem dX7_leastLeap_31 : decode cX7_leastLeap 31 = .ok (.invokevirtual 202, 3) := by decide +kernel
theorem dX7_leastLeap_34 : decode cX7_leastLeap 34 = .ok (.ireturn, 1) := by decide +kernel
theorem dX7_covered_0 : decode cX7_covered 0 = .ok (.iload_n 1, 1) := by decide +kernel
theorem dX7_covered_1 : decode cX7_covered 1 = .ok (.invokestatic 91, 3) := by decide +kernel
theorem dX7_covered_4 : decode cX7_covered 4 = .ok (.ifCond .eq 12, 3) := by decide +kernel
theorem dX7_covered_7 : decode cX7_covered 7 = .ok (.iload_n 2, 1) := by decide +kernel
theorem dX7_covered_8 : decode cX7_covered 8 = .ok (.iconst (-1), 1) := by decide +kernel
theorem dX7_covered_9 : decode cX7_covered 9 = .ok (.iconst 3, 1) := by decide +kernel
theorem dX7_covered_10 : decode cX7_covered 10 = .ok (.invokestatic 61, 3) := by decide +kernel
theorem dX7_covered_13 : decode cX7_covered 13 = .ok (.ifCond .ne 7, 3) := by decide +kernel
theorem dX7_covered_16 : decode cX7_covered 16 = .ok (.sipush (-1001), 3) := by decide +kernel
theorem dX7_covered_19 : decode cX7_covered 19 = .ok (.ireturn, 1) := by decide +kernel
theorem dX7_covered_20 : decode cX7_covered 20 = .ok (.aload_n 0, 1) := by decide +kernel
theorem dX7_covered_21 : decode cX7_covered 21 = .ok (.getfield 10, 3) := by decide +kernel
theorem dX7_covered_24 : decode cX7_covered 24 = .ok (.iload_n 1, 1) := by decide +kernel
theorem dX7_covered_25 : decode cX7_covered 25 = .ok (.aload_n 0, 1) := by decide +kernel
theorem dX7_covered_26 : decode cX7_covered 26 = .ok (.getfield 57, 3) := by decide +kernel
theorem dX7_covered_29 : decode cX7_covered 29 = .ok (.invokevirtual 214, 3) := by decide +kernel
theorem dX7_covered_32 : decode cX7_covered 32 = .ok (.iconst 0, 1) := by decide +kernel
theorem dX7_covered_33 : decode cX7_covered 33 = .ok (.istore_n 3, 1) := by decide +kernel
theorem dX7_covered_34 : decode cX7_covered 34 = .ok (.iconst 0, 1) := by decide +kernel
theorem dX7_covered_35 : decode cX7_covered 35 = .ok (.istore 4, 2) := by decide +kernel
theorem dX7_covered_37 : decode cX7_covered 37 = .ok (.iload 4, 2) := by decide +kernel
theorem dX7_covered_39 : decode cX7_covered 39 = .ok (.aload_n 0, 1) := by decide +kernel
theorem dX7_covered_40 : decode cX7_covered 40 = .ok (.getfield 10, 3) := by decide +kernel
theorem dX7_covered_43 : decode cX7_covered 43 = .ok (.getfield 65, 3) := by decide +kernel
theorem dX7_covered_46 : decode cX7_covered 46 = .ok (.if_icmp .ge 41, 3) := by decide +kernel
theorem dX7_covered_49 : decode cX7_covered 49 = .ok (.aload_n 0, 1) := by decide +kernel
theorem dX7_covered_50 : decode cX7_covered 50 = .ok (.getfield 57, 3) := by decide +kernel
theorem dX7_covered_53 : decode cX7_covered 53 = .ok (.iload 4, 2) := by decide +kernel
theorem dX7_covered_55 : decode cX7_covered 55 = .ok (.iaload, 1) := by decide +kernel
theorem dX7_covered_56 : decode cX7_covered 56 = .ok (.istore 5, 2) := by decide +kernel
theorem dX7_covered_58 : decode cX7_covered 58 = .ok (.iload 5, 2) := by decide +kernel
theorem dX7_covered_60 : decode cX7_covered 60 = .ok (.iconst (-1), 1) := by decide +kernel
theorem dX7_covered_61 : decode cX7_covered 61 = .ok (.if_icmp .eq 20, 3) := by decide +kernel
theorem dX7_covered_64 : decode cX7_covered 64 = .ok (.iload_n 2, 1) := by decide +kernel
theorem dX7_covered_65 : decode cX7_covered 65 = .ok (.iconst (-1), 1) := by decide +kernel
theorem dX7_covered_66 : decode cX7_covered 66 = .ok (.if_icmp .eq 12, 3) := by decide +kernel
theorem dX7_covered_69 : decode cX7_covered 69 = .ok (.iload 5, 2) := by decide +kernel
theorem dX7_covered_71 : decode cX7_covered 71 = .ok (.invokestatic 165, 3) := by decide +kernel
theorem dX7_covered_74 : decode cX7_covered 74 = .ok (.iload_n 2, 1) := by decide +kernel
theorem dX7_covered_75 : decode cX7_covered 75 = .ok (.if_icmp .ne 6, 3) := by decide +kernel
theorem dX7_covered_78 : decode cX7_covered 78 = .ok (.iinc 3 1, 3) := by decide +kernel
theorem dX7_covered_81 : decode cX7_covered 81 = .ok (.iinc 4 1, 3) := by decide +kernel
theorem dX7_covered_84 : decode cX7_covered 84 = .ok (.goto (-47), 3) := by decide +kernel
theorem dX7_covered_87 : decode cX7_covered 87 = .ok (.iload_n 3, 1) := by decide +kernel
theorem dX7_covered_88 : decode cX7_covered 88 = .ok (.ireturn, 1) := by decide +kernel
theorem dX7_floor_0 : decode cX7_floor 0 = .ok (.iload_n 1, 1) := by decide +kernel
theorem dX7_floor_1 : decode cX7_floor 1 = .ok (.iconst 0, 1) := by decide +kernel
theorem dX7_floor_2 : decode cX7_floor 2 = .ok (.aload_n 0, 1) := by decide +kernel
theorem dX7_floor_3 : decode cX7_floor 3 = .ok (.getfield 10, 3) := by decide +kernel
theorem dX7_floor_6 : decode cX7_floor 6 = .ok (.getfield 65, 3) := by decide +kernel
theorem dX7_floor_9 : decode cX7_floor 9 = .ok (.invokestatic 61, 3) := by decide +kernel
theorem dX7_floor_12 : decode cX7_floor 12 = .ok (.ifCond .eq 12, 3) := by decide +kernel
theorem dX7_floor_15 : decode cX7_floor 15 = .ok (.iload_n 2, 1) := by decide +kernel
theorem dX7_floor_16 : decode cX7_floor 16 = .ok (.iconst 0, 1) := by decide +kernel
theorem dX7_floor_17 : decode cX7_floor 17 = .ok (.iconst 2, 1) := by decide +kernel
theorem dX7_floor_18 : decode cX7_floor 18 = .ok (.invokestatic 61, 3) := by decide +kernel
theorem dX7_floor_21 : decode cX7_floor 21 = .ok (.ifCond .ne 7, 3) := by decide +kernel
theorem dX7_floor_24 : decode cX7_floor 24 = .ok (.sipush (-1001), 3) := by decide +kernel
theorem dX7_floor_27 : decode cX7_floor 27 = .ok (.ireturn, 1) := by decide +kernel
theorem dX7_floor_28 : decode cX7_floor 28 = .ok (.aload_n 0, 1) := by decide +kernel
theorem dX7_floor_29 : decode cX7_floor 29 = .ok (.getfield 39, 3) := by decide +kernel
theorem dX7_floor_32 : decode cX7_floor 32 = .ok (.aload_n 0, 1) := by decide +kernel
theorem dX7_floor_33 : decode cX7_floor 33 = .ok (.getfield 10, 3) := by decide +kernel
theorem dX7_floor_36 : decode cX7_floor 36 = .ok (.invokevirtual 218, 3) := by decide +kernel
theorem dX7_floor_39 : decode cX7_floor 39 = .ok (.iload_n 2, 1) := by decide +kernel
theorem dX7_floor_40 : decode cX7_floor 40 = .ok (.iconst 2, 1) := by decide +kernel
theorem dX7_floor_41 : decode cX7_floor 41 = .ok (.if_icmp .ne 13, 3) := by decide +kernel
theorem dX7_floor_44 : decode cX7_floor 44 = .ok (.aload_n 0, 1) := by decide +kernel
theorem dX7_floor_45 : decode cX7_floor 45 = .ok (.getfield 39, 3) := by decide +kernel
theorem dX7_floor_48 : decode cX7_floor 48 = .ok (.getfield 221, 3) := by decide +kernel
theorem dX7_floor_51 : decode cX7_floor 51 = .ok (.iload_n 1, 1) := by decide +kernel
theorem dX7_floor_52 : decode cX7_floor 52 = .ok (.iaload, 1) := by decide +kernel
theorem dX7_floor_53 : decode cX7_floor 53 = .ok (.ireturn, 1) := by decide +kernel
theorem dX7_floor_54 : decode cX7_floor 54 = .ok (.iload_n 2, 1) := by decide +kernel
theorem dX7_floor_55 : decode cX7_floor 55 = .ok (.ifCond .ne 15, 3) := by decide +kernel
theorem dX7_floor_58 : decode cX7_floor 58 = .ok (.aload_n 0, 1) := by decide +kernel
theorem dX7_floor_59 : decode cX7_floor 59 = .ok (.getfield 39, 3) := by decide +kernel
theorem dX7_floor_62 : decode cX7_floor 62 = .ok (.getfield 224, 3) := by decide +kernel
theorem dX7_floor_65 : decode cX7_floor 65 = .ok (.iload_n 1, 1) := by decide +kernel
theorem dX7_floor_66 : decode cX7_floor 66 = .ok (.iaload, 1) := by decide +kernel
theorem dX7_floor_67 : decode cX7_floor 67 = .ok (.goto 12, 3) := by decide +kernel
theorem dX7_floor_70 : decode cX7_floor 70 = .ok (.aload_n 0, 1) := by decide +kernel
theorem dX7_floor_71 : decode cX7_floor 71 = .ok (.getfield 39, 3) := by decide +kernel
theorem dX7_floor_74 : decode cX7_floor 74 = .ok (.getfield 227, 3) := by decide +kernel
theorem dX7_floor_77 : decode cX7_floor 77 = .ok (.iload_n 1, 1) := by decide +kernel
theorem dX7_floor_78 : decode cX7_floor 78 = .ok (.iaload, 1) := by decide +kernel
theorem dX7_floor_79 : decode cX7_floor 79 = .ok (.ireturn, 1) := by decide +kernel
theorem dX7_farthest_0 : decode cX7_farthest 0 = .ok (.aload_n 0, 1) := by decide +kernel
theorem dX7_farthest_1 : decode cX7_farthest 1 = .ok (.getfield 39, 3) := by decide +kernel
theorem dX7_farthest_4 : decode cX7_farthest 4 = .ok (.aload_n 0, 1) := by decide +kernel
theorem dX7_farthest_5 : decode cX7_farthest 5 = .ok (.getfield 10, 3) := by decide +kernel
theorem dX7_farthest_8 : decode cX7_farthest 8 = .ok (.invokevirtual 218, 3) := by decide +kernel
theorem dX7_farthest_11 : decode cX7_farthest 11 = .ok (.iconst 0, 1) := by decide +kernel
theorem dX7_farthest_12 : decode cX7_farthest 12 = .ok (.istore_n 1, 1) := by decide +kernel
theorem dX7_farthest_13 : decode cX7_farthest 13 = .ok (.iconst 0, 1) := by decide +kernel
theorem dX7_farthest_14 : decode cX7_farthest 14 = .ok (.istore_n 2, 1) := by decide +kernel
theorem dX7_farthest_15 : decode cX7_farthest 15 = .ok (.iload_n 2, 1) := by decide +kernel
theorem dX7_farthest_16 : decode cX7_farthest 16 = .ok (.aload_n 0, 1) := by decide +kernel
theorem dX7_farthest_17 : decode cX7_farthest 17 = .ok (.getfield 10, 3) := by decide +kernel
theorem dX7_farthest_20 : decode cX7_farthest 20 = .ok (.getfield 65, 3) := by decide +kernel
theorem dX7_farthest_23 : decode cX7_farthest 23 = .ok (.if_icmp .gt 22, 3) := by decide +kernel
theorem dX7_farthest_26 : decode cX7_farthest 26 = .ok (.iload_n 1, 1) := by decide +kernel
theorem dX7_farthest_27 : decode cX7_farthest 27 = .ok (.aload_n 0, 1) := by decide +kernel
theorem dX7_farthest_28 : decode cX7_farthest 28 = .ok (.getfield 39, 3) := by decide +kernel
theorem dX7_farthest_31 : decode cX7_farthest 31 = .ok (.iload_n 2, 1) := by decide +kernel
theorem dX7_farthest_32 : decode cX7_farthest 32 = .ok (.invokevirtual 230, 3) := by decide +kernel
theorem dX7_farthest_35 : decode cX7_farthest 35 = .ok (.invokestatic 233, 3) := by decide +kernel
theorem dX7_farthest_38 : decode cX7_farthest 38 = .ok (.istore_n 1, 1) := by decide +kernel
theorem dX7_farthest_39 : decode cX7_farthest 39 = .ok (.iinc 2 1, 3) := by decide +kernel
theorem dX7_farthest_42 : decode cX7_farthest 42 = .ok (.goto (-27), 3) := by decide +kernel
theorem dX7_farthest_45 : decode cX7_farthest 45 = .ok (.iload_n 1, 1) := by decide +kernel
theorem dX7_farthest_46 : decode cX7_farthest 46 = .ok (.ireturn, 1) := by decide +kernel
theorem dX7_alike_0 : decode cX7_alike 0 = .ok (.aload_n 0, 1) := by decide +kernel
theorem dX7_alike_1 : decode cX7_alike 1 = .ok (.iload_n 1, 1) := by decide +kernel
theorem dX7_alike_2 : decode cX7_alike 2 = .ok (.iload_n 2, 1) := by decide +kernel
theorem dX7_alike_3 : decode cX7_alike 3 = .ok (.invokevirtual 116, 3) := by decide +kernel
theorem dX7_alike_6 : decode cX7_alike 6 = .ok (.ifCond .eq 30, 3) := by decide +kernel
theorem dX7_alike_9 : decode cX7_alike 9 = .ok (.iload_n 3, 1) := by decide +kernel
theorem dX7_alike_10 : decode cX7_alike 10 = .ok (.iconst 0, 1) := by decide +kernel
theorem dX7_alike_11 : decode cX7_alike 11 = .ok (.aload_n 0, 1) := by decide +kernel
theorem dX7_alike_12 : decode cX7_alike 12 = .ok (.getfield 10, 3) := by decide +kernel
theorem dX7_alike_15 : decode cX7_alike 15 = .ok (.getfield 65, 3) := by decide +kernel
theorem dX7_alike_18 : decode cX7_alike 18 = .ok (.iload_n 2, 1) := by decide +kernel
theorem dX7_alike_19 : decode cX7_alike 19 = .ok (.iload_n 1, 1) := by decide +kernel
theorem dX7_alike_20 : decode cX7_alike 20 = .ok (.isub, 1) := by decide +kernel
theorem dX7_alike_21 : decode cX7_alike 21 = .ok (.isub, 1) := by decide +kernel
theorem dX7_alike_22 : decode cX7_alike 22 = .ok (.invokestatic 61, 3) := by decide +kernel
theorem dX7_alike_25 : decode cX7_alike 25 = .ok (.ifCond .eq 11, 3) := by decide +kernel
theorem dX7_alike_28 : decode cX7_alike 28 = .ok (.iload 4, 2) := by decide +kernel
theorem dX7_alike_30 : decode cX7_alike 30 = .ok (.invokestatic 119, 3) := by decide +kernel
theorem dX7_alike_33 : decode cX7_alike 33 = .ok (.ifCond .ne 7, 3) := by decide +kernel
theorem dX7_alike_36 : decode cX7_alike 36 = .ok (.sipush (-1001), 3) := by decide +kernel
theorem dX7_alike_39 : decode cX7_alike 39 = .ok (.ireturn, 1) := by decide +kernel
theorem dX7_alike_40 : decode cX7_alike 40 = .ok (.aload_n 0, 1) := by decide +kernel
theorem dX7_alike_41 : decode cX7_alike 41 = .ok (.getfield 46, 3) := by decide +kernel
theorem dX7_alike_44 : decode cX7_alike 44 = .ok (.invokevirtual 238, 3) := by decide +kernel
theorem dX7_alike_47 : decode cX7_alike 47 = .ok (.iconst 0, 1) := by decide +kernel
theorem dX7_alike_48 : decode cX7_alike 48 = .ok (.istore 5, 2) := by decide +kernel
theorem dX7_alike_50 : decode cX7_alike 50 = .ok (.iload 5, 2) := by decide +kernel
theorem dX7_alike_52 : decode cX7_alike 52 = .ok (.bipush 7, 2) := by decide +kernel
theorem dX7_alike_54 : decode cX7_alike 54 = .ok (.if_icmp .ge 35, 3) := by decide +kernel
theorem dX7_alike_57 : decode cX7_alike 57 = .ok (.aload_n 0, 1) := by decide +kernel
theorem dX7_alike_58 : decode cX7_alike 58 = .ok (.getfield 46, 3) := by decide +kernel
theorem dX7_alike_61 : decode cX7_alike 61 = .ok (.aload_n 0, 1) := by decide +kernel
theorem dX7_alike_62 : decode cX7_alike 62 = .ok (.getfield 10, 3) := by decide +kernel
theorem dX7_alike_65 : decode cX7_alike 65 = .ok (.iload 5, 2) := by decide +kernel
theorem dX7_alike_67 : decode cX7_alike 67 = .ok (.iload_n 1, 1) := by decide +kernel
theorem dX7_alike_68 : decode cX7_alike 68 = .ok (.iload_n 3, 1) := by decide +kernel
theorem dX7_alike_69 : decode cX7_alike 69 = .ok (.iload 4, 2) := by decide +kernel
theorem dX7_alike_71 : decode cX7_alike 71 = .ok (.iconst 1, 1) := by decide +kernel
theorem dX7_alike_72 : decode cX7_alike 72 = .ok (.if_icmp .ne 7, 3) := by decide +kernel
theorem dX7_alike_75 : decode cX7_alike 75 = .ok (.iconst 1, 1) := by decide +kernel
theorem dX7_alike_76 : decode cX7_alike 76 = .ok (.goto 4, 3) := by decide +kernel
theorem dX7_alike_79 : decode cX7_alike 79 = .ok (.iconst 0, 1) := by decide +kernel
theorem dX7_alike_80 : decode cX7_alike 80 = .ok (.invokevirtual 241, 3) := by decide +kernel
theorem dX7_alike_83 : decode cX7_alike 83 = .ok (.iinc 5 1, 3) := by decide +kernel
theorem dX7_alike_86 : decode cX7_alike 86 = .ok (.goto (-36), 3) := by decide +kernel
theorem dX7_alike_89 : decode cX7_alike 89 = .ok (.aload_n 0, 1) := by decide +kernel
theorem dX7_alike_90 : decode cX7_alike 90 = .ok (.getfield 46, 3) := by decide +kernel
theorem dX7_alike_93 : decode cX7_alike 93 = .ok (.iload_n 2, 1) := by decide +kernel
theorem dX7_alike_94 : decode cX7_alike 94 = .ok (.iload_n 1, 1) := by decide +kernel
theorem dX7_alike_95 : decode cX7_alike 95 = .ok (.isub, 1) := by decide +kernel
theorem dX7_alike_96 : decode cX7_alike 96 = .ok (.invokevirtual 245, 3) := by decide +kernel
theorem dX7_alike_99 : decode cX7_alike 99 = .ok (.ireturn, 1) := by decide +kernel
theorem dX7_type_0 : decode cX7_type 0 = .ok (.iload_n 1, 1) := by decide +kernel
theorem dX7_type_1 : decode cX7_type 1 = .ok (.bipush 32, 2) := by decide +kernel
theorem dX7_type_3 : decode cX7_type 3 = .ok (.bipush 126, 2) := by decide +kernel
theorem dX7_type_5 : decode cX7_type 5 = .ok (.invokestatic 61, 3) := by decide +kernel
theorem dX7_type_8 : decode cX7_type 8 = .ok (.ifCond .ne 7, 3) := by decide +kernel
theorem dX7_type_11 : decode cX7_type 11 = .ok (.sipush (-1001), 3) := by decide +kernel
theorem dX7_type_14 : decode cX7_type 14 = .ok (.ireturn, 1) := by decide +kernel
theorem dX7_type_15 : decode cX7_type 15 = .ok (.aload_n 0, 1) := by decide +kernel
theorem dX7_type_16 : decode cX7_type 16 = .ok (.getfield 53, 3) := by decide +kernel
theorem dX7_type_19 : decode cX7_type 19 = .ok (.getfield 164, 3) := by decide +kernel
theorem dX7_type_22 : decode cX7_type 22 = .ok (.bipush 120, 2) := by decide +kernel
theorem dX7_type_24 : decode cX7_type 24 = .ok (.if_icmp .lt 7, 3) := by decide +kernel
theorem dX7_type_27 : decode cX7_type 27 = .ok (.sipush (-1003), 3) := by decide +kernel
theorem dX7_type_30 : decode cX7_type 30 = .ok (.ireturn, 1) := by decide +kernel
theorem dX7_type_31 : decode cX7_type 31 = .ok (.aload_n 0, 1) := by decide +kernel
theorem dX7_type_32 : decode cX7_type 32 = .ok (.getfield 53, 3) := by decide +kernel
theorem dX7_type_35 : decode cX7_type 35 = .ok (.iload_n 1, 1) := by decide +kernel
theorem dX7_type_36 : decode cX7_type 36 = .ok (.invokevirtual 248, 3) := by decide +kernel
theorem dX7_type_39 : decode cX7_type 39 = .ok (.aload_n 0, 1) := by decide +kernel
theorem dX7_type_40 : decode cX7_type 40 = .ok (.getfield 53, 3) := by decide +kernel
theorem dX7_type_43 : decode cX7_type 43 = .ok (.getfield 164, 3) := by decide +kernel
theorem dX7_type_46 : decode cX7_type 46 = .ok (.ireturn, 1) := by decide +kernel
theorem dX7_clearText_0 : decode cX7_clearText 0 = .ok (.aload_n 0, 1) := by decide +kernel
theorem dX7_clearText_1 : decode cX7_clearText 1 = .ok (.getfield 53, 3) := by decide +kernel
theorem dX7_clearText_4 : decode cX7_clearText 4 = .ok (.getfield 164, 3) := by decide +kernel
theorem dX7_clearText_7 : decode cX7_clearText 7 = .ok (.istore_n 1, 1) := by decide +kernel
theorem dX7_clearText_8 : decode cX7_clearText 8 = .ok (.aload_n 0, 1) := by decide +kernel
theorem dX7_clearText_9 : decode cX7_clearText 9 = .ok (.getfield 53, 3) := by decide +kernel
theorem dX7_clearText_12 : decode cX7_clearText 12 = .ok (.iconst 0, 1) := by decide +kernel
theorem dX7_clearText_13 : decode cX7_clearText 13 = .ok (.putfield 164, 3) := by decide +kernel
theorem dX7_clearText_16 : decode cX7_clearText 16 = .ok (.iload_n 1, 1) := by decide +kernel
theorem dX7_clearText_17 : decode cX7_clearText 17 = .ok (.ireturn, 1) := by decide +kernel
theorem dX7_fault_0 : decode cX7_fault 0 = .ok (.aload_n 0, 1) := by decide +kernel
theorem dX7_fault_1 : decode cX7_fault 1 = .ok (.getfield 53, 3) := by decide +kernel
theorem dX7_fault_4 : decode cX7_fault 4 = .ok (.aload_n 0, 1) := by decide +kernel
theorem dX7_fault_5 : decode cX7_fault 5 = .ok (.getfield 10, 3) := by decide +kernel
theorem dX7_fault_8 : decode cX7_fault 8 = .ok (.aload_n 0, 1) := by decide +kernel
theorem dX7_fault_9 : decode cX7_fault 9 = .ok (.getfield 19, 3) := by decide +kernel
theorem dX7_fault_12 : decode cX7_fault 12 = .ok (.invokevirtual 156, 3) := by decide +kernel
theorem dX7_fault_15 : decode cX7_fault 15 = .ok (.istore_n 1, 1) := by decide +kernel
theorem dX7_fault_16 : decode cX7_fault 16 = .ok (.iload_n 1, 1) := by decide +kernel
theorem dX7_fault_17 : decode cX7_fault 17 = .ok (.iconst (-1), 1) := by decide +kernel
theorem dX7_fault_18 : decode cX7_fault 18 = .ok (.if_icmp .ne 9, 3) := by decide +kernel
theorem dX7_fault_21 : decode cX7_fault 21 = .ok (.sipush (-1004), 3) := by decide +kernel
theorem dX7_fault_24 : decode cX7_fault 24 = .ok (.goto 4, 3) := by decide +kernel
theorem dX7_fault_27 : decode cX7_fault 27 = .ok (.iload_n 1, 1) := by decide +kernel
theorem dX7_fault_28 : decode cX7_fault 28 = .ok (.ireturn, 1) := by decide +kernel
theorem dX7_isWithin_0 : decode cX7_isWithin 0 = .ok (.iload_n 0, 1) := by decide +kernel
theorem dX7_isWithin_1 : decode cX7_isWithin 1 = .ok (.iload_n 1, 1) := by decide +kernel
theorem dX7_isWithin_2 : decode cX7_isWithin 2 = .ok (.if_icmp .lt 12, 3) := by decide +kernel
theorem dX7_isWithin_5 : decode cX7_isWithin 5 = .ok (.iload_n 0, 1) := by decide +kernel
theorem dX7_isWithin_6 : decode cX7_isWithin 6 = .ok (.iload_n 2, 1) := by decide +kernel
theorem dX7_isWithin_7 : decode cX7_isWithin 7 = .ok (.if_icmp .gt 7, 3) := by decide +kernel
theorem dX7_isWithin_10 : decode cX7_isWithin 10 = .ok (.iconst 1, 1) := by decide +kernel
theorem dX7_isWithin_11 : decode cX7_isWithin 11 = .ok (.goto 4, 3) := by decide +kernel
theorem dX7_isWithin_14 : decode cX7_isWithin 14 = .ok (.iconst 0, 1) := by decide +kernel
theorem dX7_isWithin_15 : decode cX7_isWithin 15 = .ok (.ireturn, 1) := by decide +kernel
theorem dX7_isFlag_0 : decode cX7_isFlag 0 = .ok (.iload_n 0, 1) := by decide +kernel
theorem dX7_isFlag_1 : decode cX7_isFlag 1 = .ok (.iconst 0, 1) := by decide +kernel
theorem dX7_isFlag_2 : decode cX7_isFlag 2 = .ok (.iconst 1, 1) := by decide +kernel
theorem dX7_isFlag_3 : decode cX7_isFlag 3 = .ok (.invokestatic 61, 3) := by decide +kernel
theorem dX7_isFlag_6 : decode cX7_isFlag 6 = .ok (.ireturn, 1) := by decide +kernel
theorem dX7_isColumn_0 : decode cX7_isColumn 0 = .ok (.iload_n 0, 1) := by decide +kernel
theorem dX7_isColumn_1 : decode cX7_isColumn 1 = .ok (.iconst 0, 1) := by decide +kernel
theorem dX7_isColumn_2 : decode cX7_isColumn 2 = .ok (.bipush 6, 2) := by decide +kernel
theorem dX7_isColumn_4 : decode cX7_isColumn 4 = .ok (.invokestatic 61, 3) := by decide +kernel
theorem dX7_isColumn_7 : decode cX7_isColumn 7 = .ok (.ireturn, 1) := by decide +kernel
theorem dX7_isBeat_0 : decode cX7_isBeat 0 = .ok (.iload_n 1, 1) := by decide +kernel
theorem dX7_isBeat_1 : decode cX7_isBeat 1 = .ok (.iconst 0, 1) := by decide +kernel
theorem dX7_isBeat_2 : decode cX7_isBeat 2 = .ok (.aload_n 0, 1) := by decide +kernel
theorem dX7_isBeat_3 : decode cX7_isBeat 3 = .ok (.getfield 10, 3) := by decide +kernel
theorem dX7_isBeat_6 : decode cX7_isBeat 6 = .ok (.getfield 65, 3) := by decide +kernel
theorem dX7_isBeat_9 : decode cX7_isBeat 9 = .ok (.iconst 1, 1) := by decide +kernel
theorem dX7_isBeat_10 : decode cX7_isBeat 10 = .ok (.isub, 1) := by decide +kernel
theorem dX7_isBeat_11 : decode cX7_isBeat 11 = .ok (.invokestatic 61, 3) := by decide +kernel
theorem dX7_isBeat_14 : decode cX7_isBeat 14 = .ok (.ireturn, 1) := by decide +kernel
theorem dX7_isSpan_0 : decode cX7_isSpan 0 = .ok (.aload_n 0, 1) := by decide +kernel
theorem dX7_isSpan_1 : decode cX7_isSpan 1 = .ok (.iload_n 1, 1) := by decide +kernel
theorem dX7_isSpan_2 : decode cX7_isSpan 2 = .ok (.invokevirtual 95, 3) := by decide +kernel
theorem dX7_isSpan_5 : decode cX7_isSpan 5 = .ok (.ifCond .eq 24, 3) := by decide +kernel
theorem dX7_isSpan_8 : decode cX7_isSpan 8 = .ok (.iload_n 2, 1) := by decide +kernel
theorem dX7_isSpan_9 : decode cX7_isSpan 9 = .ok (.iconst 1, 1) := by decide +kernel
theorem dX7_isSpan_10 : decode cX7_isSpan 10 = .ok (.aload_n 0, 1) := by decide +kernel
theorem dX7_isSpan_11 : decode cX7_isSpan 11 = .ok (.getfield 10, 3) := by decide +kernel
theorem dX7_isSpan_14 : decode cX7_isSpan 14 = .ok (.getfield 65, 3) := by decide +kernel
theorem dX7_isSpan_17 : decode cX7_isSpan 17 = .ok (.iload_n 1, 1) := by decide +kernel
theorem dX7_isSpan_18 : decode cX7_isSpan 18 = .ok (.isub, 1) := by decide +kernel
theorem dX7_isSpan_19 : decode cX7_isSpan 19 = .ok (.invokestatic 61, 3) := by decide +kernel
theorem dX7_isSpan_22 : decode cX7_isSpan 22 = .ok (.ifCond .eq 7, 3) := by decide +kernel
theorem dX7_isSpan_25 : decode cX7_isSpan 25 = .ok (.iconst 1, 1) := by decide +kernel
theorem dX7_isSpan_26 : decode cX7_isSpan 26 = .ok (.goto 4, 3) := by decide +kernel
theorem dX7_isSpan_29 : decode cX7_isSpan 29 = .ok (.iconst 0, 1) := by decide +kernel
theorem dX7_isSpan_30 : decode cX7_isSpan 30 = .ok (.ireturn, 1) := by decide +kernel
theorem dX7_isPhrase_0 : decode cX7_isPhrase 0 = .ok (.aload_n 0, 1) := by decide +kernel
theorem dX7_isPhrase_1 : decode cX7_isPhrase 1 = .ok (.iload_n 1, 1) := by decide +kernel
theorem dX7_isPhrase_2 : decode cX7_isPhrase 2 = .ok (.invokevirtual 95, 3) := by decide +kernel
theorem dX7_isPhrase_5 : decode cX7_isPhrase 5 = .ok (.ifCond .eq 24, 3) := by decide +kernel
theorem dX7_isPhrase_8 : decode cX7_isPhrase 8 = .ok (.iload_n 2, 1) := by decide +kernel
theorem dX7_isPhrase_9 : decode cX7_isPhrase 9 = .ok (.iload_n 1, 1) := by decide +kernel
theorem dX7_isPhrase_10 : decode cX7_isPhrase 10 = .ok (.iconst 1, 1) := by decide +kernel
theorem dX7_isPhrase_11 : decode cX7_isPhrase 11 = .ok (.iadd, 1) := by decide +kernel
theorem dX7_isPhrase_12 : decode cX7_isPhrase 12 = .ok (.aload_n 0, 1) := by decide +kernel
theorem dX7_isPhrase_13 : decode cX7_isPhrase 13 = .ok (.getfield 10, 3) := by decide +kernel
theorem dX7_isPhrase_16 : decode cX7_isPhrase 16 = .ok (.getfield 65, 3) := by decide +kernel
theorem dX7_isPhrase_19 : decode cX7_isPhrase 19 = .ok (.invokestatic 61, 3) := by decide +kernel
theorem dX7_isPhrase_22 : decode cX7_isPhrase 22 = .ok (.ifCond .eq 7, 3) := by decide +kernel
theorem dX7_isPhrase_25 : decode cX7_isPhrase 25 = .ok (.iconst 1, 1) := by decide +kernel
theorem dX7_isPhrase_26 : decode cX7_isPhrase 26 = .ok (.goto 4, 3) := by decide +kernel
theorem dX7_isPhrase_29 : decode cX7_isPhrase 29 = .ok (.iconst 0, 1) := by decide +kernel
theorem dX7_isPhrase_30 : decode cX7_isPhrase 30 = .ok (.ireturn, 1) := by decide +kernel
theorem dX7_addSign_0 : decode cX7_addSign 0 = .ok (.aload_n 0, 1) := by decide +kernel
theorem dX7_addSign_1 : decode cX7_addSign 1 = .ok (.getfield 10, 3) := by decide +kernel
theorem dX7_addSign_4 : decode cX7_addSign 4 = .ok (.iload_n 1, 1) := by decide +kernel
theorem dX7_addSign_5 : decode cX7_addSign 5 = .ok (.invokevirtual 251, 3) := by decide +kernel
theorem dX7_addSign_8 : decode cX7_addSign 8 = .ok (.ifCond .ne 7, 3) := by decide +kernel
theorem dX7_addSign_11 : decode cX7_addSign 11 = .ok (.sipush (-1002), 3) := by decide +kernel
theorem dX7_addSign_14 : decode cX7_addSign 14 = .ok (.ireturn, 1) := by decide +kernel
theorem dX7_addSign_15 : decode cX7_addSign 15 = .ok (.aload_n 0, 1) := by decide +kernel
theorem dX7_addSign_16 : decode cX7_addSign 16 = .ok (.getfield 10, 3) := by decide +kernel
theorem dX7_addSign_19 : decode cX7_addSign 19 = .ok (.getfield 110, 3) := by decide +kernel
theorem dX7_addSign_22 : decode cX7_addSign 22 = .ok (.bipush 60, 2) := by decide +kernel
theorem dX7_addSign_24 : decode cX7_addSign 24 = .ok (.if_icmp .lt 7, 3) := by decide +kernel
theorem dX7_addSign_27 : decode cX7_addSign 27 = .ok (.sipush (-1003), 3) := by decide +kernel
theorem dX7_addSign_30 : decode cX7_addSign 30 = .ok (.ireturn, 1) := by decide +kernel
theorem dX7_addSign_31 : decode cX7_addSign 31 = .ok (.aload_n 0, 1) := by decide +kernel
theorem dX7_addSign_32 : decode cX7_addSign 32 = .ok (.getfield 25, 3) := by decide +kernel
theorem dX7_addSign_35 : decode cX7_addSign 35 = .ok (.aload_n 0, 1) := by decide +kernel
theorem dX7_addSign_36 : decode cX7_addSign 36 = .ok (.getfield 10, 3) := by decide +kernel
theorem dX7_addSign_39 : decode cX7_addSign 39 = .ok (.invokevirtual 69, 3) := by decide +kernel
theorem dX7_addSign_42 : decode cX7_addSign 42 = .ok (.aload_n 0, 1) := by decide +kernel
theorem dX7_addSign_43 : decode cX7_addSign 43 = .ok (.getfield 10, 3) := by decide +kernel
theorem dX7_addSign_46 : decode cX7_addSign 46 = .ok (.iload_n 1, 1) := by decide +kernel
theorem dX7_addSign_47 : decode cX7_addSign 47 = .ok (.invokevirtual 143, 3) := by decide +kernel
theorem dX7_addSign_50 : decode cX7_addSign 50 = .ok (.ireturn, 1) := by decide +kernel
theorem dX7_isInPhrase_0 : decode cX7_isInPhrase 0 = .ok (.iload_n 0, 1) := by decide +kernel
theorem dX7_isInPhrase_1 : decode cX7_isInPhrase 1 = .ok (.invokestatic 134, 3) := by decide +kernel
theorem dX7_isInPhrase_4 : decode cX7_isInPhrase 4 = .ok (.iload_n 1, 1) := by decide +kernel
theorem dX7_isInPhrase_5 : decode cX7_isInPhrase 5 = .ok (.if_icmp .lt 15, 3) := by decide +kernel
theorem dX7_isInPhrase_8 : decode cX7_isInPhrase 8 = .ok (.iload_n 0, 1) := by decide +kernel
theorem dX7_isInPhrase_9 : decode cX7_isInPhrase 9 = .ok (.invokestatic 131, 3) := by decide +kernel
theorem dX7_isInPhrase_12 : decode cX7_isInPhrase 12 = .ok (.iload_n 2, 1) := by decide +kernel
theorem dX7_isInPhrase_13 : decode cX7_isInPhrase 13 = .ok (.if_icmp .gt 7, 3) := by decide +kernel
theorem dX7_isInPhrase_16 : decode cX7_isInPhrase 16 = .ok (.iconst 1, 1) := by decide +kernel
theorem dX7_isInPhrase_17 : decode cX7_isInPhrase 17 = .ok (.goto 4, 3) := by decide +kernel
theorem dX7_isInPhrase_20 : decode cX7_isInPhrase 20 = .ok (.iconst 0, 1) := by decide +kernel
theorem dX7_isInPhrase_21 : decode cX7_isInPhrase 21 = .ok (.ireturn, 1) := by decide +kernel
theorem dX7_copyOf_0 : decode cX7_copyOf 0 = .ok (.iload_n 1, 1) := by decide +kernel
theorem dX7_copyOf_1 : decode cX7_copyOf 1 = .ok (.iconst 1, 1) := by decide +kernel
theorem dX7_copyOf_2 : decode cX7_copyOf 2 = .ok (.if_icmp .ne 10, 3) := by decide +kernel
theorem dX7_copyOf_5 : decode cX7_copyOf 5 = .ok (.iload_n 0, 1) := by decide +kernel
theorem dX7_copyOf_6 : decode cX7_copyOf 6 = .ok (.invokestatic 254, 3) := by decide +kernel
theorem dX7_copyOf_9 : decode cX7_copyOf 9 = .ok (.goto 4, 3) := by decide +kernel
theorem dX7_copyOf_12 : decode cX7_copyOf 12 = .ok (.iload_n 0, 1) := by decide +kernel
theorem dX7_copyOf_13 : decode cX7_copyOf 13 = .ok (.istore_n 3, 1) := by decide +kernel
theorem dX7_copyOf_14 : decode cX7_copyOf 14 = .ok (.iload_n 2, 1) := by decide +kernel
theorem dX7_copyOf_15 : decode cX7_copyOf 15 = .ok (.iconst 1, 1) := by decide +kernel
theorem dX7_copyOf_16 : decode cX7_copyOf 16 = .ok (.if_icmp .ne 10, 3) := by decide +kernel
theorem dX7_copyOf_19 : decode cX7_copyOf 19 = .ok (.iload_n 3, 1) := by decide +kernel
theorem dX7_copyOf_20 : decode cX7_copyOf 20 = .ok (.invokestatic 257, 3) := by decide +kernel
theorem dX7_copyOf_23 : decode cX7_copyOf 23 = .ok (.goto 4, 3) := by decide +kernel
theorem dX7_copyOf_26 : decode cX7_copyOf 26 = .ok (.iload_n 3, 1) := by decide +kernel
theorem dX7_copyOf_27 : decode cX7_copyOf 27 = .ok (.ireturn, 1) := by decide +kernel
theorem dX7_canTryPhrase_0 : decode cX7_canTryPhrase 0 = .ok (.aload_n 0, 1) := by decide +kernel
theorem dX7_canTryPhrase_1 : decode cX7_canTryPhrase 1 = .ok (.getfield 19, 3) := by decide +kernel
theorem dX7_canTryPhrase_4 : decode cX7_canTryPhrase 4 = .ok (.aload_n 0, 1) := by decide +kernel
theorem dX7_canTryPhrase_5 : decode cX7_canTryPhrase 5 = .ok (.getfield 10, 3) := by decide +kernel
theorem dX7_canTryPhrase_8 : decode cX7_canTryPhrase 8 = .ok (.invokevirtual 150, 3) := by decide +kernel
theorem dX7_canTryPhrase_11 : decode cX7_canTryPhrase 11 = .ok (.iconst 0, 1) := by decide +kernel
theorem dX7_canTryPhrase_12 : decode cX7_canTryPhrase 12 = .ok (.istore_n 1, 1) := by decide +kernel
theorem dX7_canTryPhrase_13 : decode cX7_canTryPhrase 13 = .ok (.iload_n 1, 1) := by decide +kernel
theorem dX7_canTryPhrase_14 : decode cX7_canTryPhrase 14 = .ok (.aload_n 0, 1) := by decide +kernel
theorem dX7_canTryPhrase_15 : decode cX7_canTryPhrase 15 = .ok (.getfield 16, 3) := by decide +kernel
theorem dX7_canTryPhrase_18 : decode cX7_canTryPhrase 18 = .ok (.getfield 110, 3) := by decide +kernel
theorem dX7_canTryPhrase_21 : decode cX7_canTryPhrase 21 = .ok (.if_icmp .ge 40, 3) := by decide +kernel
theorem dX7_canTryPhrase_24 : decode cX7_canTryPhrase 24 = .ok (.aload_n 0, 1) := by decide +kernel
theorem dX7_canTryPhrase_25 : decode cX7_canTryPhrase 25 = .ok (.getfield 16, 3) := by decide +kernel
theorem dX7_canTryPhrase_28 : decode cX7_canTryPhrase 28 = .ok (.iload_n 1, 1) := by decide +kernel
theorem dX7_canTryPhrase_29 : decode cX7_canTryPhrase 29 = .ok (.invokevirtual 125, 3) := by decide +kernel
theorem dX7_canTryPhrase_32 : decode cX7_canTryPhrase 32 = .ok (.istore_n 2, 1) := by decide +kernel
theorem dX7_canTryPhrase_33 : decode cX7_canTryPhrase 33 = .ok (.aload_n 0, 1) := by decide +kernel
theorem dX7_canTryPhrase_34 : decode cX7_canTryPhrase 34 = .ok (.getfield 19, 3) := by decide +kernel
theorem dX7_canTryPhrase_37 : decode cX7_canTryPhrase 37 = .ok (.iload_n 2, 1) := by decide +kernel
theorem dX7_canTryPhrase_38 : decode cX7_canTryPhrase 38 = .ok (.invokevirtual 251, 3) := by decide +kernel
theorem dX7_canTryPhrase_41 : decode cX7_canTryPhrase 41 = .ok (.ifCond .ne 5, 3) := by decide +kernel
theorem dX7_canTryPhrase_44 : decode cX7_canTryPhrase 44 = .ok (.iconst 0, 1) := by decide +kernel
theorem dX7_canTryPhrase_45 : decode cX7_canTryPhrase 45 = .ok (.ireturn, 1) := by decide +kernel
theorem dX7_canTryPhrase_46 : decode cX7_canTryPhrase 46 = .ok (.aload_n 0, 1) := by decide +kernel
theorem dX7_canTryPhrase_47 : decode cX7_canTryPhrase 47 = .ok (.getfield 19, 3) := by decide +kernel
theorem dX7_canTryPhrase_50 : decode cX7_canTryPhrase 50 = .ok (.iload_n 2, 1) := by decide +kernel
theorem dX7_canTryPhrase_51 : decode cX7_canTryPhrase 51 = .ok (.invokevirtual 143, 3) := by decide +kernel
theorem dX7_canTryPhrase_54 : decode cX7_canTryPhrase 54 = .ok (.pop, 1) := by decide +kernel
theorem dX7_canTryPhrase_55 : decode cX7_canTryPhrase 55 = .ok (.iinc 1 1, 3) := by decide +kernel
theorem dX7_canTryPhrase_58 : decode cX7_canTryPhrase 58 = .ok (.goto (-45), 3) := by decide +kernel
theorem dX7_canTryPhrase_61 : decode cX7_canTryPhrase 61 = .ok (.iconst 1, 1) := by decide +kernel
theorem dX7_canTryPhrase_62 : decode cX7_canTryPhrase 62 = .ok (.ireturn, 1) := by decide +kernel
theorem dJ9_floorMod_7cf53_0 : decode cJ9_floorMod_7cf53 0 = .ok (.iload_n 0, 1) := by decide +kernel
theorem dJ9_floorMod_7cf53_1 : decode cJ9_floorMod_7cf53 1 = .ok (.iload_n 1, 1) := by decide +kernel
theorem dJ9_floorMod_7cf53_2 : decode cJ9_floorMod_7cf53 2 = .ok (.irem, 1) := by decide +kernel
theorem dJ9_floorMod_7cf53_3 : decode cJ9_floorMod_7cf53 3 = .ok (.istore_n 2, 1) := by decide +kernel
theorem dJ9_floorMod_7cf53_4 : decode cJ9_floorMod_7cf53 4 = .ok (.iload_n 0, 1) := by decide +kernel
theorem dJ9_floorMod_7cf53_5 : decode cJ9_floorMod_7cf53 5 = .ok (.iload_n 1, 1) := by decide +kernel
theorem dJ9_floorMod_7cf53_6 : decode cJ9_floorMod_7cf53 6 = .ok (.ixor, 1) := by decide +kernel
theorem dJ9_floorMod_7cf53_7 : decode cJ9_floorMod_7cf53 7 = .ok (.ifCond .ge 11, 3) := by decide +kernel
theorem dJ9_floorMod_7cf53_10 : decode cJ9_floorMod_7cf53 10 = .ok (.iload_n 2, 1) := by decide +kernel
theorem dJ9_floorMod_7cf53_11 : decode cJ9_floorMod_7cf53 11 = .ok (.ifCond .eq 7, 3) := by decide +kernel
theorem dJ9_floorMod_7cf53_14 : decode cJ9_floorMod_7cf53 14 = .ok (.iload_n 2, 1) := by decide +kernel
theorem dJ9_floorMod_7cf53_15 : decode cJ9_floorMod_7cf53 15 = .ok (.iload_n 1, 1) := by decide +kernel
theorem dJ9_floorMod_7cf53_16 : decode cJ9_floorMod_7cf53 16 = .ok (.iadd, 1) := by decide +kernel
theorem dJ9_floorMod_7cf53_17 : decode cJ9_floorMod_7cf53 17 = .ok (.ireturn, 1) := by decide +kernel
theorem dJ9_floorMod_7cf53_18 : decode cJ9_floorMod_7cf53 18 = .ok (.iload_n 2, 1) := by decide +kernel
theorem dJ9_floorMod_7cf53_19 : decode cJ9_floorMod_7cf53 19 = .ok (.ireturn, 1) := by decide +kernel
theorem dJ9_abs_0f7a4_0 : decode cJ9_abs_0f7a4 0 = .ok (.iload_n 0, 1) := by decide +kernel
theorem dJ9_abs_0f7a4_1 : decode cJ9_abs_0f7a4 1 = .ok (.ifCond .ge 8, 3) := by decide +kernel
theorem dJ9_abs_0f7a4_4 : decode cJ9_abs_0f7a4 4 = .ok (.iload_n 0, 1) := by decide +kernel
theorem dJ9_abs_0f7a4_5 : decode cJ9_abs_0f7a4 5 = .ok (.ineg, 1) := by decide +kernel
theorem dJ9_abs_0f7a4_6 : decode cJ9_abs_0f7a4 6 = .ok (.goto 4, 3) := by decide +kernel
theorem dJ9_abs_0f7a4_9 : decode cJ9_abs_0f7a4 9 = .ok (.iload_n 0, 1) := by decide +kernel
theorem dJ9_abs_0f7a4_10 : decode cJ9_abs_0f7a4 10 = .ok (.ireturn, 1) := by decide +kernel
theorem dJ9_max_7cf53_0 : decode cJ9_max_7cf53 0 = .ok (.iload_n 0, 1) := by decide +kernel
theorem dJ9_max_7cf53_1 : decode cJ9_max_7cf53 1 = .ok (.iload_n 1, 1) := by decide +kernel
theorem dJ9_max_7cf53_2 : decode cJ9_max_7cf53 2 = .ok (.if_icmp .lt 7, 3) := by decide +kernel
theorem dJ9_max_7cf53_5 : decode cJ9_max_7cf53 5 = .ok (.iload_n 0, 1) := by decide +kernel
theorem dJ9_max_7cf53_6 : decode cJ9_max_7cf53 6 = .ok (.goto 4, 3) := by decide +kernel
theorem dJ9_max_7cf53_9 : decode cJ9_max_7cf53 9 = .ok (.iload_n 1, 1) := by decide +kernel
theorem dJ9_max_7cf53_10 : decode cJ9_max_7cf53 10 = .ok (.ireturn, 1) := by decide +kernel
theorem dJ9_min_7cf53_0 : decode cJ9_min_7cf53 0 = .ok (.iload_n 0, 1) := by decide +kernel
theorem dJ9_min_7cf53_1 : decode cJ9_min_7cf53 1 = .ok (.iload_n 1, 1) := by decide +kernel
theorem dJ9_min_7cf53_2 : decode cJ9_min_7cf53 2 = .ok (.if_icmp .gt 7, 3) := by decide +kernel
theorem dJ9_min_7cf53_5 : decode cJ9_min_7cf53 5 = .ok (.iload_n 0, 1) := by decide +kernel
theorem dJ9_min_7cf53_6 : decode cJ9_min_7cf53 6 = .ok (.goto 4, 3) := by decide +kernel
theorem dJ9_min_7cf53_9 : decode cJ9_min_7cf53 9 = .ok (.iload_n 1, 1) := by decide +kernel
theorem dJ9_min_7cf53_10 : decode cJ9_min_7cf53 10 = .ok (.ireturn, 1) := by decide +kernel
theorem dJ7_fill_53178_0 : decode cJ7_fill_53178 0 = .ok (.iconst 0, 1) := by decide +kernel
theorem dJ7_fill_53178_1 : decode cJ7_fill_53178 1 = .ok (.istore_n 2, 1) := by decide +kernel
theorem dJ7_fill_53178_2 : decode cJ7_fill_53178 2 = .ok (.aload_n 0, 1) := by decide +kernel
theorem dJ7_fill_53178_3 : decode cJ7_fill_53178 3 = .ok (.arraylength, 1) := by decide +kernel
theorem dJ7_fill_53178_4 : decode cJ7_fill_53178 4 = .ok (.istore_n 3, 1) := by decide +kernel
theorem dJ7_fill_53178_5 : decode cJ7_fill_53178 5 = .ok (.iload_n 2, 1) := by decide +kernel
theorem dJ7_fill_53178_6 : decode cJ7_fill_53178 6 = .ok (.iload_n 3, 1) := by decide +kernel
theorem dJ7_fill_53178_7 : decode cJ7_fill_53178 7 = .ok (.if_icmp .ge 13, 3) := by decide +kernel
theorem dJ7_fill_53178_10 : decode cJ7_fill_53178 10 = .ok (.aload_n 0, 1) := by decide +kernel
theorem dJ7_fill_53178_11 : decode cJ7_fill_53178 11 = .ok (.iload_n 2, 1) := by decide +kernel
theorem dJ7_fill_53178_12 : decode cJ7_fill_53178 12 = .ok (.iload_n 1, 1) := by decide +kernel
theorem dJ7_fill_53178_13 : decode cJ7_fill_53178 13 = .ok (.iastore, 1) := by decide +kernel
theorem dJ7_fill_53178_14 : decode cJ7_fill_53178 14 = .ok (.iinc 2 1, 3) := by decide +kernel
theorem dJ7_fill_53178_17 : decode cJ7_fill_53178 17 = .ok (.goto (-12), 3) := by decide +kernel
theorem dJ7_fill_53178_20 : decode cJ7_fill_53178 20 = .ok (.return_, 1) := by decide +kernel
theorem dL_cell_0 : decode cL_cell 0 = .ok (.iload_n 1, 1) := by decide +kernel
theorem dL_cell_1 : decode cL_cell 1 = .ok (.aload_n 0, 1) := by decide +kernel
theorem dL_cell_2 : decode cL_cell 2 = .ok (.arraylength, 1) := by decide +kernel
theorem dL_cell_3 : decode cL_cell 3 = .ok (.if_icmp .ge 9, 3) := by decide +kernel
theorem dL_cell_6 : decode cL_cell 6 = .ok (.aload_n 0, 1) := by decide +kernel
theorem dL_cell_7 : decode cL_cell 7 = .ok (.iload_n 1, 1) := by decide +kernel
theorem dL_cell_8 : decode cL_cell 8 = .ok (.iaload, 1) := by decide +kernel
theorem dL_cell_9 : decode cL_cell 9 = .ok (.goto 10, 3) := by decide +kernel
theorem dL_cell_12 : decode cL_cell 12 = .ok (.ldc 7, 2) := by decide +kernel
theorem dL_cell_14 : decode cL_cell 14 = .ok (.iload_n 1, 1) := by decide +kernel
theorem dL_cell_15 : decode cL_cell 15 = .ok (.imul, 1) := by decide +kernel
theorem dL_cell_16 : decode cL_cell 16 = .ok (.bipush 109, 2) := by decide +kernel
theorem dL_cell_18 : decode cL_cell 18 = .ok (.iadd, 1) := by decide +kernel
theorem dL_cell_19 : decode cL_cell 19 = .ok (.ldc 8, 2) := by decide +kernel
theorem dL_cell_21 : decode cL_cell 21 = .ok (.iand, 1) := by decide +kernel
theorem dL_cell_22 : decode cL_cell 22 = .ok (.ireturn, 1) := by decide +kernel
theorem dL_types_0 : decode cL_types 0 = .ok (.aload_n 0, 1) := by decide +kernel
theorem dL_types_1 : decode cL_types 1 = .ok (.invokevirtual 9, 3) := by decide +kernel
theorem dL_types_4 : decode cL_types 4 = .ok (.pop, 1) := by decide +kernel
theorem dL_types_5 : decode cL_types 5 = .ok (.iconst 0, 1) := by decide +kernel
theorem dL_types_6 : decode cL_types 6 = .ok (.istore_n 3, 1) := by decide +kernel
theorem dL_types_7 : decode cL_types 7 = .ok (.iconst 0, 1) := by decide +kernel
theorem dL_types_8 : decode cL_types 8 = .ok (.istore 4, 2) := by decide +kernel
theorem dL_types_10 : decode cL_types 10 = .ok (.iconst 0, 1) := by decide +kernel
theorem dL_types_11 : decode cL_types 11 = .ok (.istore 5, 2) := by decide +kernel
theorem dL_types_13 : decode cL_types 13 = .ok (.iconst 0, 1) := by decide +kernel
theorem dL_types_14 : decode cL_types 14 = .ok (.istore 6, 2) := by decide +kernel
theorem dL_types_16 : decode cL_types 16 = .ok (.iconst 0, 1) := by decide +kernel
theorem dL_types_17 : decode cL_types 17 = .ok (.istore 7, 2) := by decide +kernel
theorem dL_types_19 : decode cL_types 19 = .ok (.iconst 0, 1) := by decide +kernel
theorem dL_types_20 : decode cL_types 20 = .ok (.istore 8, 2) := by decide +kernel
theorem dL_types_22 : decode cL_types 22 = .ok (.iload 8, 2) := by decide +kernel
theorem dL_types_24 : decode cL_types 24 = .ok (.bipush 14, 2) := by decide +kernel
theorem dL_types_26 : decode cL_types 26 = .ok (.if_icmp .ge 421, 3) := by decide +kernel
theorem dL_types_29 : decode cL_types 29 = .ok (.aload_n 1, 1) := by decide +kernel
theorem dL_types_30 : decode cL_types 30 = .ok (.iload_n 2, 1) := by decide +kernel
theorem dL_types_31 : decode cL_types 31 = .ok (.iload 8, 2) := by decide +kernel
theorem dL_types_33 : decode cL_types 33 = .ok (.iadd, 1) := by decide +kernel
theorem dL_types_34 : decode cL_types 34 = .ok (.invokestatic 15, 3) := by decide +kernel
theorem dL_types_37 : decode cL_types 37 = .ok (.istore 9, 2) := by decide +kernel
theorem dL_types_39 : decode cL_types 39 = .ok (.iload 9, 2) := by decide +kernel
theorem dL_types_41 : decode cL_types 41 = .ok (.iconst 3, 1) := by decide +kernel
theorem dL_types_42 : decode cL_types 42 = .ok (.irem, 1) := by decide +kernel
theorem dL_types_43 : decode cL_types 43 = .ok (.iconst 2, 1) := by decide +kernel
theorem dL_types_44 : decode cL_types 44 = .ok (.if_icmp .ne 8, 3) := by decide +kernel
theorem dL_types_47 : decode cL_types 47 = .ok (.bipush 6, 2) := by decide +kernel
theorem dL_types_49 : decode cL_types 49 = .ok (.goto 7, 3) := by decide +kernel
theorem dL_types_52 : decode cL_types 52 = .ok (.iload 9, 2) := by decide +kernel
theorem dL_types_54 : decode cL_types 54 = .ok (.iconst 3, 1) := by decide +kernel
theorem dL_types_55 : decode cL_types 55 = .ok (.irem, 1) := by decide +kernel
theorem dL_types_56 : decode cL_types 56 = .ok (.istore 10, 2) := by decide +kernel
theorem dL_types_58 : decode cL_types 58 = .ok (.iconst 1, 1) := by decide +kernel
theorem dL_types_59 : decode cL_types 59 = .ok (.iload 9, 2) := by decide +kernel
theorem dL_types_61 : decode cL_types 61 = .ok (.iconst 2, 1) := by decide +kernel
theorem dL_types_62 : decode cL_types 62 = .ok (.ishr, 1) := by decide +kernel
theorem dL_types_63 : decode cL_types 63 = .ok (.iconst 5, 1) := by decide +kernel
theorem dL_types_64 : decode cL_types 64 = .ok (.irem, 1) := by decide +kernel
theorem dL_types_65 : decode cL_types 65 = .ok (.iadd, 1) := by decide +kernel
theorem dL_types_66 : decode cL_types 66 = .ok (.istore 11, 2) := by decide +kernel
theorem dL_types_68 : decode cL_types 68 = .ok (.iload 10, 2) := by decide +kernel
theorem dL_types_70 : decode cL_types 70 = .ok (.ifCond .ne 7, 3) := by decide +kernel
theorem dL_types_73 : decode cL_types 73 = .ok (.iload_n 3, 1) := by decide +kernel
theorem dL_types_74 : decode cL_types 74 = .ok (.goto 16, 3) := by decide +kernel
theorem dL_types_77 : decode cL_types 77 = .ok (.iload 10, 2) := by decide +kernel
theorem dL_types_79 : decode cL_types 79 = .ok (.iconst 1, 1) := by decide +kernel
theorem dL_types_80 : decode cL_types 80 = .ok (.if_icmp .ne 8, 3) := by decide +kernel
theorem dL_types_83 : decode cL_types 83 = .ok (.iload 4, 2) := by decide +kernel
theorem dL_types_85 : decode cL_types 85 = .ok (.goto 5, 3) := by decide +kernel
theorem dL_types_88 : decode cL_types 88 = .ok (.iload 5, 2) := by decide +kernel
theorem dL_types_90 : decode cL_types 90 = .ok (.istore 12, 2) := by decide +kernel
theorem dL_types_92 : decode cL_types 92 = .ok (.iload 9, 2) := by decide +kernel
theorem dL_types_94 : decode cL_types 94 = .ok (.iconst 5, 1) := by decide +kernel
theorem dL_types_95 : decode cL_types 95 = .ok (.ishr, 1) := by decide +kernel
theorem dL_types_96 : decode cL_types 96 = .ok (.iconst 5, 1) := by decide +kernel
theorem dL_types_97 : decode cL_types 97 = .ok (.irem, 1) := by decide +kernel
theorem dL_types_98 : decode cL_types 98 = .ok (.ifCond .ne 7, 3) := by decide +kernel
theorem dL_types_101 : decode cL_types 101 = .ok (.iconst 1, 1) := by decide +kernel
theorem dL_types_102 : decode cL_types 102 = .ok (.goto 4, 3) := by decide +kernel
theorem dL_types_105 : decode cL_types 105 = .ok (.iconst 0, 1) := by decide +kernel
theorem dL_types_106 : decode cL_types 106 = .ok (.istore 13, 2) := by decide +kernel
theorem dL_types_108 : decode cL_types 108 = .ok (.iload 13, 2) := by decide +kernel
theorem dL_types_110 : decode cL_types 110 = .ok (.ifCond .eq 7, 3) := by decide +kernel
theorem dL_types_113 : decode cL_types 113 = .ok (.iconst 1, 1) := by decide +kernel
theorem dL_types_114 : decode cL_types 114 = .ok (.goto 5, 3) := by decide +kernel
theorem dL_types_117 : decode cL_types 117 = .ok (.iload 11, 2) := by decide +kernel
theorem dL_types_119 : decode cL_types 119 = .ok (.istore 11, 2) := by decide +kernel
theorem dL_types_121 : decode cL_types 121 = .ok (.iload 12, 2) := by decide +kernel
theorem dL_types_123 : decode cL_types 123 = .ok (.iload 11, 2) := by decide +kernel
theorem dL_types_125 : decode cL_types 125 = .ok (.iadd, 1) := by decide +kernel
theorem dL_types_126 : decode cL_types 126 = .ok (.aload_n 0, 1) := by decide +kernel
theorem dL_types_127 : decode cL_types 127 = .ok (.iconst 0, 1) := by decide +kernel
theorem dL_types_128 : decode cL_types 128 = .ok (.invokevirtual 21, 3) := by decide +kernel
theorem dL_types_131 : decode cL_types 131 = .ok (.if_icmp .le 6, 3) := by decide +kernel
theorem dL_types_134 : decode cL_types 134 = .ok (.goto 307, 3) := by decide +kernel
theorem dL_types_137 : decode cL_types 137 = .ok (.aload_n 0, 1) := by decide +kernel
theorem dL_types_138 : decode cL_types 138 = .ok (.bipush 48, 2) := by decide +kernel
theorem dL_types_140 : decode cL_types 140 = .ok (.iload 10, 2) := by decide +kernel
theorem dL_types_142 : decode cL_types 142 = .ok (.iadd, 1) := by decide +kernel
theorem dL_types_143 : decode cL_types 143 = .ok (.invokevirtual 25, 3) := by decide +kernel
theorem dL_types_146 : decode cL_types 146 = .ok (.pop, 1) := by decide +kernel
theorem dL_types_147 : decode cL_types 147 = .ok (.iinc 7 1, 3) := by decide +kernel
theorem dL_types_150 : decode cL_types 150 = .ok (.iload 13, 2) := by decide +kernel
theorem dL_types_152 : decode cL_types 152 = .ok (.ifCond .eq 16, 3) := by decide +kernel
theorem dL_types_155 : decode cL_types 155 = .ok (.aload_n 0, 1) := by decide +kernel
theorem dL_types_156 : decode cL_types 156 = .ok (.bipush 107, 2) := by decide +kernel
theorem dL_types_158 : decode cL_types 158 = .ok (.invokevirtual 25, 3) := by decide +kernel
theorem dL_types_161 : decode cL_types 161 = .ok (.pop, 1) := by decide +kernel
theorem dL_types_162 : decode cL_types 162 = .ok (.iinc 7 1, 3) := by decide +kernel
theorem dL_types_165 : decode cL_types 165 = .ok (.goto 185, 3) := by decide +kernel
theorem dL_types_168 : decode cL_types 168 = .ok (.iload 10, 2) := by decide +kernel
theorem dL_types_170 : decode cL_types 170 = .ok (.bipush 6, 2) := by decide +kernel
theorem dL_types_172 : decode cL_types 172 = .ok (.if_icmp .ne 71, 3) := by decide +kernel
theorem dL_types_175 : decode cL_types 175 = .ok (.aload_n 0, 1) := by decide +kernel
theorem dL_types_176 : decode cL_types 176 = .ok (.bipush 116, 2) := by decide +kernel
theorem dL_types_178 : decode cL_types 178 = .ok (.invokevirtual 25, 3) := by decide +kernel
theorem dL_types_181 : decode cL_types 181 = .ok (.pop, 1) := by decide +kernel
theorem dL_types_182 : decode cL_types 182 = .ok (.aload_n 0, 1) := by decide +kernel
theorem dL_types_183 : decode cL_types 183 = .ok (.iload 9, 2) := by decide +kernel
theorem dL_types_185 : decode cL_types 185 = .ok (.bipush 8, 2) := by decide +kernel
theorem dL_types_187 : decode cL_types 187 = .ok (.ishr, 1) := by decide +kernel
theorem dL_types_188 : decode cL_types 188 = .ok (.iconst 2, 1) := by decide +kernel
theorem dL_types_189 : decode cL_types 189 = .ok (.irem, 1) := by decide +kernel
theorem dL_types_190 : decode cL_types 190 = .ok (.ifCond .ne 8, 3) := by decide +kernel
theorem dL_types_193 : decode cL_types 193 = .ok (.bipush 43, 2) := by decide +kernel
theorem dL_types_195 : decode cL_types 195 = .ok (.goto 5, 3) := by decide +kernel
theorem dL_types_198 : decode cL_types 198 = .ok (.bipush 45, 2) := by decide +kernel
theorem dL_types_200 : decode cL_types 200 = .ok (.invokevirtual 25, 3) := by decide +kernel
theorem dL_types_203 : decode cL_types 203 = .ok (.pop, 1) := by decide +kernel
theorem dL_types_204 : decode cL_types 204 = .ok (.aload_n 0, 1) := by decide +kernel
theorem dL_types_205 : decode cL_types 205 = .ok (.bipush 49, 2) := by decide +kernel
theorem dL_types_207 : decode cL_types 207 = .ok (.iload 9, 2) := by decide +kernel
theorem dL_types_209 : decode cL_types 209 = .ok (.bipush 9, 2) := by decide +kernel
theorem dL_types_211 : decode cL_types 211 = .ok (.ishr, 1) := by decide +kernel
theorem dL_types_212 : decode cL_types 212 = .ok (.bipush 8, 2) := by decide +kernel
theorem dL_types_214 : decode cL_types 214 = .ok (.irem, 1) := by decide +kernel
theorem dL_types_215 : decode cL_types 215 = .ok (.iadd, 1) := by decide +kernel
theorem dL_types_216 : decode cL_types 216 = .ok (.invokevirtual 25, 3) := by decide +kernel
theorem dL_types_219 : decode cL_types 219 = .ok (.pop, 1) := by decide +kernel
theorem dL_types_220 : decode cL_types 220 = .ok (.aload_n 0, 1) := by decide +kernel
theorem dL_types_221 : decode cL_types 221 = .ok (.bipush 47, 2) := by decide +kernel
theorem dL_types_223 : decode cL_types 223 = .ok (.invokevirtual 25, 3) := by decide +kernel
theorem dL_types_226 : decode cL_types 226 = .ok (.pop, 1) := by decide +kernel
theorem dL_types_227 : decode cL_types 227 = .ok (.aload_n 0, 1) := by decide +kernel
theorem dL_types_228 : decode cL_types 228 = .ok (.bipush 48, 2) := by decide +kernel
theorem dL_types_230 : decode cL_types 230 = .ok (.iload 11, 2) := by decide +kernel
theorem dL_types_232 : decode cL_types 232 = .ok (.iadd, 1) := by decide +kernel
theorem dL_types_233 : decode cL_types 233 = .ok (.invokevirtual 25, 3) := by decide +kernel
theorem dL_types_236 : decode cL_types 236 = .ok (.pop, 1) := by decide +kernel
theorem dL_types_237 : decode cL_types 237 = .ok (.iinc 7 5, 3) := by decide +kernel
theorem dL_types_240 : decode cL_types 240 = .ok (.goto 110, 3) := by decide +kernel
theorem dL_types_243 : decode cL_types 243 = .ok (.iload 9, 2) := by decide +kernel
theorem dL_types_245 : decode cL_types 245 = .ok (.bipush 8, 2) := by decide +kernel
theorem dL_types_247 : decode cL_types 247 = .ok (.ishr, 1) := by decide +kernel
theorem dL_types_248 : decode cL_types 248 = .ok (.iconst 5, 1) := by decide +kernel
theorem dL_types_249 : decode cL_types 249 = .ok (.irem, 1) := by decide +kernel
theorem dL_types_250 : decode cL_types 250 = .ok (.ifCond .ne 26, 3) := by decide +kernel
theorem dL_types_253 : decode cL_types 253 = .ok (.aload_n 0, 1) := by decide +kernel
theorem dL_types_254 : decode cL_types 254 = .ok (.bipush 101, 2) := by decide +kernel
theorem dL_types_256 : decode cL_types 256 = .ok (.invokevirtual 25, 3) := by decide +kernel
theorem dL_types_259 : decode cL_types 259 = .ok (.pop, 1) := by decide +kernel
theorem dL_types_260 : decode cL_types 260 = .ok (.aload_n 0, 1) := by decide +kernel
theorem dL_types_261 : decode cL_types 261 = .ok (.bipush 48, 2) := by decide +kernel
theorem dL_types_263 : decode cL_types 263 = .ok (.iload 11, 2) := by decide +kernel
theorem dL_types_265 : decode cL_types 265 = .ok (.iadd, 1) := by decide +kernel
theorem dL_types_266 : decode cL_types 266 = .ok (.invokevirtual 25, 3) := by decide +kernel
theorem dL_types_269 : decode cL_types 269 = .ok (.pop, 1) := by decide +kernel
theorem dL_types_270 : decode cL_types 270 = .ok (.iinc 7 2, 3) := by decide +kernel
theorem dL_types_273 : decode cL_types 273 = .ok (.goto 77, 3) := by decide +kernel
theorem dL_types_276 : decode cL_types 276 = .ok (.aload_n 0, 1) := by decide +kernel
theorem dL_types_277 : decode cL_types 277 = .ok (.bipush 109, 2) := by decide +kernel
theorem dL_types_279 : decode cL_types 279 = .ok (.invokevirtual 25, 3) := by decide +kernel
theorem dL_types_282 : decode cL_types 282 = .ok (.pop, 1) := by decide +kernel
theorem dL_types_283 : decode cL_types 283 = .ok (.aload_n 0, 1) := by decide +kernel
theorem dL_types_284 : decode cL_types 284 = .ok (.bipush 48, 2) := by decide +kernel
theorem dL_types_286 : decode cL_types 286 = .ok (.iload 9, 2) := by decide +kernel
theorem dL_types_288 : decode cL_types 288 = .ok (.bipush 11, 2) := by decide +kernel
theorem dL_types_290 : decode cL_types 290 = .ok (.ishr, 1) := by decide +kernel
theorem dL_types_291 : decode cL_types 291 = .ok (.bipush 9, 2) := by decide +kernel
theorem dL_types_293 : decode cL_types 293 = .ok (.irem, 1) := by decide +kernel
theorem dL_types_294 : decode cL_types 294 = .ok (.iadd, 1) := by decide +kernel
theorem dL_types_295 : decode cL_types 295 = .ok (.invokevirtual 25, 3) := by decide +kernel
theorem dL_types_298 : decode cL_types 298 = .ok (.pop, 1) := by decide +kernel
theorem dL_types_299 : decode cL_types 299 = .ok (.aload_n 0, 1) := by decide +kernel
theorem dL_types_300 : decode cL_types 300 = .ok (.iload 9, 2) := by decide +kernel
theorem dL_types_302 : decode cL_types 302 = .ok (.bipush 15, 2) := by decide +kernel
theorem dL_types_304 : decode cL_types 304 = .ok (.ishr, 1) := by decide +kernel
theorem dL_types_305 : decode cL_types 305 = .ok (.iconst 3, 1) := by decide +kernel
theorem dL_types_306 : decode cL_types 306 = .ok (.irem, 1) := by decide +kernel
theorem dL_types_307 : decode cL_types 307 = .ok (.ifCond .ne 8, 3) := by decide +kernel
theorem dL_types_310 : decode cL_types 310 = .ok (.bipush 108, 2) := by decide +kernel
theorem dL_types_312 : decode cL_types 312 = .ok (.goto 21, 3) := by decide +kernel
theorem dL_types_315 : decode cL_types 315 = .ok (.iload 9, 2) := by decide +kernel
theorem dL_types_317 : decode cL_types 317 = .ok (.bipush 15, 2) := by decide +kernel
theorem dL_types_319 : decode cL_types 319 = .ok (.ishr, 1) := by decide +kernel
theorem dL_types_320 : decode cL_types 320 = .ok (.iconst 3, 1) := by decide +kernel
theorem dL_types_321 : decode cL_types 321 = .ok (.irem, 1) := by decide +kernel
theorem dL_types_322 : decode cL_types 322 = .ok (.iconst 1, 1) := by decide +kernel
theorem dL_types_323 : decode cL_types 323 = .ok (.if_icmp .ne 8, 3) := by decide +kernel
theorem dL_types_326 : decode cL_types 326 = .ok (.bipush 110, 2) := by decide +kernel
theorem dL_types_328 : decode cL_types 328 = .ok (.goto 5, 3) := by decide +kernel
theorem dL_types_331 : decode cL_types 331 = .ok (.bipush 104, 2) := by decide +kernel
theorem dL_types_333 : decode cL_types 333 = .ok (.invokevirtual 25, 3) := by decide +kernel
theorem dL_types_336 : decode cL_types 336 = .ok (.pop, 1) := by decide +kernel
theorem dL_types_337 : decode cL_types 337 = .ok (.aload_n 0, 1) := by decide +kernel
theorem dL_types_338 : decode cL_types 338 = .ok (.bipush 48, 2) := by decide +kernel
theorem dL_types_340 : decode cL_types 340 = .ok (.iload 11, 2) := by decide +kernel
theorem dL_types_342 : decode cL_types 342 = .ok (.iadd, 1) := by decide +kernel
theorem dL_types_343 : decode cL_types 343 = .ok (.invokevirtual 25, 3) := by decide +kernel
theorem dL_types_346 : decode cL_types 346 = .ok (.pop, 1) := by decide +kernel
theorem dL_types_347 : decode cL_types 347 = .ok (.iinc 7 4, 3) := by decide +kernel
theorem dL_types_350 : decode cL_types 350 = .ok (.iload 6, 2) := by decide +kernel
theorem dL_types_352 : decode cL_types 352 = .ok (.iload 13, 2) := by decide +kernel
theorem dL_types_354 : decode cL_types 354 = .ok (.ifCond .ne 24, 3) := by decide +kernel
theorem dL_types_357 : decode cL_types 357 = .ok (.iload 10, 2) := by decide +kernel
theorem dL_types_359 : decode cL_types 359 = .ok (.bipush 6, 2) := by decide +kernel
theorem dL_types_361 : decode cL_types 361 = .ok (.if_icmp .ge 17, 3) := by decide +kernel
theorem dL_types_364 : decode cL_types 364 = .ok (.iload 9, 2) := by decide +kernel
theorem dL_types_366 : decode cL_types 366 = .ok (.bipush 8, 2) := by decide +kernel
theorem dL_types_368 : decode cL_types 368 = .ok (.ishr, 1) := by decide +kernel
theorem dL_types_369 : decode cL_types 369 = .ok (.iconst 5, 1) := by decide +kernel
theorem dL_types_370 : decode cL_types 370 = .ok (.irem, 1) := by decide +kernel
theorem dL_types_371 : decode cL_types 371 = .ok (.ifCond .ne 7, 3) := by decide +kernel
theorem dL_types_374 : decode cL_types 374 = .ok (.iconst 0, 1) := by decide +kernel
theorem dL_types_375 : decode cL_types 375 = .ok (.goto 4, 3) := by decide +kernel
theorem dL_types_378 : decode cL_types 378 = .ok (.iconst 1, 1) := by decide +kernel
theorem dL_types_379 : decode cL_types 379 = .ok (.iadd, 1) := by decide +kernel
theorem dL_types_380 : decode cL_types 380 = .ok (.istore 6, 2) := by decide +kernel
theorem dL_types_382 : decode cL_types 382 = .ok (.aload_n 0, 1) := by decide +kernel
theorem dL_types_383 : decode cL_types 383 = .ok (.bipush 59, 2) := by decide +kernel
theorem dL_types_385 : decode cL_types 385 = .ok (.invokevirtual 25, 3) := by decide +kernel
theorem dL_types_388 : decode cL_types 388 = .ok (.pop, 1) := by decide +kernel
theorem dL_types_389 : decode cL_types 389 = .ok (.iinc 7 1, 3) := by decide +kernel
theorem dL_types_392 : decode cL_types 392 = .ok (.iload_n 3, 1) := by decide +kernel
theorem dL_types_393 : decode cL_types 393 = .ok (.iload 10, 2) := by decide +kernel
theorem dL_types_395 : decode cL_types 395 = .ok (.ifCond .ne 8, 3) := by decide +kernel
theorem dL_types_398 : decode cL_types 398 = .ok (.iload 11, 2) := by decide +kernel
theorem dL_types_400 : decode cL_types 400 = .ok (.goto 4, 3) := by decide +kernel
theorem dL_types_403 : decode cL_types 403 = .ok (.iconst 0, 1) := by decide +kernel
theorem dL_types_404 : decode cL_types 404 = .ok (.iadd, 1) := by decide +kernel
theorem dL_types_405 : decode cL_types 405 = .ok (.istore_n 3, 1) := by decide +kernel
theorem dL_types_406 : decode cL_types 406 = .ok (.iload 4, 2) := by decide +kernel
theorem dL_types_408 : decode cL_types 408 = .ok (.iload 10, 2) := by decide +kernel
theorem dL_types_410 : decode cL_types 410 = .ok (.iconst 1, 1) := by decide +kernel
theorem dL_types_411 : decode cL_types 411 = .ok (.if_icmp .ne 8, 3) := by decide +kernel
theorem dL_types_414 : decode cL_types 414 = .ok (.iload 11, 2) := by decide +kernel
theorem dL_types_416 : decode cL_types 416 = .ok (.goto 4, 3) := by decide +kernel
theorem dL_types_419 : decode cL_types 419 = .ok (.iconst 0, 1) := by decide +kernel
theorem dL_types_420 : decode cL_types 420 = .ok (.iadd, 1) := by decide +kernel
theorem dL_types_421 : decode cL_types 421 = .ok (.istore 4, 2) := by decide +kernel
theorem dL_types_423 : decode cL_types 423 = .ok (.iload 5, 2) := by decide +kernel
theorem dL_types_425 : decode cL_types 425 = .ok (.iload 10, 2) := by decide +kernel
theorem dL_types_427 : decode cL_types 427 = .ok (.bipush 6, 2) := by decide +kernel
theorem dL_types_429 : decode cL_types 429 = .ok (.if_icmp .ne 8, 3) := by decide +kernel
theorem dL_types_432 : decode cL_types 432 = .ok (.iload 11, 2) := by decide +kernel
theorem dL_types_434 : decode cL_types 434 = .ok (.goto 4, 3) := by decide +kernel
theorem dL_types_437 : decode cL_types 437 = .ok (.iconst 0, 1) := by decide +kernel
theorem dL_types_438 : decode cL_types 438 = .ok (.iadd, 1) := by decide +kernel
theorem dL_types_439 : decode cL_types 439 = .ok (.istore 5, 2) := by decide +kernel
theorem dL_types_441 : decode cL_types 441 = .ok (.iinc 8 1, 3) := by decide +kernel
theorem dL_types_444 : decode cL_types 444 = .ok (.goto (-422), 3) := by decide +kernel
theorem dL_types_447 : decode cL_types 447 = .ok (.aload_n 0, 1) := by decide +kernel
theorem dL_types_448 : decode cL_types 448 = .ok (.iconst 4, 1) := by decide +kernel
theorem dL_types_449 : decode cL_types 449 = .ok (.invokevirtual 21, 3) := by decide +kernel
theorem dL_types_452 : decode cL_types 452 = .ok (.iload 7, 2) := by decide +kernel
theorem dL_types_454 : decode cL_types 454 = .ok (.if_icmp .ne 18, 3) := by decide +kernel
theorem dL_types_457 : decode cL_types 457 = .ok (.aload_n 0, 1) := by decide +kernel
theorem dL_types_458 : decode cL_types 458 = .ok (.invokevirtual 28, 3) := by decide +kernel
theorem dL_types_461 : decode cL_types 461 = .ok (.sipush (-1004), 3) := by decide +kernel
theorem dL_types_464 : decode cL_types 464 = .ok (.if_icmp .ne 8, 3) := by decide +kernel
theorem dL_types_467 : decode cL_types 467 = .ok (.iload 6, 2) := by decide +kernel
theorem dL_types_469 : decode cL_types 469 = .ok (.goto 4, 3) := by decide +kernel
theorem dL_types_472 : decode cL_types 472 = .ok (.iconst (-1), 1) := by decide +kernel
theorem dL_types_473 : decode cL_types 473 = .ok (.ireturn, 1) := by decide +kernel
theorem dL_holds_0 : decode cL_holds 0 = .ok (.aload_n 0, 1) := by decide +kernel
theorem dL_holds_1 : decode cL_holds 1 = .ok (.iconst 0, 1) := by decide +kernel
theorem dL_holds_2 : decode cL_holds 2 = .ok (.invokevirtual 21, 3) := by decide +kernel
theorem dL_holds_5 : decode cL_holds 5 = .ok (.istore_n 1, 1) := by decide +kernel
theorem dL_holds_6 : decode cL_holds 6 = .ok (.aload_n 0, 1) := by decide +kernel
theorem dL_holds_7 : decode cL_holds 7 = .ok (.iconst 1, 1) := by decide +kernel
theorem dL_holds_8 : decode cL_holds 8 = .ok (.invokevirtual 21, 3) := by decide +kernel
theorem dL_holds_11 : decode cL_holds 11 = .ok (.istore_n 2, 1) := by decide +kernel
theorem dL_holds_12 : decode cL_holds 12 = .ok (.aload_n 0, 1) := by decide +kernel
theorem dL_holds_13 : decode cL_holds 13 = .ok (.iconst 1, 1) := by decide +kernel
theorem dL_holds_14 : decode cL_holds 14 = .ok (.invokevirtual 31, 3) := by decide +kernel
theorem dL_holds_17 : decode cL_holds 17 = .ok (.aload_n 0, 1) := by decide +kernel
theorem dL_holds_18 : decode cL_holds 18 = .ok (.iconst 2, 1) := by decide +kernel
theorem dL_holds_19 : decode cL_holds 19 = .ok (.invokevirtual 31, 3) := by decide +kernel
theorem dL_holds_22 : decode cL_holds 22 = .ok (.iadd, 1) := by decide +kernel
theorem dL_holds_23 : decode cL_holds 23 = .ok (.aload_n 0, 1) := by decide +kernel
theorem dL_holds_24 : decode cL_holds 24 = .ok (.iconst 3, 1) := by decide +kernel
theorem dL_holds_25 : decode cL_holds 25 = .ok (.invokevirtual 31, 3) := by decide +kernel
theorem dL_holds_28 : decode cL_holds 28 = .ok (.iadd, 1) := by decide +kernel
theorem dL_holds_29 : decode cL_holds 29 = .ok (.aload_n 0, 1) := by decide +kernel
theorem dL_holds_30 : decode cL_holds 30 = .ok (.iconst 4, 1) := by decide +kernel
theorem dL_holds_31 : decode cL_holds 31 = .ok (.invokevirtual 31, 3) := by decide +kernel
theorem dL_holds_34 : decode cL_holds 34 = .ok (.iadd, 1) := by decide +kernel
theorem dL_holds_35 : decode cL_holds 35 = .ok (.iload_n 1, 1) := by decide +kernel
theorem dL_holds_36 : decode cL_holds 36 = .ok (.if_icmp .ne 64, 3) := by decide +kernel
theorem dL_holds_39 : decode cL_holds 39 = .ok (.aload_n 0, 1) := by decide +kernel
theorem dL_holds_40 : decode cL_holds 40 = .ok (.iconst 5, 1) := by decide +kernel
theorem dL_holds_41 : decode cL_holds 41 = .ok (.invokevirtual 31, 3) := by decide +kernel
theorem dL_holds_44 : decode cL_holds 44 = .ok (.aload_n 0, 1) := by decide +kernel
theorem dL_holds_45 : decode cL_holds 45 = .ok (.iconst 1, 1) := by decide +kernel
theorem dL_holds_46 : decode cL_holds 46 = .ok (.invokevirtual 31, 3) := by decide +kernel
theorem dL_holds_49 : decode cL_holds 49 = .ok (.if_icmp .gt 51, 3) := by decide +kernel
theorem dL_holds_52 : decode cL_holds 52 = .ok (.aload_n 0, 1) := by decide +kernel
theorem dL_holds_53 : decode cL_holds 53 = .ok (.bipush 6, 2) := by decide +kernel
theorem dL_holds_55 : decode cL_holds 55 = .ok (.invokevirtual 31, 3) := by decide +kernel
theorem dL_holds_58 : decode cL_holds 58 = .ok (.aload_n 0, 1) := by decide +kernel
theorem dL_holds_59 : decode cL_holds 59 = .ok (.iconst 1, 1) := by decide +kernel
theorem dL_holds_60 : decode cL_holds 60 = .ok (.invokevirtual 31, 3) := by decide +kernel
theorem dL_holds_63 : decode cL_holds 63 = .ok (.if_icmp .gt 37, 3) := by decide +kernel
theorem dL_holds_66 : decode cL_holds 66 = .ok (.aload_n 0, 1) := by decide +kernel
theorem dL_holds_67 : decode cL_holds 67 = .ok (.bipush 6, 2) := by decide +kernel
theorem dL_holds_69 : decode cL_holds 69 = .ok (.invokevirtual 31, 3) := by decide +kernel
theorem dL_holds_72 : decode cL_holds 72 = .ok (.ifCond .ne 7, 3) := by decide +kernel
theorem dL_holds_75 : decode cL_holds 75 = .ok (.iconst 1, 1) := by decide +kernel
theorem dL_holds_76 : decode cL_holds 76 = .ok (.goto 4, 3) := by decide +kernel
theorem dL_holds_79 : decode cL_holds 79 = .ok (.iconst 0, 1) := by decide +kernel
theorem dL_holds_80 : decode cL_holds 80 = .ok (.aload_n 0, 1) := by decide +kernel
theorem dL_holds_81 : decode cL_holds 81 = .ok (.iconst 1, 1) := by decide +kernel
theorem dL_holds_82 : decode cL_holds 82 = .ok (.invokevirtual 31, 3) := by decide +kernel
theorem dL_holds_85 : decode cL_holds 85 = .ok (.ifCond .ne 7, 3) := by decide +kernel
theorem dL_holds_88 : decode cL_holds 88 = .ok (.iconst 1, 1) := by decide +kernel
theorem dL_holds_89 : decode cL_holds 89 = .ok (.goto 4, 3) := by decide +kernel
theorem dL_holds_92 : decode cL_holds 92 = .ok (.iconst 0, 1) := by decide +kernel
theorem dL_holds_93 : decode cL_holds 93 = .ok (.if_icmp .ne 7, 3) := by decide +kernel
theorem dL_holds_96 : decode cL_holds 96 = .ok (.iconst 1, 1) := by decide +kernel
theorem dL_holds_97 : decode cL_holds 97 = .ok (.goto 4, 3) := by decide +kernel
theorem dL_holds_100 : decode cL_holds 100 = .ok (.iconst 0, 1) := by decide +kernel
theorem dL_holds_101 : decode cL_holds 101 = .ok (.istore_n 3, 1) := by decide +kernel
theorem dL_holds_102 : decode cL_holds 102 = .ok (.iconst (-1), 1) := by decide +kernel
theorem dL_holds_103 : decode cL_holds 103 = .ok (.istore 4, 2) := by decide +kernel
theorem dL_holds_105 : decode cL_holds 105 = .ok (.iconst 0, 1) := by decide +kernel
theorem dL_holds_106 : decode cL_holds 106 = .ok (.istore 5, 2) := by decide +kernel
theorem dL_holds_108 : decode cL_holds 108 = .ok (.iload 5, 2) := by decide +kernel
theorem dL_holds_110 : decode cL_holds 110 = .ok (.iload_n 2, 1) := by decide +kernel
theorem dL_holds_111 : decode cL_holds 111 = .ok (.if_icmp .ge 126, 3) := by decide +kernel
theorem dL_holds_114 : decode cL_holds 114 = .ok (.iload_n 3, 1) := by decide +kernel
theorem dL_holds_115 : decode cL_holds 115 = .ok (.ifCond .eq 122, 3) := by decide +kernel
theorem dL_holds_118 : decode cL_holds 118 = .ok (.bipush 7, 2) := by decide +kernel
theorem dL_holds_120 : decode cL_holds 120 = .ok (.aload_n 0, 1) := by decide +kernel
theorem dL_holds_121 : decode cL_holds 121 = .ok (.iload 5, 2) := by decide +kernel
theorem dL_holds_123 : decode cL_holds 123 = .ok (.iconst 1, 1) := by decide +kernel
theorem dL_holds_124 : decode cL_holds 124 = .ok (.invokevirtual 34, 3) := by decide +kernel
theorem dL_holds_127 : decode cL_holds 127 = .ok (.imul, 1) := by decide +kernel
theorem dL_holds_128 : decode cL_holds 128 = .ok (.aload_n 0, 1) := by decide +kernel
theorem dL_holds_129 : decode cL_holds 129 = .ok (.iload 5, 2) := by decide +kernel
theorem dL_holds_131 : decode cL_holds 131 = .ok (.iconst 0, 1) := by decide +kernel
theorem dL_holds_132 : decode cL_holds 132 = .ok (.invokevirtual 34, 3) := by decide +kernel
theorem dL_holds_135 : decode cL_holds 135 = .ok (.iadd, 1) := by decide +kernel
theorem dL_holds_136 : decode cL_holds 136 = .ok (.istore 6, 2) := by decide +kernel
theorem dL_holds_138 : decode cL_holds 138 = .ok (.iload 6, 2) := by decide +kernel
theorem dL_holds_140 : decode cL_holds 140 = .ok (.iload 4, 2) := by decide +kernel
theorem dL_holds_142 : decode cL_holds 142 = .ok (.if_icmp .le 83, 3) := by decide +kernel
theorem dL_holds_145 : decode cL_holds 145 = .ok (.aload_n 0, 1) := by decide +kernel
theorem dL_holds_146 : decode cL_holds 146 = .ok (.iload 5, 2) := by decide +kernel
theorem dL_holds_148 : decode cL_holds 148 = .ok (.iconst 2, 1) := by decide +kernel
theorem dL_holds_149 : decode cL_holds 149 = .ok (.invokevirtual 34, 3) := by decide +kernel
theorem dL_holds_152 : decode cL_holds 152 = .ok (.aload_n 0, 1) := by decide +kernel
theorem dL_holds_153 : decode cL_holds 153 = .ok (.iload 5, 2) := by decide +kernel
theorem dL_holds_155 : decode cL_holds 155 = .ok (.iconst 1, 1) := by decide +kernel
theorem dL_holds_156 : decode cL_holds 156 = .ok (.invokevirtual 34, 3) := by decide +kernel
theorem dL_holds_159 : decode cL_holds 159 = .ok (.if_icmp .le 66, 3) := by decide +kernel
theorem dL_holds_162 : decode cL_holds 162 = .ok (.aload_n 0, 1) := by decide +kernel
theorem dL_holds_163 : decode cL_holds 163 = .ok (.iload 5, 2) := by decide +kernel
theorem dL_holds_165 : decode cL_holds 165 = .ok (.iconst 2, 1) := by decide +kernel
theorem dL_holds_166 : decode cL_holds 166 = .ok (.invokevirtual 34, 3) := by decide +kernel
theorem dL_holds_169 : decode cL_holds 169 = .ok (.iload_n 1, 1) := by decide +kernel
theorem dL_holds_170 : decode cL_holds 170 = .ok (.if_icmp .gt 55, 3) := by decide +kernel
theorem dL_holds_173 : decode cL_holds 173 = .ok (.aload_n 0, 1) := by decide +kernel
theorem dL_holds_174 : decode cL_holds 174 = .ok (.aload_n 0, 1) := by decide +kernel
theorem dL_holds_175 : decode cL_holds 175 = .ok (.iload 5, 2) := by decide +kernel
theorem dL_holds_177 : decode cL_holds 177 = .ok (.iconst 0, 1) := by decide +kernel
theorem dL_holds_178 : decode cL_holds 178 = .ok (.invokevirtual 34, 3) := by decide +kernel
theorem dL_holds_181 : decode cL_holds 181 = .ok (.aload_n 0, 1) := by decide +kernel
theorem dL_holds_182 : decode cL_holds 182 = .ok (.iload 5, 2) := by decide +kernel
theorem dL_holds_184 : decode cL_holds 184 = .ok (.iconst 1, 1) := by decide +kernel
theorem dL_holds_185 : decode cL_holds 185 = .ok (.invokevirtual 34, 3) := by decide +kernel
theorem dL_holds_188 : decode cL_holds 188 = .ok (.invokevirtual 38, 3) := by decide +kernel
theorem dL_holds_191 : decode cL_holds 191 = .ok (.iload 5, 2) := by decide +kernel
theorem dL_holds_193 : decode cL_holds 193 = .ok (.if_icmp .ne 32, 3) := by decide +kernel
theorem dL_holds_196 : decode cL_holds 196 = .ok (.aload_n 0, 1) := by decide +kernel
theorem dL_holds_197 : decode cL_holds 197 = .ok (.aload_n 0, 1) := by decide +kernel
theorem dL_holds_198 : decode cL_holds 198 = .ok (.iload 5, 2) := by decide +kernel
theorem dL_holds_200 : decode cL_holds 200 = .ok (.iconst 0, 1) := by decide +kernel
theorem dL_holds_201 : decode cL_holds 201 = .ok (.invokevirtual 34, 3) := by decide +kernel
theorem dL_holds_204 : decode cL_holds 204 = .ok (.aload_n 0, 1) := by decide +kernel
theorem dL_holds_205 : decode cL_holds 205 = .ok (.iload 5, 2) := by decide +kernel
theorem dL_holds_207 : decode cL_holds 207 = .ok (.iconst 2, 1) := by decide +kernel
theorem dL_holds_208 : decode cL_holds 208 = .ok (.invokevirtual 34, 3) := by decide +kernel
theorem dL_holds_211 : decode cL_holds 211 = .ok (.iconst 1, 1) := by decide +kernel
theorem dL_holds_212 : decode cL_holds 212 = .ok (.isub, 1) := by decide +kernel
theorem dL_holds_213 : decode cL_holds 213 = .ok (.invokevirtual 38, 3) := by decide +kernel
theorem dL_holds_216 : decode cL_holds 216 = .ok (.iload 5, 2) := by decide +kernel
theorem dL_holds_218 : decode cL_holds 218 = .ok (.if_icmp .ne 7, 3) := by decide +kernel
theorem dL_holds_221 : decode cL_holds 221 = .ok (.iconst 1, 1) := by decide +kernel
theorem dL_holds_222 : decode cL_holds 222 = .ok (.goto 4, 3) := by decide +kernel
theorem dL_holds_225 : decode cL_holds 225 = .ok (.iconst 0, 1) := by decide +kernel
theorem dL_holds_226 : decode cL_holds 226 = .ok (.istore_n 3, 1) := by decide +kernel
theorem dL_holds_227 : decode cL_holds 227 = .ok (.iload 6, 2) := by decide +kernel
theorem dL_holds_229 : decode cL_holds 229 = .ok (.istore 4, 2) := by decide +kernel
theorem dL_holds_231 : decode cL_holds 231 = .ok (.iinc 5 1, 3) := by decide +kernel
theorem dL_holds_234 : decode cL_holds 234 = .ok (.goto (-126), 3) := by decide +kernel
theorem dL_holds_237 : decode cL_holds 237 = .ok (.iconst 0, 1) := by decide +kernel
theorem dL_holds_238 : decode cL_holds 238 = .ok (.istore 5, 2) := by decide +kernel
theorem dL_holds_240 : decode cL_holds 240 = .ok (.iload 5, 2) := by decide +kernel
theorem dL_holds_242 : decode cL_holds 242 = .ok (.bipush 7, 2) := by decide +kernel
theorem dL_holds_244 : decode cL_holds 244 = .ok (.if_icmp .ge 60, 3) := by decide +kernel
theorem dL_holds_247 : decode cL_holds 247 = .ok (.iload_n 3, 1) := by decide +kernel
theorem dL_holds_248 : decode cL_holds 248 = .ok (.ifCond .eq 56, 3) := by decide +kernel
theorem dL_holds_251 : decode cL_holds 251 = .ok (.aload_n 0, 1) := by decide +kernel
theorem dL_holds_252 : decode cL_holds 252 = .ok (.iload 5, 2) := by decide +kernel
theorem dL_holds_254 : decode cL_holds 254 = .ok (.iconst (-1), 1) := by decide +kernel
theorem dL_holds_255 : decode cL_holds 255 = .ok (.invokevirtual 41, 3) := by decide +kernel
theorem dL_holds_258 : decode cL_holds 258 = .ok (.aload_n 0, 1) := by decide +kernel
theorem dL_holds_259 : decode cL_holds 259 = .ok (.iload 5, 2) := by decide +kernel
theorem dL_holds_261 : decode cL_holds 261 = .ok (.iconst 0, 1) := by decide +kernel
theorem dL_holds_262 : decode cL_holds 262 = .ok (.invokevirtual 41, 3) := by decide +kernel
theorem dL_holds_265 : decode cL_holds 265 = .ok (.aload_n 0, 1) := by decide +kernel
theorem dL_holds_266 : decode cL_holds 266 = .ok (.iload 5, 2) := by decide +kernel
theorem dL_holds_268 : decode cL_holds 268 = .ok (.iconst 1, 1) := by decide +kernel
theorem dL_holds_269 : decode cL_holds 269 = .ok (.invokevirtual 41, 3) := by decide +kernel
theorem dL_holds_272 : decode cL_holds 272 = .ok (.iadd, 1) := by decide +kernel
theorem dL_holds_273 : decode cL_holds 273 = .ok (.aload_n 0, 1) := by decide +kernel
theorem dL_holds_274 : decode cL_holds 274 = .ok (.iload 5, 2) := by decide +kernel
theorem dL_holds_276 : decode cL_holds 276 = .ok (.iconst 2, 1) := by decide +kernel
theorem dL_holds_277 : decode cL_holds 277 = .ok (.invokevirtual 41, 3) := by decide +kernel
theorem dL_holds_280 : decode cL_holds 280 = .ok (.iadd, 1) := by decide +kernel
theorem dL_holds_281 : decode cL_holds 281 = .ok (.aload_n 0, 1) := by decide +kernel
theorem dL_holds_282 : decode cL_holds 282 = .ok (.iload 5, 2) := by decide +kernel
theorem dL_holds_284 : decode cL_holds 284 = .ok (.iconst 3, 1) := by decide +kernel
theorem dL_holds_285 : decode cL_holds 285 = .ok (.invokevirtual 41, 3) := by decide +kernel
theorem dL_holds_288 : decode cL_holds 288 = .ok (.iadd, 1) := by decide +kernel
theorem dL_holds_289 : decode cL_holds 289 = .ok (.if_icmp .ne 7, 3) := by decide +kernel
theorem dL_holds_292 : decode cL_holds 292 = .ok (.iconst 1, 1) := by decide +kernel
theorem dL_holds_293 : decode cL_holds 293 = .ok (.goto 4, 3) := by decide +kernel
theorem dL_holds_296 : decode cL_holds 296 = .ok (.iconst 0, 1) := by decide +kernel
theorem dL_holds_297 : decode cL_holds 297 = .ok (.istore_n 3, 1) := by decide +kernel
theorem dL_holds_298 : decode cL_holds 298 = .ok (.iinc 5 1, 3) := by decide +kernel
theorem dL_holds_301 : decode cL_holds 301 = .ok (.goto (-61), 3) := by decide +kernel
theorem dL_holds_304 : decode cL_holds 304 = .ok (.aload_n 0, 1) := by decide +kernel
theorem dL_holds_305 : decode cL_holds 305 = .ok (.invokevirtual 44, 3) := by decide +kernel
theorem dL_holds_308 : decode cL_holds 308 = .ok (.istore 5, 2) := by decide +kernel
theorem dL_holds_310 : decode cL_holds 310 = .ok (.aload_n 0, 1) := by decide +kernel
theorem dL_holds_311 : decode cL_holds 311 = .ok (.iconst 2, 1) := by decide +kernel
theorem dL_holds_312 : decode cL_holds 312 = .ok (.invokevirtual 21, 3) := by decide +kernel
theorem dL_holds_315 : decode cL_holds 315 = .ok (.istore 6, 2) := by decide +kernel
theorem dL_holds_317 : decode cL_holds 317 = .ok (.iload_n 3, 1) := by decide +kernel
theorem dL_holds_318 : decode cL_holds 318 = .ok (.ifCond .eq 79, 3) := by decide +kernel
theorem dL_holds_321 : decode cL_holds 321 = .ok (.iload 5, 2) := by decide +kernel
theorem dL_holds_323 : decode cL_holds 323 = .ok (.ifCond .lt 31, 3) := by decide +kernel
theorem dL_holds_326 : decode cL_holds 326 = .ok (.aload_n 0, 1) := by decide +kernel
theorem dL_holds_327 : decode cL_holds 327 = .ok (.iconst 0, 1) := by decide +kernel
theorem dL_holds_328 : decode cL_holds 328 = .ok (.invokevirtual 31, 3) := by decide +kernel
theorem dL_holds_331 : decode cL_holds 331 = .ok (.ifCond .ne 7, 3) := by decide +kernel
theorem dL_holds_334 : decode cL_holds 334 = .ok (.iconst 1, 1) := by decide +kernel
theorem dL_holds_335 : decode cL_holds 335 = .ok (.goto 4, 3) := by decide +kernel
theorem dL_holds_338 : decode cL_holds 338 = .ok (.iconst 0, 1) := by decide +kernel
theorem dL_holds_339 : decode cL_holds 339 = .ok (.iload 5, 2) := by decide +kernel
theorem dL_holds_341 : decode cL_holds 341 = .ok (.iload 6, 2) := by decide +kernel
theorem dL_holds_343 : decode cL_holds 343 = .ok (.if_icmp .gt 7, 3) := by decide +kernel
theorem dL_holds_346 : decode cL_holds 346 = .ok (.iconst 1, 1) := by decide +kernel
theorem dL_holds_347 : decode cL_holds 347 = .ok (.goto 4, 3) := by decide +kernel
theorem dL_holds_350 : decode cL_holds 350 = .ok (.iconst 0, 1) := by decide +kernel
theorem dL_holds_351 : decode cL_holds 351 = .ok (.if_icmp .ne 46, 3) := by decide +kernel
theorem dL_holds_354 : decode cL_holds 354 = .ok (.aload_n 0, 1) := by decide +kernel
theorem dL_holds_355 : decode cL_holds 355 = .ok (.iconst 0, 1) := by decide +kernel
theorem dL_holds_356 : decode cL_holds 356 = .ok (.iload_n 1, 1) := by decide +kernel
theorem dL_holds_357 : decode cL_holds 357 = .ok (.iconst 0, 1) := by decide +kernel
theorem dL_holds_358 : decode cL_holds 358 = .ok (.iconst 0, 1) := by decide +kernel
theorem dL_holds_359 : decode cL_holds 359 = .ok (.invokevirtual 47, 3) := by decide +kernel
theorem dL_holds_362 : decode cL_holds 362 = .ok (.iload_n 1, 1) := by decide +kernel
theorem dL_holds_363 : decode cL_holds 363 = .ok (.if_icmp .ne 34, 3) := by decide +kernel
theorem dL_holds_366 : decode cL_holds 366 = .ok (.aload_n 0, 1) := by decide +kernel
theorem dL_holds_367 : decode cL_holds 367 = .ok (.iconst 0, 1) := by decide +kernel
theorem dL_holds_368 : decode cL_holds 368 = .ok (.iconst 0, 1) := by decide +kernel
theorem dL_holds_369 : decode cL_holds 369 = .ok (.invokevirtual 51, 3) := by decide +kernel
theorem dL_holds_372 : decode cL_holds 372 = .ok (.ifCond .ne 25, 3) := by decide +kernel
theorem dL_holds_375 : decode cL_holds 375 = .ok (.aload_n 0, 1) := by decide +kernel
theorem dL_holds_376 : decode cL_holds 376 = .ok (.iconst 0, 1) := by decide +kernel
theorem dL_holds_377 : decode cL_holds 377 = .ok (.iconst 1, 1) := by decide +kernel
theorem dL_holds_378 : decode cL_holds 378 = .ok (.invokevirtual 51, 3) := by decide +kernel
theorem dL_holds_381 : decode cL_holds 381 = .ok (.ifCond .ne 16, 3) := by decide +kernel
theorem dL_holds_384 : decode cL_holds 384 = .ok (.aload_n 0, 1) := by decide +kernel
theorem dL_holds_385 : decode cL_holds 385 = .ok (.iconst 0, 1) := by decide +kernel
theorem dL_holds_386 : decode cL_holds 386 = .ok (.iconst 2, 1) := by decide +kernel
theorem dL_holds_387 : decode cL_holds 387 = .ok (.invokevirtual 51, 3) := by decide +kernel
theorem dL_holds_390 : decode cL_holds 390 = .ok (.ifCond .ne 7, 3) := by decide +kernel
theorem dL_holds_393 : decode cL_holds 393 = .ok (.iconst 1, 1) := by decide +kernel
theorem dL_holds_394 : decode cL_holds 394 = .ok (.goto 4, 3) := by decide +kernel
theorem dL_holds_397 : decode cL_holds 397 = .ok (.iconst 0, 1) := by decide +kernel
theorem dL_holds_398 : decode cL_holds 398 = .ok (.istore_n 3, 1) := by decide +kernel
theorem dL_holds_399 : decode cL_holds 399 = .ok (.aload_n 0, 1) := by decide +kernel
theorem dL_holds_400 : decode cL_holds 400 = .ok (.iconst 0, 1) := by decide +kernel
theorem dL_holds_401 : decode cL_holds 401 = .ok (.invokevirtual 54, 3) := by decide +kernel
theorem dL_holds_404 : decode cL_holds 404 = .ok (.istore 7, 2) := by decide +kernel
theorem dL_holds_406 : decode cL_holds 406 = .ok (.iload_n 3, 1) := by decide +kernel
theorem dL_holds_407 : decode cL_holds 407 = .ok (.ifCond .eq 50, 3) := by decide +kernel
theorem dL_holds_410 : decode cL_holds 410 = .ok (.iload 7, 2) := by decide +kernel
theorem dL_holds_412 : decode cL_holds 412 = .ok (.ifCond .ge 14, 3) := by decide +kernel
theorem dL_holds_415 : decode cL_holds 415 = .ok (.aload_n 0, 1) := by decide +kernel
theorem dL_holds_416 : decode cL_holds 416 = .ok (.iconst 0, 1) := by decide +kernel
theorem dL_holds_417 : decode cL_holds 417 = .ok (.invokevirtual 31, 3) := by decide +kernel
theorem dL_holds_420 : decode cL_holds 420 = .ok (.ifCond .ne 37, 3) := by decide +kernel
theorem dL_holds_423 : decode cL_holds 423 = .ok (.goto 13, 3) := by decide +kernel
theorem dL_holds_426 : decode cL_holds 426 = .ok (.aload_n 0, 1) := by decide +kernel
theorem dL_holds_427 : decode cL_holds 427 = .ok (.iload 7, 2) := by decide +kernel
theorem dL_holds_429 : decode cL_holds 429 = .ok (.invokevirtual 57, 3) := by decide +kernel
theorem dL_holds_432 : decode cL_holds 432 = .ok (.iconst 1, 1) := by decide +kernel
theorem dL_holds_433 : decode cL_holds 433 = .ok (.if_icmp .ne 24, 3) := by decide +kernel
theorem dL_holds_436 : decode cL_holds 436 = .ok (.aload_n 0, 1) := by decide +kernel
theorem dL_holds_437 : decode cL_holds 437 = .ok (.invokevirtual 60, 3) := by decide +kernel
theorem dL_holds_440 : decode cL_holds 440 = .ok (.ifCond .lt 17, 3) := by decide +kernel
theorem dL_holds_443 : decode cL_holds 443 = .ok (.aload_n 0, 1) := by decide +kernel
theorem dL_holds_444 : decode cL_holds 444 = .ok (.invokevirtual 60, 3) := by decide +kernel
theorem dL_holds_447 : decode cL_holds 447 = .ok (.iconst 4, 1) := by decide +kernel
theorem dL_holds_448 : decode cL_holds 448 = .ok (.iload_n 2, 1) := by decide +kernel
theorem dL_holds_449 : decode cL_holds 449 = .ok (.imul, 1) := by decide +kernel
theorem dL_holds_450 : decode cL_holds 450 = .ok (.if_icmp .gt 7, 3) := by decide +kernel
theorem dL_holds_453 : decode cL_holds 453 = .ok (.iconst 1, 1) := by decide +kernel
theorem dL_holds_454 : decode cL_holds 454 = .ok (.goto 4, 3) := by decide +kernel
theorem dL_holds_457 : decode cL_holds 457 = .ok (.iconst 0, 1) := by decide +kernel
theorem dL_holds_458 : decode cL_holds 458 = .ok (.ireturn, 1) := by decide +kernel
theorem dL_copied_0 : decode cL_copied 0 = .ok (.aload_n 0, 1) := by decide +kernel
theorem dL_copied_1 : decode cL_copied 1 = .ok (.iconst 0, 1) := by decide +kernel
theorem dL_copied_2 : decode cL_copied 2 = .ok (.invokevirtual 21, 3) := by decide +kernel
theorem dL_copied_5 : decode cL_copied 5 = .ok (.iconst 2, 1) := by decide +kernel
theorem dL_copied_6 : decode cL_copied 6 = .ok (.idiv, 1) := by decide +kernel
theorem dL_copied_7 : decode cL_copied 7 = .ok (.istore_n 3, 1) := by decide +kernel
theorem dL_copied_8 : decode cL_copied 8 = .ok (.aload_n 0, 1) := by decide +kernel
theorem dL_copied_9 : decode cL_copied 9 = .ok (.iconst 1, 1) := by decide +kernel
theorem dL_copied_10 : decode cL_copied 10 = .ok (.invokevirtual 21, 3) := by decide +kernel
theorem dL_copied_13 : decode cL_copied 13 = .ok (.iconst 1, 1) := by decide +kernel
theorem dL_copied_14 : decode cL_copied 14 = .ok (.isub, 1) := by decide +kernel
theorem dL_copied_15 : decode cL_copied 15 = .ok (.istore 4, 2) := by decide +kernel
theorem dL_copied_17 : decode cL_copied 17 = .ok (.iload 4, 2) := by decide +kernel
theorem dL_copied_19 : decode cL_copied 19 = .ok (.ifCond .lt 65, 3) := by decide +kernel
theorem dL_copied_22 : decode cL_copied 22 = .ok (.aload_n 0, 1) := by decide +kernel
theorem dL_copied_23 : decode cL_copied 23 = .ok (.iload 4, 2) := by decide +kernel
theorem dL_copied_25 : decode cL_copied 25 = .ok (.iconst 1, 1) := by decide +kernel
theorem dL_copied_26 : decode cL_copied 26 = .ok (.invokevirtual 34, 3) := by decide +kernel
theorem dL_copied_29 : decode cL_copied 29 = .ok (.iload_n 3, 1) := by decide +kernel
theorem dL_copied_30 : decode cL_copied 30 = .ok (.if_icmp .ge 25, 3) := by decide +kernel
theorem dL_copied_33 : decode cL_copied 33 = .ok (.aload_n 0, 1) := by decide +kernel
theorem dL_copied_34 : decode cL_copied 34 = .ok (.iload 4, 2) := by decide +kernel
theorem dL_copied_36 : decode cL_copied 36 = .ok (.iconst 3, 1) := by decide +kernel
theorem dL_copied_37 : decode cL_copied 37 = .ok (.invokevirtual 34, 3) := by decide +kernel
theorem dL_copied_40 : decode cL_copied 40 = .ok (.iconst 1, 1) := by decide +kernel
theorem dL_copied_41 : decode cL_copied 41 = .ok (.if_icmp .eq 18, 3) := by decide +kernel
theorem dL_copied_44 : decode cL_copied 44 = .ok (.aload_n 0, 1) := by decide +kernel
theorem dL_copied_45 : decode cL_copied 45 = .ok (.iload 4, 2) := by decide +kernel
theorem dL_copied_47 : decode cL_copied 47 = .ok (.iconst 2, 1) := by decide +kernel
theorem dL_copied_48 : decode cL_copied 48 = .ok (.invokevirtual 34, 3) := by decide +kernel
theorem dL_copied_51 : decode cL_copied 51 = .ok (.iload_n 3, 1) := by decide +kernel
theorem dL_copied_52 : decode cL_copied 52 = .ok (.if_icmp .le 7, 3) := by decide +kernel
theorem dL_copied_55 : decode cL_copied 55 = .ok (.iconst 1, 1) := by decide +kernel
theorem dL_copied_56 : decode cL_copied 56 = .ok (.goto 4, 3) := by decide +kernel
theorem dL_copied_59 : decode cL_copied 59 = .ok (.iconst 0, 1) := by decide +kernel
theorem dL_copied_60 : decode cL_copied 60 = .ok (.istore 5, 2) := by decide +kernel
theorem dL_copied_62 : decode cL_copied 62 = .ok (.iload 5, 2) := by decide +kernel
theorem dL_copied_64 : decode cL_copied 64 = .ok (.ifCond .eq 14, 3) := by decide +kernel
theorem dL_copied_67 : decode cL_copied 67 = .ok (.aload_n 0, 1) := by decide +kernel
theorem dL_copied_68 : decode cL_copied 68 = .ok (.iload 4, 2) := by decide +kernel
theorem dL_copied_70 : decode cL_copied 70 = .ok (.invokevirtual 63, 3) := by decide +kernel
theorem dL_copied_73 : decode cL_copied 73 = .ok (.ifCond .ge 5, 3) := by decide +kernel
theorem dL_copied_76 : decode cL_copied 76 = .ok (.iconst 0, 1) := by decide +kernel
theorem dL_copied_77 : decode cL_copied 77 = .ok (.ireturn, 1) := by decide +kernel
theorem dL_copied_78 : decode cL_copied 78 = .ok (.iinc 4 (-1), 3) := by decide +kernel
theorem dL_copied_81 : decode cL_copied 81 = .ok (.goto (-64), 3) := by decide +kernel
theorem dL_copied_84 : decode cL_copied 84 = .ok (.aload_n 0, 1) := by decide +kernel
theorem dL_copied_85 : decode cL_copied 85 = .ok (.iconst 1, 1) := by decide +kernel
theorem dL_copied_86 : decode cL_copied 86 = .ok (.invokevirtual 21, 3) := by decide +kernel
theorem dL_copied_89 : decode cL_copied 89 = .ok (.istore 5, 2) := by decide +kernel
theorem dL_copied_91 : decode cL_copied 91 = .ok (.iload 5, 2) := by decide +kernel
theorem dL_copied_93 : decode cL_copied 93 = .ok (.bipush 30, 2) := by decide +kernel
theorem dL_copied_95 : decode cL_copied 95 = .ok (.if_icmp .le 5, 3) := by decide +kernel
theorem dL_copied_98 : decode cL_copied 98 = .ok (.iconst 1, 1) := by decide +kernel
theorem dL_copied_99 : decode cL_copied 99 = .ok (.ireturn, 1) := by decide +kernel
theorem dL_copied_100 : decode cL_copied 100 = .ok (.aload_n 1, 1) := by decide +kernel
theorem dL_copied_101 : decode cL_copied 101 = .ok (.iload_n 2, 1) := by decide +kernel
theorem dL_copied_102 : decode cL_copied 102 = .ok (.invokestatic 15, 3) := by decide +kernel
theorem dL_copied_105 : decode cL_copied 105 = .ok (.iconst 2, 1) := by decide +kernel
theorem dL_copied_106 : decode cL_copied 106 = .ok (.irem, 1) := by decide +kernel
theorem dL_copied_107 : decode cL_copied 107 = .ok (.iconst 1, 1) := by decide +kernel
theorem dL_copied_108 : decode cL_copied 108 = .ok (.if_icmp .ne 7, 3) := by decide +kernel
theorem dL_copied_111 : decode cL_copied 111 = .ok (.iconst 1, 1) := by decide +kernel
theorem dL_copied_112 : decode cL_copied 112 = .ok (.goto 4, 3) := by decide +kernel
theorem dL_copied_115 : decode cL_copied 115 = .ok (.iconst 0, 1) := by decide +kernel
theorem dL_copied_116 : decode cL_copied 116 = .ok (.istore 6, 2) := by decide +kernel
theorem dL_copied_118 : decode cL_copied 118 = .ok (.aload_n 0, 1) := by decide +kernel
theorem dL_copied_119 : decode cL_copied 119 = .ok (.iconst 0, 1) := by decide +kernel
theorem dL_copied_120 : decode cL_copied 120 = .ok (.iload_n 3, 1) := by decide +kernel
theorem dL_copied_121 : decode cL_copied 121 = .ok (.iload_n 3, 1) := by decide +kernel
theorem dL_copied_122 : decode cL_copied 122 = .ok (.iload 6, 2) := by decide +kernel
theorem dL_copied_124 : decode cL_copied 124 = .ok (.ifCond .eq 7, 3) := by decide +kernel
theorem dL_copied_127 : decode cL_copied 127 = .ok (.iconst 1, 1) := by decide +kernel
theorem dL_copied_128 : decode cL_copied 128 = .ok (.goto 4, 3) := by decide +kernel
theorem dL_copied_131 : decode cL_copied 131 = .ok (.iconst 0, 1) := by decide +kernel
theorem dL_copied_132 : decode cL_copied 132 = .ok (.iconst 0, 1) := by decide +kernel
theorem dL_copied_133 : decode cL_copied 133 = .ok (.invokevirtual 66, 3) := by decide +kernel
theorem dL_copied_136 : decode cL_copied 136 = .ok (.istore 7, 2) := by decide +kernel
theorem dL_copied_138 : decode cL_copied 138 = .ok (.iload 7, 2) := by decide +kernel
theorem dL_copied_140 : decode cL_copied 140 = .ok (.iload 5, 2) := by decide +kernel
theorem dL_copied_142 : decode cL_copied 142 = .ok (.if_icmp .ne 26, 3) := by decide +kernel
theorem dL_copied_145 : decode cL_copied 145 = .ok (.aload_n 0, 1) := by decide +kernel
theorem dL_copied_146 : decode cL_copied 146 = .ok (.iconst 1, 1) := by decide +kernel
theorem dL_copied_147 : decode cL_copied 147 = .ok (.invokevirtual 21, 3) := by decide +kernel
theorem dL_copied_150 : decode cL_copied 150 = .ok (.iconst 2, 1) := by decide +kernel
theorem dL_copied_151 : decode cL_copied 151 = .ok (.iload 5, 2) := by decide +kernel
theorem dL_copied_153 : decode cL_copied 153 = .ok (.imul, 1) := by decide +kernel
theorem dL_copied_154 : decode cL_copied 154 = .ok (.if_icmp .ne 14, 3) := by decide +kernel
theorem dL_copied_157 : decode cL_copied 157 = .ok (.aload_n 0, 1) := by decide +kernel
theorem dL_copied_158 : decode cL_copied 158 = .ok (.invokestatic 70, 3) := by decide +kernel
theorem dL_copied_161 : decode cL_copied 161 = .ok (.ifCond .eq 7, 3) := by decide +kernel
theorem dL_copied_164 : decode cL_copied 164 = .ok (.iconst 1, 1) := by decide +kernel
theorem dL_copied_165 : decode cL_copied 165 = .ok (.goto 4, 3) := by decide +kernel
theorem dL_copied_168 : decode cL_copied 168 = .ok (.iconst 0, 1) := by decide +kernel
theorem dL_copied_169 : decode cL_copied 169 = .ok (.istore 8, 2) := by decide +kernel
theorem dL_copied_171 : decode cL_copied 171 = .ok (.aload_n 0, 1) := by decide +kernel
theorem dL_copied_172 : decode cL_copied 172 = .ok (.iconst 0, 1) := by decide +kernel
theorem dL_copied_173 : decode cL_copied 173 = .ok (.iload_n 3, 1) := by decide +kernel
theorem dL_copied_174 : decode cL_copied 174 = .ok (.iload_n 3, 1) := by decide +kernel
theorem dL_copied_175 : decode cL_copied 175 = .ok (.iload 6, 2) := by decide +kernel
theorem dL_copied_177 : decode cL_copied 177 = .ok (.ifCond .eq 7, 3) := by decide +kernel
theorem dL_copied_180 : decode cL_copied 180 = .ok (.iconst 1, 1) := by decide +kernel
theorem dL_copied_181 : decode cL_copied 181 = .ok (.goto 4, 3) := by decide +kernel
theorem dL_copied_184 : decode cL_copied 184 = .ok (.iconst 0, 1) := by decide +kernel
theorem dL_copied_185 : decode cL_copied 185 = .ok (.invokevirtual 47, 3) := by decide +kernel
theorem dL_copied_188 : decode cL_copied 188 = .ok (.istore 9, 2) := by decide +kernel
theorem dL_copied_190 : decode cL_copied 190 = .ok (.aload_n 0, 1) := by decide +kernel
theorem dL_copied_191 : decode cL_copied 191 = .ok (.iload_n 3, 1) := by decide +kernel
theorem dL_copied_192 : decode cL_copied 192 = .ok (.iconst 2, 1) := by decide +kernel
theorem dL_copied_193 : decode cL_copied 193 = .ok (.iload_n 3, 1) := by decide +kernel
theorem dL_copied_194 : decode cL_copied 194 = .ok (.imul, 1) := by decide +kernel
theorem dL_copied_195 : decode cL_copied 195 = .ok (.iconst 0, 1) := by decide +kernel
theorem dL_copied_196 : decode cL_copied 196 = .ok (.iload 6, 2) := by decide +kernel
theorem dL_copied_198 : decode cL_copied 198 = .ok (.ifCond .eq 7, 3) := by decide +kernel
theorem dL_copied_201 : decode cL_copied 201 = .ok (.iconst 1, 1) := by decide +kernel
theorem dL_copied_202 : decode cL_copied 202 = .ok (.goto 4, 3) := by decide +kernel
theorem dL_copied_205 : decode cL_copied 205 = .ok (.iconst 0, 1) := by decide +kernel
theorem dL_copied_206 : decode cL_copied 206 = .ok (.invokevirtual 47, 3) := by decide +kernel
theorem dL_copied_209 : decode cL_copied 209 = .ok (.istore 10, 2) := by decide +kernel
theorem dL_copied_211 : decode cL_copied 211 = .ok (.iload 8, 2) := by decide +kernel
theorem dL_copied_213 : decode cL_copied 213 = .ok (.ifCond .eq 20, 3) := by decide +kernel
theorem dL_copied_216 : decode cL_copied 216 = .ok (.iload 9, 2) := by decide +kernel
theorem dL_copied_218 : decode cL_copied 218 = .ok (.iload 10, 2) := by decide +kernel
theorem dL_copied_220 : decode cL_copied 220 = .ok (.if_icmp .ne 13, 3) := by decide +kernel
theorem dL_copied_223 : decode cL_copied 223 = .ok (.iload 9, 2) := by decide +kernel
theorem dL_copied_225 : decode cL_copied 225 = .ok (.iload_n 3, 1) := by decide +kernel
theorem dL_copied_226 : decode cL_copied 226 = .ok (.if_icmp .gt 7, 3) := by decide +kernel
theorem dL_copied_229 : decode cL_copied 229 = .ok (.iconst 1, 1) := by decide +kernel
theorem dL_copied_230 : decode cL_copied 230 = .ok (.goto 4, 3) := by decide +kernel
theorem dL_copied_233 : decode cL_copied 233 = .ok (.iconst 0, 1) := by decide +kernel
theorem dL_copied_234 : decode cL_copied 234 = .ok (.istore 8, 2) := by decide +kernel
theorem dL_copied_236 : decode cL_copied 236 = .ok (.iconst 0, 1) := by decide +kernel
theorem dL_copied_237 : decode cL_copied 237 = .ok (.istore 11, 2) := by decide +kernel
theorem dL_copied_239 : decode cL_copied 239 = .ok (.iconst 0, 1) := by decide +kernel
theorem dL_copied_240 : decode cL_copied 240 = .ok (.istore 12, 2) := by decide +kernel
theorem dL_copied_242 : decode cL_copied 242 = .ok (.iload 12, 2) := by decide +kernel
theorem dL_copied_244 : decode cL_copied 244 = .ok (.bipush 7, 2) := by decide +kernel
theorem dL_copied_246 : decode cL_copied 246 = .ok (.if_icmp .ge 46, 3) := by decide +kernel
theorem dL_copied_249 : decode cL_copied 249 = .ok (.aload_n 0, 1) := by decide +kernel
theorem dL_copied_250 : decode cL_copied 250 = .ok (.iload 12, 2) := by decide +kernel
theorem dL_copied_252 : decode cL_copied 252 = .ok (.iload_n 3, 1) := by decide +kernel
theorem dL_copied_253 : decode cL_copied 253 = .ok (.iconst 1, 1) := by decide +kernel
theorem dL_copied_254 : decode cL_copied 254 = .ok (.isub, 1) := by decide +kernel
theorem dL_copied_255 : decode cL_copied 255 = .ok (.invokevirtual 38, 3) := by decide +kernel
theorem dL_copied_258 : decode cL_copied 258 = .ok (.istore 13, 2) := by decide +kernel
theorem dL_copied_260 : decode cL_copied 260 = .ok (.iload 11, 2) := by decide +kernel
theorem dL_copied_262 : decode cL_copied 262 = .ok (.iload 13, 2) := by decide +kernel
theorem dL_copied_264 : decode cL_copied 264 = .ok (.ifCond .lt 18, 3) := by decide +kernel
theorem dL_copied_267 : decode cL_copied 267 = .ok (.aload_n 0, 1) := by decide +kernel
theorem dL_copied_268 : decode cL_copied 268 = .ok (.iload 13, 2) := by decide +kernel
theorem dL_copied_270 : decode cL_copied 270 = .ok (.iconst 3, 1) := by decide +kernel
theorem dL_copied_271 : decode cL_copied 271 = .ok (.invokevirtual 34, 3) := by decide +kernel
theorem dL_copied_274 : decode cL_copied 274 = .ok (.iconst 1, 1) := by decide +kernel
theorem dL_copied_275 : decode cL_copied 275 = .ok (.if_icmp .ne 7, 3) := by decide +kernel
theorem dL_copied_278 : decode cL_copied 278 = .ok (.iconst 1, 1) := by decide +kernel
theorem dL_copied_279 : decode cL_copied 279 = .ok (.goto 4, 3) := by decide +kernel
theorem dL_copied_282 : decode cL_copied 282 = .ok (.iconst 0, 1) := by decide +kernel
theorem dL_copied_283 : decode cL_copied 283 = .ok (.iadd, 1) := by decide +kernel
theorem dL_copied_284 : decode cL_copied 284 = .ok (.istore 11, 2) := by decide +kernel
theorem dL_copied_286 : decode cL_copied 286 = .ok (.iinc 12 1, 3) := by decide +kernel
theorem dL_copied_289 : decode cL_copied 289 = .ok (.goto (-47), 3) := by decide +kernel
theorem dL_copied_292 : decode cL_copied 292 = .ok (.iload 8, 2) := by decide +kernel
theorem dL_copied_294 : decode cL_copied 294 = .ok (.ifCond .eq 18, 3) := by decide +kernel
theorem dL_copied_297 : decode cL_copied 297 = .ok (.iload 11, 2) := by decide +kernel
theorem dL_copied_299 : decode cL_copied 299 = .ok (.ifCond .gt 9, 3) := by decide +kernel
theorem dL_copied_302 : decode cL_copied 302 = .ok (.iload 9, 2) := by decide +kernel
theorem dL_copied_304 : decode cL_copied 304 = .ok (.iload_n 3, 1) := by decide +kernel
theorem dL_copied_305 : decode cL_copied 305 = .ok (.if_icmp .ne 7, 3) := by decide +kernel
theorem dL_copied_308 : decode cL_copied 308 = .ok (.iconst 1, 1) := by decide +kernel
theorem dL_copied_309 : decode cL_copied 309 = .ok (.goto 4, 3) := by decide +kernel
theorem dL_copied_312 : decode cL_copied 312 = .ok (.iconst 0, 1) := by decide +kernel
theorem dL_copied_313 : decode cL_copied 313 = .ok (.istore 8, 2) := by decide +kernel
theorem dL_copied_315 : decode cL_copied 315 = .ok (.iload 8, 2) := by decide +kernel
theorem dL_copied_317 : decode cL_copied 317 = .ok (.ifCond .eq 24, 3) := by decide +kernel
theorem dL_copied_320 : decode cL_copied 320 = .ok (.aload_n 0, 1) := by decide +kernel
theorem dL_copied_321 : decode cL_copied 321 = .ok (.invokevirtual 74, 3) := by decide +kernel
theorem dL_copied_324 : decode cL_copied 324 = .ok (.ifCond .lt 17, 3) := by decide +kernel
theorem dL_copied_327 : decode cL_copied 327 = .ok (.aload_n 0, 1) := by decide +kernel
theorem dL_copied_328 : decode cL_copied 328 = .ok (.iconst 1, 1) := by decide +kernel
theorem dL_copied_329 : decode cL_copied 329 = .ok (.invokevirtual 21, 3) := by decide +kernel
theorem dL_copied_332 : decode cL_copied 332 = .ok (.iload 5, 2) := by decide +kernel
theorem dL_copied_334 : decode cL_copied 334 = .ok (.if_icmp .ne 7, 3) := by decide +kernel
theorem dL_copied_337 : decode cL_copied 337 = .ok (.iconst 1, 1) := by decide +kernel
theorem dL_copied_338 : decode cL_copied 338 = .ok (.goto 4, 3) := by decide +kernel
theorem dL_copied_341 : decode cL_copied 341 = .ok (.iconst 0, 1) := by decide +kernel
theorem dL_copied_342 : decode cL_copied 342 = .ok (.istore 8, 2) := by decide +kernel
theorem dL_copied_344 : decode cL_copied 344 = .ok (.iload 8, 2) := by decide +kernel
theorem dL_copied_346 : decode cL_copied 346 = .ok (.ifCond .eq 14, 3) := by decide +kernel
theorem dL_copied_349 : decode cL_copied 349 = .ok (.aload_n 0, 1) := by decide +kernel
theorem dL_copied_350 : decode cL_copied 350 = .ok (.invokestatic 70, 3) := by decide +kernel
theorem dL_copied_353 : decode cL_copied 353 = .ok (.ifCond .eq 7, 3) := by decide +kernel
theorem dL_copied_356 : decode cL_copied 356 = .ok (.iconst 1, 1) := by decide +kernel
theorem dL_copied_357 : decode cL_copied 357 = .ok (.goto 4, 3) := by decide +kernel
theorem dL_copied_360 : decode cL_copied 360 = .ok (.iconst 0, 1) := by decide +kernel
theorem dL_copied_361 : decode cL_copied 361 = .ok (.ireturn, 1) := by decide +kernel
theorem dL_law_0 : decode cL_law 0 = .ok (.new 10, 3) := by decide +kernel
theorem dL_law_3 : decode cL_law 3 = .ok (.dup, 1) := by decide +kernel
theorem dL_law_4 : decode cL_law 4 = .ok (.invokespecial 77, 3) := by decide +kernel
theorem dL_law_7 : decode cL_law 7 = .ok (.astore_n 1, 1) := by decide +kernel
theorem dL_law_8 : decode cL_law 8 = .ok (.aload_n 1, 1) := by decide +kernel
theorem dL_law_9 : decode cL_law 9 = .ok (.invokestatic 70, 3) := by decide +kernel
theorem dL_law_12 : decode cL_law 12 = .ok (.ifCond .eq 24, 3) := by decide +kernel
theorem dL_law_15 : decode cL_law 15 = .ok (.aload_n 1, 1) := by decide +kernel
theorem dL_law_16 : decode cL_law 16 = .ok (.invokevirtual 28, 3) := by decide +kernel
theorem dL_law_19 : decode cL_law 19 = .ok (.sipush (-1004), 3) := by decide +kernel
theorem dL_law_22 : decode cL_law 22 = .ok (.if_icmp .ne 14, 3) := by decide +kernel
theorem dL_law_25 : decode cL_law 25 = .ok (.aload_n 1, 1) := by decide +kernel
theorem dL_law_26 : decode cL_law 26 = .ok (.invokevirtual 78, 3) := by decide +kernel
theorem dL_law_29 : decode cL_law 29 = .ok (.ifCond .ne 7, 3) := by decide +kernel
theorem dL_law_32 : decode cL_law 32 = .ok (.iconst 1, 1) := by decide +kernel
theorem dL_law_33 : decode cL_law 33 = .ok (.goto 4, 3) := by decide +kernel
theorem dL_law_36 : decode cL_law 36 = .ok (.iconst 0, 1) := by decide +kernel
theorem dL_law_37 : decode cL_law 37 = .ok (.istore_n 2, 1) := by decide +kernel
theorem dL_law_38 : decode cL_law 38 = .ok (.iconst 0, 1) := by decide +kernel
theorem dL_law_39 : decode cL_law 39 = .ok (.istore_n 3, 1) := by decide +kernel
theorem dL_law_40 : decode cL_law 40 = .ok (.iload_n 3, 1) := by decide +kernel
theorem dL_law_41 : decode cL_law 41 = .ok (.iconst 3, 1) := by decide +kernel
theorem dL_law_42 : decode cL_law 42 = .ok (.if_icmp .ge 343, 3) := by decide +kernel
theorem dL_law_45 : decode cL_law 45 = .ok (.iload_n 2, 1) := by decide +kernel
theorem dL_law_46 : decode cL_law 46 = .ok (.ifCond .eq 339, 3) := by decide +kernel
theorem dL_law_49 : decode cL_law 49 = .ok (.aload_n 1, 1) := by decide +kernel
theorem dL_law_50 : decode cL_law 50 = .ok (.bipush 8, 2) := by decide +kernel
theorem dL_law_52 : decode cL_law 52 = .ok (.aload_n 0, 1) := by decide +kernel
theorem dL_law_53 : decode cL_law 53 = .ok (.bipush 20, 2) := by decide +kernel
theorem dL_law_55 : decode cL_law 55 = .ok (.iload_n 3, 1) := by decide +kernel
theorem dL_law_56 : decode cL_law 56 = .ok (.imul, 1) := by decide +kernel
theorem dL_law_57 : decode cL_law 57 = .ok (.invokestatic 15, 3) := by decide +kernel
theorem dL_law_60 : decode cL_law 60 = .ok (.bipush 33, 2) := by decide +kernel
theorem dL_law_62 : decode cL_law 62 = .ok (.irem, 1) := by decide +kernel
theorem dL_law_63 : decode cL_law 63 = .ok (.iadd, 1) := by decide +kernel
theorem dL_law_64 : decode cL_law 64 = .ok (.invokevirtual 81, 3) := by decide +kernel
theorem dL_law_67 : decode cL_law 67 = .ok (.iconst 4, 1) := by decide +kernel
theorem dL_law_68 : decode cL_law 68 = .ok (.if_icmp .lt 28, 3) := by decide +kernel
theorem dL_law_71 : decode cL_law 71 = .ok (.aload_n 1, 1) := by decide +kernel
theorem dL_law_72 : decode cL_law 72 = .ok (.aload_n 0, 1) := by decide +kernel
theorem dL_law_73 : decode cL_law 73 = .ok (.bipush 20, 2) := by decide +kernel
theorem dL_law_75 : decode cL_law 75 = .ok (.iload_n 3, 1) := by decide +kernel
theorem dL_law_76 : decode cL_law 76 = .ok (.imul, 1) := by decide +kernel
theorem dL_law_77 : decode cL_law 77 = .ok (.invokestatic 15, 3) := by decide +kernel
theorem dL_law_80 : decode cL_law 80 = .ok (.bipush 40, 2) := by decide +kernel
theorem dL_law_82 : decode cL_law 82 = .ok (.idiv, 1) := by decide +kernel
theorem dL_law_83 : decode cL_law 83 = .ok (.bipush 9, 2) := by decide +kernel
theorem dL_law_85 : decode cL_law 85 = .ok (.irem, 1) := by decide +kernel
theorem dL_law_86 : decode cL_law 86 = .ok (.invokevirtual 84, 3) := by decide +kernel
theorem dL_law_89 : decode cL_law 89 = .ok (.ifCond .lt 7, 3) := by decide +kernel
theorem dL_law_92 : decode cL_law 92 = .ok (.iconst 1, 1) := by decide +kernel
theorem dL_law_93 : decode cL_law 93 = .ok (.goto 4, 3) := by decide +kernel
theorem dL_law_96 : decode cL_law 96 = .ok (.iconst 0, 1) := by decide +kernel
theorem dL_law_97 : decode cL_law 97 = .ok (.istore_n 2, 1) := by decide +kernel
theorem dL_law_98 : decode cL_law 98 = .ok (.iload_n 2, 1) := by decide +kernel
theorem dL_law_99 : decode cL_law 99 = .ok (.ifCond .eq 17, 3) := by decide +kernel
theorem dL_law_102 : decode cL_law 102 = .ok (.aload_n 1, 1) := by decide +kernel
theorem dL_law_103 : decode cL_law 103 = .ok (.aload_n 0, 1) := by decide +kernel
theorem dL_law_104 : decode cL_law 104 = .ok (.bipush 20, 2) := by decide +kernel
theorem dL_law_106 : decode cL_law 106 = .ok (.iload_n 3, 1) := by decide +kernel
theorem dL_law_107 : decode cL_law 107 = .ok (.imul, 1) := by decide +kernel
theorem dL_law_108 : decode cL_law 108 = .ok (.iconst 1, 1) := by decide +kernel
theorem dL_law_109 : decode cL_law 109 = .ok (.iadd, 1) := by decide +kernel
theorem dL_law_110 : decode cL_law 110 = .ok (.invokestatic 87, 3) := by decide +kernel
theorem dL_law_113 : decode cL_law 113 = .ok (.goto 4, 3) := by decide +kernel
theorem dL_law_116 : decode cL_law 116 = .ok (.iconst (-1), 1) := by decide +kernel
theorem dL_law_117 : decode cL_law 117 = .ok (.istore 4, 2) := by decide +kernel
theorem dL_law_119 : decode cL_law 119 = .ok (.iload_n 2, 1) := by decide +kernel
theorem dL_law_120 : decode cL_law 120 = .ok (.ifCond .eq 38, 3) := by decide +kernel
theorem dL_law_123 : decode cL_law 123 = .ok (.iload 4, 2) := by decide +kernel
theorem dL_law_125 : decode cL_law 125 = .ok (.ifCond .lt 33, 3) := by decide +kernel
theorem dL_law_128 : decode cL_law 128 = .ok (.aload_n 1, 1) := by decide +kernel
theorem dL_law_129 : decode cL_law 129 = .ok (.invokevirtual 78, 3) := by decide +kernel
theorem dL_law_132 : decode cL_law 132 = .ok (.iload 4, 2) := by decide +kernel
theorem dL_law_134 : decode cL_law 134 = .ok (.if_icmp .ne 24, 3) := by decide +kernel
theorem dL_law_137 : decode cL_law 137 = .ok (.aload_n 1, 1) := by decide +kernel
theorem dL_law_138 : decode cL_law 138 = .ok (.iconst 1, 1) := by decide +kernel
theorem dL_law_139 : decode cL_law 139 = .ok (.invokevirtual 21, 3) := by decide +kernel
theorem dL_law_142 : decode cL_law 142 = .ok (.iload 4, 2) := by decide +kernel
theorem dL_law_144 : decode cL_law 144 = .ok (.if_icmp .ne 14, 3) := by decide +kernel
theorem dL_law_147 : decode cL_law 147 = .ok (.aload_n 1, 1) := by decide +kernel
theorem dL_law_148 : decode cL_law 148 = .ok (.invokestatic 70, 3) := by decide +kernel
theorem dL_law_151 : decode cL_law 151 = .ok (.ifCond .eq 7, 3) := by decide +kernel
theorem dL_law_154 : decode cL_law 154 = .ok (.iconst 1, 1) := by decide +kernel
theorem dL_law_155 : decode cL_law 155 = .ok (.goto 4, 3) := by decide +kernel
theorem dL_law_158 : decode cL_law 158 = .ok (.iconst 0, 1) := by decide +kernel
theorem dL_law_159 : decode cL_law 159 = .ok (.istore_n 2, 1) := by decide +kernel
theorem dL_law_160 : decode cL_law 160 = .ok (.iconst 0, 1) := by decide +kernel
theorem dL_law_161 : decode cL_law 161 = .ok (.istore 5, 2) := by decide +kernel
theorem dL_law_163 : decode cL_law 163 = .ok (.iload 5, 2) := by decide +kernel
theorem dL_law_165 : decode cL_law 165 = .ok (.iconst 3, 1) := by decide +kernel
theorem dL_law_166 : decode cL_law 166 = .ok (.if_icmp .ge 162, 3) := by decide +kernel
theorem dL_law_169 : decode cL_law 169 = .ok (.iload_n 2, 1) := by decide +kernel
theorem dL_law_170 : decode cL_law 170 = .ok (.ifCond .eq 158, 3) := by decide +kernel
theorem dL_law_173 : decode cL_law 173 = .ok (.aload_n 0, 1) := by decide +kernel
theorem dL_law_174 : decode cL_law 174 = .ok (.bipush 20, 2) := by decide +kernel
theorem dL_law_176 : decode cL_law 176 = .ok (.iload_n 3, 1) := by decide +kernel
theorem dL_law_177 : decode cL_law 177 = .ok (.imul, 1) := by decide +kernel
theorem dL_law_178 : decode cL_law 178 = .ok (.bipush 15, 2) := by decide +kernel
theorem dL_law_180 : decode cL_law 180 = .ok (.iadd, 1) := by decide +kernel
theorem dL_law_181 : decode cL_law 181 = .ok (.iload 5, 2) := by decide +kernel
theorem dL_law_183 : decode cL_law 183 = .ok (.iadd, 1) := by decide +kernel
theorem dL_law_184 : decode cL_law 184 = .ok (.invokestatic 15, 3) := by decide +kernel
theorem dL_law_187 : decode cL_law 187 = .ok (.istore 6, 2) := by decide +kernel
theorem dL_law_189 : decode cL_law 189 = .ok (.aload_n 1, 1) := by decide +kernel
theorem dL_law_190 : decode cL_law 190 = .ok (.iconst 0, 1) := by decide +kernel
theorem dL_law_191 : decode cL_law 191 = .ok (.invokevirtual 21, 3) := by decide +kernel
theorem dL_law_194 : decode cL_law 194 = .ok (.istore 7, 2) := by decide +kernel
theorem dL_law_196 : decode cL_law 196 = .ok (.iload 6, 2) := by decide +kernel
theorem dL_law_198 : decode cL_law 198 = .ok (.iload 7, 2) := by decide +kernel
theorem dL_law_200 : decode cL_law 200 = .ok (.irem, 1) := by decide +kernel
theorem dL_law_201 : decode cL_law 201 = .ok (.istore 8, 2) := by decide +kernel
theorem dL_law_203 : decode cL_law 203 = .ok (.iconst 1, 1) := by decide +kernel
theorem dL_law_204 : decode cL_law 204 = .ok (.iload 6, 2) := by decide +kernel
theorem dL_law_206 : decode cL_law 206 = .ok (.bipush 6, 2) := by decide +kernel
theorem dL_law_208 : decode cL_law 208 = .ok (.ishr, 1) := by decide +kernel
theorem dL_law_209 : decode cL_law 209 = .ok (.iload 7, 2) := by decide +kernel
theorem dL_law_211 : decode cL_law 211 = .ok (.iload 8, 2) := by decide +kernel
theorem dL_law_213 : decode cL_law 213 = .ok (.isub, 1) := by decide +kernel
theorem dL_law_214 : decode cL_law 214 = .ok (.irem, 1) := by decide +kernel
theorem dL_law_215 : decode cL_law 215 = .ok (.iconst 5, 1) := by decide +kernel
theorem dL_law_216 : decode cL_law 216 = .ok (.irem, 1) := by decide +kernel
theorem dL_law_217 : decode cL_law 217 = .ok (.iadd, 1) := by decide +kernel
theorem dL_law_218 : decode cL_law 218 = .ok (.istore 9, 2) := by decide +kernel
theorem dL_law_220 : decode cL_law 220 = .ok (.aload_n 1, 1) := by decide +kernel
theorem dL_law_221 : decode cL_law 221 = .ok (.iconst 1, 1) := by decide +kernel
theorem dL_law_222 : decode cL_law 222 = .ok (.invokevirtual 21, 3) := by decide +kernel
theorem dL_law_225 : decode cL_law 225 = .ok (.istore 10, 2) := by decide +kernel
theorem dL_law_227 : decode cL_law 227 = .ok (.aload_n 1, 1) := by decide +kernel
theorem dL_law_228 : decode cL_law 228 = .ok (.iconst 2, 1) := by decide +kernel
theorem dL_law_229 : decode cL_law 229 = .ok (.iload 6, 2) := by decide +kernel
theorem dL_law_231 : decode cL_law 231 = .ok (.bipush 9, 2) := by decide +kernel
theorem dL_law_233 : decode cL_law 233 = .ok (.ishr, 1) := by decide +kernel
theorem dL_law_234 : decode cL_law 234 = .ok (.iconst 4, 1) := by decide +kernel
theorem dL_law_235 : decode cL_law 235 = .ok (.irem, 1) := by decide +kernel
theorem dL_law_236 : decode cL_law 236 = .ok (.iadd, 1) := by decide +kernel
theorem dL_law_237 : decode cL_law 237 = .ok (.iload 8, 2) := by decide +kernel
theorem dL_law_239 : decode cL_law 239 = .ok (.iload 9, 2) := by decide +kernel
theorem dL_law_241 : decode cL_law 241 = .ok (.iload 6, 2) := by decide +kernel
theorem dL_law_243 : decode cL_law 243 = .ok (.bipush 11, 2) := by decide +kernel
theorem dL_law_245 : decode cL_law 245 = .ok (.ishr, 1) := by decide +kernel
theorem dL_law_246 : decode cL_law 246 = .ok (.bipush 9, 2) := by decide +kernel
theorem dL_law_248 : decode cL_law 248 = .ok (.irem, 1) := by decide +kernel
theorem dL_law_249 : decode cL_law 249 = .ok (.iload 6, 2) := by decide +kernel
theorem dL_law_251 : decode cL_law 251 = .ok (.bipush 15, 2) := by decide +kernel
theorem dL_law_253 : decode cL_law 253 = .ok (.ishr, 1) := by decide +kernel
theorem dL_law_254 : decode cL_law 254 = .ok (.iconst 3, 1) := by decide +kernel
theorem dL_law_255 : decode cL_law 255 = .ok (.irem, 1) := by decide +kernel
theorem dL_law_256 : decode cL_law 256 = .ok (.invokevirtual 91, 3) := by decide +kernel
theorem dL_law_259 : decode cL_law 259 = .ok (.istore 11, 2) := by decide +kernel
theorem dL_law_261 : decode cL_law 261 = .ok (.iload 11, 2) := by decide +kernel
theorem dL_law_263 : decode cL_law 263 = .ok (.ifCond .lt 45, 3) := by decide +kernel
theorem dL_law_266 : decode cL_law 266 = .ok (.aload_n 1, 1) := by decide +kernel
theorem dL_law_267 : decode cL_law 267 = .ok (.iconst 1, 1) := by decide +kernel
theorem dL_law_268 : decode cL_law 268 = .ok (.invokevirtual 21, 3) := by decide +kernel
theorem dL_law_271 : decode cL_law 271 = .ok (.iload 10, 2) := by decide +kernel
theorem dL_law_273 : decode cL_law 273 = .ok (.iconst 1, 1) := by decide +kernel
theorem dL_law_274 : decode cL_law 274 = .ok (.iadd, 1) := by decide +kernel
theorem dL_law_275 : decode cL_law 275 = .ok (.if_icmp .ne 29, 3) := by decide +kernel
theorem dL_law_278 : decode cL_law 278 = .ok (.aload_n 1, 1) := by decide +kernel
theorem dL_law_279 : decode cL_law 279 = .ok (.iload 11, 2) := by decide +kernel
theorem dL_law_281 : decode cL_law 281 = .ok (.iconst 2, 1) := by decide +kernel
theorem dL_law_282 : decode cL_law 282 = .ok (.invokevirtual 34, 3) := by decide +kernel
theorem dL_law_285 : decode cL_law 285 = .ok (.iload 8, 2) := by decide +kernel
theorem dL_law_287 : decode cL_law 287 = .ok (.iload 9, 2) := by decide +kernel
theorem dL_law_289 : decode cL_law 289 = .ok (.iadd, 1) := by decide +kernel
theorem dL_law_290 : decode cL_law 290 = .ok (.if_icmp .ne 14, 3) := by decide +kernel
theorem dL_law_293 : decode cL_law 293 = .ok (.aload_n 1, 1) := by decide +kernel
theorem dL_law_294 : decode cL_law 294 = .ok (.invokestatic 70, 3) := by decide +kernel
theorem dL_law_297 : decode cL_law 297 = .ok (.ifCond .eq 7, 3) := by decide +kernel
theorem dL_law_300 : decode cL_law 300 = .ok (.iconst 1, 1) := by decide +kernel
theorem dL_law_301 : decode cL_law 301 = .ok (.goto 20, 3) := by decide +kernel
theorem dL_law_304 : decode cL_law 304 = .ok (.iconst 0, 1) := by decide +kernel
theorem dL_law_305 : decode cL_law 305 = .ok (.goto 16, 3) := by decide +kernel
theorem dL_law_308 : decode cL_law 308 = .ok (.iload 11, 2) := by decide +kernel
theorem dL_law_310 : decode cL_law 310 = .ok (.sipush (-1002), 3) := by decide +kernel
theorem dL_law_313 : decode cL_law 313 = .ok (.if_icmp .ne 7, 3) := by decide +kernel
theorem dL_law_316 : decode cL_law 316 = .ok (.iconst 1, 1) := by decide +kernel
theorem dL_law_317 : decode cL_law 317 = .ok (.goto 4, 3) := by decide +kernel
theorem dL_law_320 : decode cL_law 320 = .ok (.iconst 0, 1) := by decide +kernel
theorem dL_law_321 : decode cL_law 321 = .ok (.istore_n 2, 1) := by decide +kernel
theorem dL_law_322 : decode cL_law 322 = .ok (.iinc 5 1, 3) := by decide +kernel
theorem dL_law_325 : decode cL_law 325 = .ok (.goto (-162), 3) := by decide +kernel
theorem dL_law_328 : decode cL_law 328 = .ok (.iload_n 2, 1) := by decide +kernel
theorem dL_law_329 : decode cL_law 329 = .ok (.ifCond .eq 48, 3) := by decide +kernel
theorem dL_law_332 : decode cL_law 332 = .ok (.aload_n 1, 1) := by decide +kernel
theorem dL_law_333 : decode cL_law 333 = .ok (.aload_n 0, 1) := by decide +kernel
theorem dL_law_334 : decode cL_law 334 = .ok (.bipush 20, 2) := by decide +kernel
theorem dL_law_336 : decode cL_law 336 = .ok (.iload_n 3, 1) := by decide +kernel
theorem dL_law_337 : decode cL_law 337 = .ok (.imul, 1) := by decide +kernel
theorem dL_law_338 : decode cL_law 338 = .ok (.bipush 18, 2) := by decide +kernel
theorem dL_law_340 : decode cL_law 340 = .ok (.iadd, 1) := by decide +kernel
theorem dL_law_341 : decode cL_law 341 = .ok (.invokestatic 94, 3) := by decide +kernel
theorem dL_law_344 : decode cL_law 344 = .ok (.ifCond .eq 33, 3) := by decide +kernel
theorem dL_law_347 : decode cL_law 347 = .ok (.aload_n 1, 1) := by decide +kernel
theorem dL_law_348 : decode cL_law 348 = .ok (.bipush 33, 2) := by decide +kernel
theorem dL_law_350 : decode cL_law 350 = .ok (.invokevirtual 25, 3) := by decide +kernel
theorem dL_law_353 : decode cL_law 353 = .ok (.ifCond .le 24, 3) := by decide +kernel
theorem dL_law_356 : decode cL_law 356 = .ok (.aload_n 1, 1) := by decide +kernel
theorem dL_law_357 : decode cL_law 357 = .ok (.invokevirtual 28, 3) := by decide +kernel
theorem dL_law_360 : decode cL_law 360 = .ok (.ifCond .lt 17, 3) := by decide +kernel
theorem dL_law_363 : decode cL_law 363 = .ok (.aload_n 1, 1) := by decide +kernel
theorem dL_law_364 : decode cL_law 364 = .ok (.invokevirtual 78, 3) := by decide +kernel
theorem dL_law_367 : decode cL_law 367 = .ok (.sipush (-1002), 3) := by decide +kernel
theorem dL_law_370 : decode cL_law 370 = .ok (.if_icmp .ne 7, 3) := by decide +kernel
theorem dL_law_373 : decode cL_law 373 = .ok (.iconst 1, 1) := by decide +kernel
theorem dL_law_374 : decode cL_law 374 = .ok (.goto 4, 3) := by decide +kernel
theorem dL_law_377 : decode cL_law 377 = .ok (.iconst 0, 1) := by decide +kernel
theorem dL_law_378 : decode cL_law 378 = .ok (.istore_n 2, 1) := by decide +kernel
theorem dL_law_379 : decode cL_law 379 = .ok (.iinc 3 1, 3) := by decide +kernel
theorem dL_law_382 : decode cL_law 382 = .ok (.goto (-342), 3) := by decide +kernel
theorem dL_law_385 : decode cL_law 385 = .ok (.aload_n 1, 1) := by decide +kernel
theorem dL_law_386 : decode cL_law 386 = .ok (.iconst 3, 1) := by decide +kernel
theorem dL_law_387 : decode cL_law 387 = .ok (.invokevirtual 21, 3) := by decide +kernel
theorem dL_law_390 : decode cL_law 390 = .ok (.istore_n 3, 1) := by decide +kernel
theorem dL_law_391 : decode cL_law 391 = .ok (.iload_n 2, 1) := by decide +kernel
theorem dL_law_392 : decode cL_law 392 = .ok (.ifCond .eq 28, 3) := by decide +kernel
theorem dL_law_395 : decode cL_law 395 = .ok (.iload_n 3, 1) := by decide +kernel
theorem dL_law_396 : decode cL_law 396 = .ok (.ifCond .le 24, 3) := by decide +kernel
theorem dL_law_399 : decode cL_law 399 = .ok (.aload_n 1, 1) := by decide +kernel
theorem dL_law_400 : decode cL_law 400 = .ok (.invokevirtual 74, 3) := by decide +kernel
theorem dL_law_403 : decode cL_law 403 = .ok (.iload_n 3, 1) := by decide +kernel
theorem dL_law_404 : decode cL_law 404 = .ok (.iconst 1, 1) := by decide +kernel
theorem dL_law_405 : decode cL_law 405 = .ok (.isub, 1) := by decide +kernel
theorem dL_law_406 : decode cL_law 406 = .ok (.if_icmp .ne 14, 3) := by decide +kernel
theorem dL_law_409 : decode cL_law 409 = .ok (.aload_n 1, 1) := by decide +kernel
theorem dL_law_410 : decode cL_law 410 = .ok (.invokestatic 70, 3) := by decide +kernel
theorem dL_law_413 : decode cL_law 413 = .ok (.ifCond .eq 7, 3) := by decide +kernel
theorem dL_law_416 : decode cL_law 416 = .ok (.iconst 1, 1) := by decide +kernel
theorem dL_law_417 : decode cL_law 417 = .ok (.goto 4, 3) := by decide +kernel
theorem dL_law_420 : decode cL_law 420 = .ok (.iconst 0, 1) := by decide +kernel
theorem dL_law_421 : decode cL_law 421 = .ok (.ireturn, 1) := by decide +kernel
abbrev vwCl : List vw_C := [(RX0, TX0, 3), (RX1, TX1, 2), (RX2, TX2, 4), (RX3, TX3, 4), (RX5, TX5, 6), (RX6, TX6, 7), (RX7, TX7, 9)]
end
section
/-! THE SMALL MACHINE: the same instructions over a memory of numbers: object o, place k. Its objects and their shape are fixed: they are those that the law's two objects hold once they are made. -/
abbrev mm_V : Type := Int32 ⊕ Nat
abbrev mm_M : Type := Nat → Nat → Int32
abbrev mm_L : Type := List (Option mm_V)
abbrev mm_F : Type := Nat × mm_L × List mm_V × mm_M
abbrev mm_R : Type := Option (mm_F ⊕ ((Nat × List mm_V × List mm_V) ⊕ Option Int32))
/-- a kind of object: its number among the kinds and its fields (none: a number; some r: the object r); or an array: of chars or ints, its length -/
abbrev mm_E : Type := (Nat × List (Option Nat)) ⊕ (Bool × Nat)
def mm_shape : List mm_E := [
  .inl (6, [some 1, some 3, some 5, some 7, some 9, some 15, some 22, some 26, some 29]),
  .inl (2, [none, none, none, some 2]), .inr (false, 120),
  .inl (2, [none, none, none, some 4]), .inr (false, 120),
  .inl (2, [none, none, none, some 6]), .inr (false, 120),
  .inl (1, [none, some 8]), .inr (false, 378),
  .inl (5, [none, none, some 10, some 11, some 12, some 13, some 14]), .inr (false, 48), .inr (false, 48), .inr (false, 48), .inr (false, 48), .inr (false, 48),
  .inl (4, [some 16, some 17, some 18, some 19, some 20, some 21]), .inr (false, 49), .inr (false, 49), .inr (false, 49), .inr (false, 49), .inr (false, 49), .inr (false, 49),
  .inl (0, [some 23, some 24, some 25]), .inr (false, 48), .inr (false, 48), .inr (false, 48),
  .inl (3, [none, none, some 27, some 28]), .inr (false, 120), .inr (false, 7),
  .inr (false, 48)]
def mm_up (M : mm_M) (o k : Nat) (v : Int32) : mm_M := fun o' => if o' = o then upd (M o) k v else M o'
def mm_set (M : mm_M) (o : Nat) (f : Nat → Int32) : mm_M := fun o' => if o' = o then f else M o'
/-- the two rows of units: objects 40 and 41 -/
def mm_ux : Nat → Int32 := fun j => match j with | 0 => 0 | 1 => 1 | 2 => 1 | 3 => 1 | 4 => 0 | 5 => -1 | 6 => -1 | _ => -1
def mm_uy : Nat → Int32 := fun j => match j with | 0 => 1 | 1 => 1 | 2 => 0 | 3 => -1 | 4 => -1 | 5 => -1 | 6 => 0 | _ => 1
abbrev mm_T : Type := ByteArray × MethodName × Nat × Option FieldType × Nat × Nat × Nat × Nat × Nat × Nat
def mm_tab_0 : List mm_T := [(cX0_begin, yX0_begin, 1, none, 0, 0, 1, 23, 504, 24), (cX0_compare, yX0_compare, 9, none, 0, 5, 4, 88, 509, 24), (cX0_alikeBeats, yX0_alikeBeats, 4, (some .int), 0, 1, 0, 0, 533, 24), (cX1_keep, yX1_keep, 4, none, 1, 1, 1, 26, 216, 21), (cX1_restore, yX1_restore, 4, none, 1, 1, 0, 0, 355, 21), (cX2_empty, yX2_empty, 2, none, 2, 1, 0, 0, 223, 20), (cX2_emptyAs, yX2_emptyAs, 2, none, 2, 1, 0, 0, 282, 20), (cX2_become, yX2_become, 2, none, 2, 1, 1, 26, 346, 20)]
def mm_tab_1 : List mm_T := [(cX2_at, yX2_at, 2, (some .int), 2, 1, 0, 0, 367, 20), (cX2_hasRoomFor, yX2_hasRoomFor, 6, (some .boolean), 2, 1, 2, 40, 249, 20), (cX2_put, yX2_put, 3, (some .int), 2, 1, 0, 0, 266, 20), (cX2_takeOut, yX2_takeOut, 3, none, 2, 1, 0, 0, 601, 20), (cX2_endOf, yX2_endOf, 4, (some .int), 2, 1, 2, 40, 376, 20), (cX2_numberCovering, yX2_numberCovering, 5, (some .int), 2, 2, 3, 63, 476, 20), (cX2_fillRow, yX2_fillRow, 6, none, 2, 2, 3, 63, 431, 20), (cX3_append, yX3_append, 2, none, 3, 1, 0, 0, 395, 25)]
def mm_tab_2 : List mm_T := [(cX3_readFor, yX3_readFor, 5, (some .int), 3, 2, 5, 125, 278, 25), (cX3_readItem, yX3_readItem, 8, (some .boolean), 3, 1, 4, 98, 289, 25), (cX3_spanOf, yX3_spanOf, 1, (some .int), 3, 1, 1, 20, 337, 25), (cX3_isTaken, yX3_isTaken, 2, (some .boolean), 3, 2, 1, 22, 341, 25), (cX3_readSign, yX3_readSign, 4, (some .int), 3, 3, 3, 75, 308, 25), (cX3_readMove, yX3_readMove, 6, (some .int), 3, 2, 2, 50, 312, 25), (cX3_readTurn, yX3_readTurn, 7, (some .int), 3, 2, 2, 49, 328, 25), (cX3_levelNamed, yX3_levelNamed, 1, (some .int), 3, 1, 0, 0, 315, 25)]
def mm_tab_3 : List mm_T := [(cX3_readLength, yX3_readLength, 3, (some .int), 3, 0, 1, 22, 319, 25), (cX3_readDigit, yX3_readDigit, 2, (some .int), 3, 0, 1, 22, 293, 25), (cX3_readCharacter, yX3_readCharacter, 2, (some .int), 3, 0, 0, 0, 304, 25), (cX3_digitAt, yX3_digitAt, 3, (some .int), 3, 1, 0, 0, 297, 25), (cX4_move, yX4_move, 5, (some .int), 4, 5, 1, 26, 238, 27), (cX4_hold, yX4_hold, 2, (some .int), 4, 2, 1, 26, 324, 27), (cX4_turn, yX4_turn, 4, (some .int), 4, 4, 1, 26, 331, 27), (cX4_release, yX4_release, 3, (some .int), 4, 3, 1, 26, 334, 27)]
def mm_tab_4 : List mm_T := [(cX4_packed, yX4_packed, 7, (some .int), 4, 7, 0, 0, 241, 27), (cX4_beginOf, yX4_beginOf, 1, (some .int), 4, 1, 0, 0, 252, 27), (cX4_columnOf, yX4_columnOf, 1, (some .int), 4, 1, 0, 0, 262, 27), (cX4_spanOf, yX4_spanOf, 1, (some .int), 4, 1, 0, 0, 259, 27), (cX4_kindOf, yX4_kindOf, 1, (some .int), 4, 1, 0, 0, 370, 27), (cX4_directionOf, yX4_directionOf, 1, (some .int), 4, 1, 0, 0, 381, 27), (cX4_levelOf, yX4_levelOf, 1, (some .int), 4, 1, 0, 0, 384, 27), (cX4_amountOf, yX4_amountOf, 1, (some .int), 4, 1, 0, 0, 387, 27)]
def mm_tab_5 : List mm_T := [(cX4_shortEndOf, yX4_shortEndOf, 1, (some .int), 4, 1, 1, 20, 255, 27), (cX4_lookOf, yX4_lookOf, 1, (some .int), 4, 1, 0, 0, 529, 27), (cX4_movedTo, yX4_movedTo, 2, (some .int), 4, 2, 1, 26, 613, 27), (cX4_turnedBack, yX4_turnedBack, 1, (some .int), 4, 1, 1, 26, 620, 27), (cX4_mirrored, yX4_mirrored, 1, (some .int), 4, 1, 1, 26, 517, 27), (cX4_mirroredColumn, yX4_mirroredColumn, 1, (some .int), 4, 1, 0, 0, 513, 27), (cX4_mirroredDirection, yX4_mirroredDirection, 1, (some .int), 4, 1, 0, 0, 524, 27), (cX5_follow, yX5_follow, 3, none, 5, 1, 3, 64, 541, 23)]
def mm_tab_6 : List mm_T := [(cX5_noteEnd, yX5_noteEnd, 3, none, 5, 1, 2, 42, 547, 23), (cX5_noteStep, yX5_noteStep, 3, none, 5, 2, 1, 20, 554, 23), (cX5_step, yX5_step, 6, none, 5, 3, 1, 22, 562, 23), (cX5_distanceAt, yX5_distanceAt, 2, (some .int), 5, 1, 1, 21, 585, 23), (cX6_weigh, yX6_weigh, 2, none, 6, 1, 5, 112, 422, 22), (cX6_weighSide, yX6_weighSide, 5, none, 6, 2, 4, 88, 427, 22), (cX6_canBear, yX6_canBear, 1, (some .boolean), 6, 1, 1, 20, 439, 22), (cX6_measureFlights, yX6_measureFlights, 3, none, 6, 0, 0, 0, 444, 22)]
def mm_tab_7 : List mm_T := [(cX6_isWrong, yX6_isWrong, 2, (some .boolean), 6, 1, 0, 0, 452, 22), (cX6_wrongBeats, yX6_wrongBeats, 3, (some .int), 6, 0, 1, 21, 448, 22), (cX6_beatsOn, yX6_beatsOn, 4, (some .int), 6, 1, 0, 0, 467, 22), (cX6_longestFlight, yX6_longestFlight, 3, (some .int), 6, 0, 1, 21, 456, 22), (cX6_flightCount, yX6_flightCount, 4, (some .int), 6, 0, 0, 0, 463, 22), (cX6_isAnyLegTold, yX6_isAnyLegTold, 2, (some .boolean), 6, 0, 0, 0, 489, 22), (cX7_reset, yX7_reset, 3, (some .int), 7, 1, 2, 49, 209, 19), (cX7_addMove, yX7_addMove, 6, (some .int), 7, 5, 4, 86, 227, 19)]
def mm_tab_8 : List mm_T := [(cJ9_max_7cf53, yJ9_max_7cf53, 2, (some .int), 10, 2, 0, 0, 459, 28), (cJ9_max_7cf53, yJ9_max_7cf53, 2, (some .int), 10, 2, 0, 0, 459, 28), (cJ9_max_7cf53, yJ9_max_7cf53, 2, (some .int), 10, 2, 0, 0, 459, 28), (cX7_removeSign, yX7_removeSign, 2, (some .int), 7, 1, 2, 49, 597, 19), (cX7_copyPhrase, yX7_copyPhrase, 9, (some .int), 7, 5, 4, 87, 605, 19), (cX7_setLeap, yX7_setLeap, 3, (some .int), 7, 1, 2, 49, 270, 19), (cX7_lay, yX7_lay, 1, (some .int), 7, 0, 6, 149, 274, 19), (cX7_undo, yX7_undo, 1, (some .int), 7, 0, 1, 23, 351, 19)]
def mm_tab_9 : List mm_T := [(cX7_count, yX7_count, 2, (some .int), 7, 1, 0, 0, 359, 19), (cX7_sign, yX7_sign, 5, (some .int), 7, 2, 3, 63, 363, 19), (cX7_signAt, yX7_signAt, 4, (some .int), 7, 2, 4, 87, 471, 19), (cJ9_max_7cf53, yJ9_max_7cf53, 2, (some .int), 10, 2, 0, 0, 459, 28), (cJ9_max_7cf53, yJ9_max_7cf53, 2, (some .int), 10, 2, 0, 0, 459, 28), (cX7_isFaulty, yX7_isFaulty, 2, (some .int), 7, 1, 6, 133, 577, 19), (cX7_nextFault, yX7_nextFault, 3, (some .int), 7, 1, 6, 133, 572, 19), (cX7_beats, yX7_beats, 2, (some .int), 7, 1, 6, 133, 418, 19)]
def mm_tab_10 : List mm_T := [(cX7_leastLeap, yX7_leastLeap, 1, (some .int), 7, 0, 6, 133, 485, 19), (cX7_covered, yX7_covered, 6, (some .int), 7, 2, 4, 88, 480, 19), (cX7_floor, yX7_floor, 3, (some .int), 7, 2, 4, 86, 537, 19), (cJ9_max_7cf53, yJ9_max_7cf53, 2, (some .int), 10, 2, 0, 0, 459, 28), (cX7_farthest, yX7_farthest, 3, (some .int), 7, 0, 4, 86, 581, 19), (cX7_alike, yX7_alike, 6, (some .int), 7, 4, 5, 116, 493, 19), (cX7_type, yX7_type, 2, (some .int), 7, 1, 1, 22, 391, 19), (cX7_clearText, yX7_clearText, 2, (some .int), 7, 0, 0, 0, 411, 19)]
def mm_tab_11 : List mm_T := [(cX7_fault, yX7_fault, 2, (some .int), 7, 0, 6, 149, 399, 19), (cX7_isWithin, yX7_isWithin, 3, (some .boolean), 7, 3, 0, 0, 212, 19), (cX7_isFlag, yX7_isFlag, 1, (some .boolean), 7, 1, 1, 22, 500, 19), (cX7_isColumn, yX7_isColumn, 1, (some .boolean), 7, 1, 1, 22, 300, 19), (cX7_isBeat, yX7_isBeat, 2, (some .boolean), 7, 1, 1, 22, 235, 19), (cX7_isSpan, yX7_isSpan, 3, (some .boolean), 7, 2, 2, 43, 231, 19), (cX7_isPhrase, yX7_isPhrase, 3, (some .boolean), 7, 2, 2, 43, 497, 19), (cX7_addSign, yX7_addSign, 2, (some .int), 7, 1, 3, 65, 245, 19)]
def mm_tab_12 : List mm_T := [(cX7_isInPhrase, yX7_isInPhrase, 3, (some .boolean), 7, 3, 2, 40, 609, 19), (cX7_copyOf, yX7_copyOf, 4, (some .int), 7, 3, 2, 46, 616, 19), (cX7_canTryPhrase, yX7_canTryPhrase, 3, (some .boolean), 7, 0, 3, 65, 624, 19)]
def mm_tab_13 : List mm_T := [(cL_cell, yL_cell, 2, (some .int), 8, 2, 0, 0, 402, 18)]
def mm_tab_14 : List mm_T := [(cL_types, yL_types, 14, (some .int), 8, 3, 7, 170, 407, 18)]
def mm_tab_15 : List mm_T := [(cL_holds, yL_holds, 8, (some .boolean), 8, 1, 7, 155, 414, 18)]
def mm_tab_16 : List mm_T := [(cL_copied, yL_copied, 14, (some .boolean), 8, 3, 8, 182, 593, 18)]
def mm_tab_17 : List mm_T := [(cJ9_max_7cf53, yJ9_max_7cf53, 2, (some .int), 10, 2, 0, 0, 459, 28), (cJ9_max_7cf53, yJ9_max_7cf53, 2, (some .int), 10, 2, 0, 0, 459, 28), (cJ9_max_7cf53, yJ9_max_7cf53, 2, (some .int), 10, 2, 0, 0, 459, 28), (cJ9_max_7cf53, yJ9_max_7cf53, 2, (some .int), 10, 2, 0, 0, 459, 28), (cJ9_max_7cf53, yJ9_max_7cf53, 2, (some .int), 10, 2, 0, 0, 459, 28), (cJ9_max_7cf53, yJ9_max_7cf53, 2, (some .int), 10, 2, 0, 0, 459, 28), (cJ9_max_7cf53, yJ9_max_7cf53, 2, (some .int), 10, 2, 0, 0, 459, 28), (cJ9_max_7cf53, yJ9_max_7cf53, 2, (some .int), 10, 2, 0, 0, 459, 28)]
def mm_tab_18 : List mm_T := [(cJ9_max_7cf53, yJ9_max_7cf53, 2, (some .int), 10, 2, 0, 0, 459, 28), (cJ9_max_7cf53, yJ9_max_7cf53, 2, (some .int), 10, 2, 0, 0, 459, 28), (cJ9_max_7cf53, yJ9_max_7cf53, 2, (some .int), 10, 2, 0, 0, 459, 28), (cJ9_max_7cf53, yJ9_max_7cf53, 2, (some .int), 10, 2, 0, 0, 459, 28), (cJ9_max_7cf53, yJ9_max_7cf53, 2, (some .int), 10, 2, 0, 0, 459, 28), (cJ9_max_7cf53, yJ9_max_7cf53, 2, (some .int), 10, 2, 0, 0, 459, 28), (cJ9_max_7cf53, yJ9_max_7cf53, 2, (some .int), 10, 2, 0, 0, 459, 28), (cJ9_max_7cf53, yJ9_max_7cf53, 2, (some .int), 10, 2, 0, 0, 459, 28)]
def mm_tab_19 : List mm_T := [(cJ9_max_7cf53, yJ9_max_7cf53, 2, (some .int), 10, 2, 0, 0, 459, 28), (cJ9_max_7cf53, yJ9_max_7cf53, 2, (some .int), 10, 2, 0, 0, 459, 28), (cJ9_max_7cf53, yJ9_max_7cf53, 2, (some .int), 10, 2, 0, 0, 459, 28), (cJ9_max_7cf53, yJ9_max_7cf53, 2, (some .int), 10, 2, 0, 0, 459, 28), (cJ9_max_7cf53, yJ9_max_7cf53, 2, (some .int), 10, 2, 0, 0, 459, 28), (cJ9_max_7cf53, yJ9_max_7cf53, 2, (some .int), 10, 2, 0, 0, 459, 28), (cJ9_max_7cf53, yJ9_max_7cf53, 2, (some .int), 10, 2, 0, 0, 459, 28), (cJ9_max_7cf53, yJ9_max_7cf53, 2, (some .int), 10, 2, 0, 0, 459, 28)]
def mm_tab_20 : List mm_T := [(cJ9_max_7cf53, yJ9_max_7cf53, 2, (some .int), 10, 2, 0, 0, 459, 28), (cJ9_max_7cf53, yJ9_max_7cf53, 2, (some .int), 10, 2, 0, 0, 459, 28), (cJ9_max_7cf53, yJ9_max_7cf53, 2, (some .int), 10, 2, 0, 0, 459, 28), (cJ9_max_7cf53, yJ9_max_7cf53, 2, (some .int), 10, 2, 0, 0, 459, 28), (cJ9_max_7cf53, yJ9_max_7cf53, 2, (some .int), 10, 2, 0, 0, 459, 28), (cJ9_max_7cf53, yJ9_max_7cf53, 2, (some .int), 10, 2, 0, 0, 459, 28), (cJ9_max_7cf53, yJ9_max_7cf53, 2, (some .int), 10, 2, 0, 0, 459, 28), (cJ9_max_7cf53, yJ9_max_7cf53, 2, (some .int), 10, 2, 0, 0, 459, 28)]
def mm_tab_21 : List mm_T := [(cJ9_max_7cf53, yJ9_max_7cf53, 2, (some .int), 10, 2, 0, 0, 459, 28), (cJ9_max_7cf53, yJ9_max_7cf53, 2, (some .int), 10, 2, 0, 0, 459, 28), (cJ9_max_7cf53, yJ9_max_7cf53, 2, (some .int), 10, 2, 0, 0, 459, 28), (cJ9_max_7cf53, yJ9_max_7cf53, 2, (some .int), 10, 2, 0, 0, 459, 28), (cJ9_max_7cf53, yJ9_max_7cf53, 2, (some .int), 10, 2, 0, 0, 459, 28), (cJ9_max_7cf53, yJ9_max_7cf53, 2, (some .int), 10, 2, 0, 0, 459, 28), (cJ9_max_7cf53, yJ9_max_7cf53, 2, (some .int), 10, 2, 0, 0, 459, 28), (cJ9_max_7cf53, yJ9_max_7cf53, 2, (some .int), 10, 2, 0, 0, 459, 28)]
def mm_tab_22 : List mm_T := [(cJ9_max_7cf53, yJ9_max_7cf53, 2, (some .int), 10, 2, 0, 0, 459, 28), (cJ9_max_7cf53, yJ9_max_7cf53, 2, (some .int), 10, 2, 0, 0, 459, 28), (cJ9_max_7cf53, yJ9_max_7cf53, 2, (some .int), 10, 2, 0, 0, 459, 28), (cJ9_max_7cf53, yJ9_max_7cf53, 2, (some .int), 10, 2, 0, 0, 459, 28), (cJ9_max_7cf53, yJ9_max_7cf53, 2, (some .int), 10, 2, 0, 0, 459, 28), (cJ9_max_7cf53, yJ9_max_7cf53, 2, (some .int), 10, 2, 0, 0, 459, 28), (cJ9_max_7cf53, yJ9_max_7cf53, 2, (some .int), 10, 2, 0, 0, 459, 28), (cJ9_max_7cf53, yJ9_max_7cf53, 2, (some .int), 10, 2, 0, 0, 459, 28)]
def mm_tab_23 : List mm_T := [(cJ9_max_7cf53, yJ9_max_7cf53, 2, (some .int), 10, 2, 0, 0, 459, 28), (cJ9_max_7cf53, yJ9_max_7cf53, 2, (some .int), 10, 2, 0, 0, 459, 28), (cJ9_max_7cf53, yJ9_max_7cf53, 2, (some .int), 10, 2, 0, 0, 459, 28), (cJ9_max_7cf53, yJ9_max_7cf53, 2, (some .int), 10, 2, 0, 0, 459, 28), (cJ9_max_7cf53, yJ9_max_7cf53, 2, (some .int), 10, 2, 0, 0, 459, 28), (cJ9_max_7cf53, yJ9_max_7cf53, 2, (some .int), 10, 2, 0, 0, 459, 28), (cJ9_max_7cf53, yJ9_max_7cf53, 2, (some .int), 10, 2, 0, 0, 459, 28), (cJ9_max_7cf53, yJ9_max_7cf53, 2, (some .int), 10, 2, 0, 0, 459, 28)]
def mm_tab_24 : List mm_T := [(cJ9_max_7cf53, yJ9_max_7cf53, 2, (some .int), 10, 2, 0, 0, 459, 28), (cJ9_max_7cf53, yJ9_max_7cf53, 2, (some .int), 10, 2, 0, 0, 459, 28), (cJ9_max_7cf53, yJ9_max_7cf53, 2, (some .int), 10, 2, 0, 0, 459, 28), (cJ9_max_7cf53, yJ9_max_7cf53, 2, (some .int), 10, 2, 0, 0, 459, 28), (cJ9_max_7cf53, yJ9_max_7cf53, 2, (some .int), 10, 2, 0, 0, 459, 28), (cJ9_floorMod_7cf53, yJ9_floorMod_7cf53, 3, (some .int), 10, 2, 0, 0, 558, 28), (cJ9_abs_0f7a4, yJ9_abs_0f7a4, 1, (some .int), 10, 1, 0, 0, 588, 28), (cJ9_max_7cf53, yJ9_max_7cf53, 2, (some .int), 10, 2, 0, 0, 459, 28)]
def mm_tab_25 : List mm_T := [(cJ9_min_7cf53, yJ9_min_7cf53, 2, (some .int), 10, 2, 0, 0, 436, 28), (cJ7_fill_53178, yJ7_fill_53178, 4, none, 9, 2, 0, 0, 285, 26)]
def mm_tab : List mm_T := mm_tab_0 ++ mm_tab_1 ++ mm_tab_2 ++ mm_tab_3 ++ mm_tab_4 ++ mm_tab_5 ++ mm_tab_6 ++ mm_tab_7 ++ mm_tab_8 ++ mm_tab_9 ++ mm_tab_10 ++ mm_tab_11 ++ mm_tab_12 ++ mm_tab_13 ++ mm_tab_14 ++ mm_tab_15 ++ mm_tab_16 ++ mm_tab_17 ++ mm_tab_18 ++ mm_tab_19 ++ mm_tab_20 ++ mm_tab_21 ++ mm_tab_22 ++ mm_tab_23 ++ mm_tab_24 ++ mm_tab_25
/-- the law itself: what lies behind the list -/
def mm_d0 : mm_T := (cL_law, yL_law, 12, (some .boolean), 8, 1, 9, 215, 0, 18)
def mm_rec (j : Nat) : mm_T := mm_tab.getD j mm_d0
def mm_code (j : Nat) : ByteArray := (mm_rec j).1
def mm_y (j : Nat) : MethodName := (mm_rec j).2.1
def mm_maxL (j : Nat) : Nat := (mm_rec j).2.2.1
def mm_ret (j : Nat) : Option FieldType := (mm_rec j).2.2.2.1
def mm_cno (j : Nat) : Nat := (mm_rec j).2.2.2.2.1
def mm_np (j : Nat) : Nat := (mm_rec j).2.2.2.2.2.1
def mm_fr (j : Nat) : Nat := (mm_rec j).2.2.2.2.2.2.1
def mm_lo (j : Nat) : Nat := (mm_rec j).2.2.2.2.2.2.2.1
def mm_icode (j : Nat) : Nat := (mm_rec j).2.2.2.2.2.2.2.2.1
def mm_iini (j : Nat) : Nat := (mm_rec j).2.2.2.2.2.2.2.2.2
/-- the names of the method's own kinds, by number -/
def mm_cn (k : Nat) : String := match k with
  | 0 => RX0 | 1 => RX1 | 2 => RX2 | 3 => RX3 | 4 => RX4 | 5 => RX5 | 6 => RX6 | 7 => RX7 | 8 => RL | 9 => RJ7 | _ => RJ9
/-- fields: (owner, entry), (kind, place, by nest, the word's place in the tables) -/
def mm_flds_0 : List ((Nat × Nat) × (Nat × Nat × Bool × Nat)) := [((0, 18), (0, 2, false, 150)), ((0, 9), (0, 0, false, 148)), ((0, 15), (0, 1, false, 149)), ((0, 39), (2, 0, true, 49)), ((1, 11), (1, 0, false, 78)), ((1, 15), (1, 1, false, 80)), ((1, 25), (2, 0, true, 47)), ((1, 30), (2, 1, true, 53)), ((1, 33), (2, 2, true, 57)), ((1, 34), (2, 3, true, 61)), ((2, 9), (2, 0, false, 44)), ((2, 18), (2, 2, false, 55)), ((2, 15), (2, 1, false, 51)), ((2, 21), (2, 3, false, 60)), ((3, 9), (3, 0, false, 164)), ((3, 18), (3, 2, false, 167))]
def mm_flds_1 : List ((Nat × Nat) × (Nat × Nat × Bool × Nat)) := [((3, 22), (3, 3, false, 168)), ((3, 15), (3, 1, false, 166)), ((3, 63), (2, 0, true, 50)), ((3, 73), (2, 2, true, 58)), ((5, 21), (4, 3, false, 126)), ((5, 24), (4, 4, false, 127)), ((5, 27), (4, 5, false, 128)), ((5, 36), (2, 2, true, 56)), ((5, 50), (2, 0, true, 48)), ((5, 18), (4, 2, false, 124)), ((5, 9), (4, 0, false, 120)), ((5, 15), (4, 1, false, 122)), ((6, 34), (2, 0, true, 45)), ((6, 9), (5, 0, false, 92)), ((6, 37), (2, 1, true, 52)), ((6, 15), (5, 1, false, 93))]
def mm_flds_2 : List ((Nat × Nat) × (Nat × Nat × Bool × Nat)) := [((6, 25), (5, 4, false, 96)), ((6, 28), (5, 5, false, 97)), ((6, 18), (5, 2, false, 94)), ((6, 22), (5, 3, false, 95)), ((6, 31), (5, 6, false, 98)), ((7, 10), (6, 0, false, 178)), ((7, 65), (2, 0, true, 46)), ((7, 25), (6, 3, false, 181)), ((7, 110), (2, 2, true, 59)), ((7, 16), (6, 1, false, 179)), ((7, 19), (6, 2, false, 180)), ((7, 153), (2, 1, true, 54)), ((7, 53), (6, 7, false, 185)), ((7, 160), (1, 0, true, 79)), ((7, 164), (3, 0, true, 165)), ((7, 32), (6, 4, false, 182))]
def mm_flds_3 : List ((Nat × Nat) × (Nat × Nat × Bool × Nat)) := [((7, 57), (6, 8, false, 186)), ((7, 39), (6, 5, false, 183)), ((7, 221), (4, 2, true, 125)), ((7, 224), (4, 0, true, 121)), ((7, 227), (4, 1, true, 123)), ((7, 46), (6, 6, false, 184))]
def mm_flds : List ((Nat × Nat) × (Nat × Nat × Bool × Nat)) := mm_flds_0 ++ mm_flds_1 ++ mm_flds_2 ++ mm_flds_3
/-- calls: (owner, entry), (0 virtual, 1 static, 2 static by nest, 3 arraycopy; method, kind of the receiver, places of the words) -/
def mm_calls_0 : List ((Nat × Nat) × (Nat × Nat × Nat × Nat × Nat × Nat × Nat)) := [((0, 21), (1, 168, 0, 505, 284, 26, 0)), ((0, 27), (0, 14, 2, 510, 429, 430, 20)), ((0, 33), (1, 45, 0, 511, 512, 27, 0)), ((0, 43), (1, 166, 0, 514, 458, 28, 0)), ((0, 49), (1, 44, 0, 515, 516, 27, 0)), ((0, 52), (1, 41, 0, 527, 528, 27, 0)), ((1, 19), (3, 0, 0, 217, 219, 218, 29)), ((2, 25), (3, 0, 0, 347, 219, 218, 29)), ((2, 31), (1, 33, 0, 250, 251, 27, 0)), ((2, 37), (1, 40, 0, 253, 254, 27, 0)), ((2, 40), (1, 34, 0, 260, 261, 27, 0)), ((2, 43), (0, 8, 2, 377, 365, 366, 20)), ((2, 46), (1, 36, 0, 378, 369, 27, 0)), ((2, 49), (0, 12, 2, 433, 374, 375, 20)), ((2, 52), (1, 168, 0, 432, 284, 26, 0)), ((2, 58), (1, 167, 0, 434, 435, 28, 0))]
def mm_calls_1 : List ((Nat × Nat) × (Nat × Nat × Nat × Nat × Nat × Nat × Nat)) := [((3, 25), (0, 6, 2, 279, 280, 281, 20)), ((3, 31), (1, 168, 0, 283, 284, 26, 0)), ((3, 37), (0, 17, 3, 286, 288, 3, 25)), ((3, 41), (0, 25, 3, 290, 292, 4, 25)), ((3, 45), (2, 91, 0, 298, 299, 19, 0)), ((3, 49), (0, 26, 3, 301, 303, 6, 25)), ((3, 52), (0, 20, 3, 305, 307, 7, 25)), ((3, 56), (0, 24, 3, 316, 318, 9, 25)), ((3, 59), (1, 18, 0, 335, 336, 25, 0)), ((3, 66), (1, 19, 0, 339, 340, 25, 0)), ((3, 70), (1, 35, 0, 338, 258, 27, 0)), ((3, 74), (0, 10, 2, 342, 264, 265, 20)), ((3, 77), (0, 21, 3, 309, 311, 8, 25)), ((3, 81), (1, 29, 0, 322, 323, 27, 0)), ((3, 84), (0, 22, 3, 325, 327, 10, 25)), ((3, 87), (1, 31, 0, 332, 333, 27, 0))]
def mm_calls_2 : List ((Nat × Nat) × (Nat × Nat × Nat × Nat × Nat × Nat × Nat)) := [((3, 90), (1, 23, 0, 313, 314, 25, 0)), ((3, 93), (2, 89, 0, 320, 211, 19, 0)), ((3, 97), (1, 28, 0, 321, 237, 27, 0)), ((3, 101), (1, 30, 0, 329, 330, 27, 0)), ((3, 105), (0, 27, 3, 294, 296, 5, 25)), ((4, 11), (1, 32, 0, 239, 240, 27, 0)), ((4, 15), (1, 33, 0, 256, 251, 27, 0)), ((4, 19), (1, 35, 0, 257, 258, 27, 0)), ((4, 22), (1, 34, 0, 518, 261, 27, 0)), ((4, 25), (1, 36, 0, 520, 369, 27, 0)), ((4, 28), (1, 37, 0, 521, 380, 27, 0)), ((4, 31), (1, 38, 0, 525, 383, 27, 0)), ((4, 34), (1, 39, 0, 526, 386, 27, 0)), ((4, 37), (1, 45, 0, 519, 512, 27, 0)), ((4, 40), (1, 46, 0, 522, 523, 27, 0)), ((5, 30), (1, 168, 0, 542, 284, 26, 0))]
def mm_calls_3 : List ((Nat × Nat) × (Nat × Nat × Nat × Nat × Nat × Nat × Nat)) := [((5, 42), (0, 8, 2, 543, 365, 366, 20)), ((5, 46), (0, 48, 4, 544, 546, 14, 23)), ((5, 53), (1, 164, 0, 556, 557, 28, 0)), ((5, 59), (0, 50, 4, 559, 561, 16, 23)), ((5, 63), (1, 40, 0, 548, 254, 27, 0)), ((5, 68), (1, 36, 0, 549, 369, 27, 0)), ((5, 71), (1, 39, 0, 550, 386, 27, 0)), ((5, 74), (0, 49, 4, 551, 553, 15, 23)), ((5, 78), (1, 34, 0, 555, 261, 27, 0)), ((5, 81), (1, 37, 0, 563, 380, 27, 0)), ((5, 84), (1, 33, 0, 564, 251, 27, 0)), ((5, 93), (1, 165, 0, 586, 587, 28, 0)), ((5, 96), (1, 166, 0, 589, 458, 28, 0)), ((6, 38), (1, 168, 0, 423, 284, 26, 0)), ((6, 44), (0, 53, 5, 424, 426, 11, 22)), ((6, 48), (0, 55, 5, 441, 443, 12, 22))]
def mm_calls_4 : List ((Nat × Nat) × (Nat × Nat × Nat × Nat × Nat × Nat × Nat)) := [((6, 51), (0, 14, 2, 428, 429, 430, 20)), ((6, 55), (1, 54, 0, 437, 438, 22, 0)), ((6, 59), (1, 36, 0, 440, 369, 27, 0)), ((6, 65), (0, 56, 5, 449, 450, 451, 22)), ((6, 68), (1, 166, 0, 457, 458, 28, 0)), ((7, 61), (1, 89, 0, 210, 211, 19, 0)), ((7, 69), (0, 3, 1, 213, 214, 215, 21)), ((7, 73), (0, 5, 2, 220, 221, 222, 20)), ((7, 77), (0, 93, 6, 228, 230, 0, 19)), ((7, 81), (1, 28, 0, 236, 237, 27, 0)), ((7, 87), (0, 95, 6, 242, 244, 2, 19)), ((7, 113), (0, 11, 2, 598, 599, 600, 20)), ((7, 116), (0, 94, 6, 494, 496, 13, 19)), ((7, 95), (0, 92, 6, 232, 234, 1, 19)), ((7, 119), (1, 90, 0, 498, 499, 19, 0)), ((7, 122), (0, 6, 2, 606, 280, 281, 20))]
def mm_calls_5 : List ((Nat × Nat) × (Nat × Nat × Nat × Nat × Nat × Nat × Nat)) := [((7, 125), (0, 8, 2, 364, 365, 366, 20)), ((7, 128), (1, 96, 0, 607, 608, 19, 0)), ((7, 131), (1, 40, 0, 610, 254, 27, 0)), ((7, 134), (1, 33, 0, 372, 251, 27, 0)), ((7, 137), (1, 42, 0, 611, 612, 27, 0)), ((7, 140), (1, 97, 0, 614, 615, 19, 0)), ((7, 143), (0, 10, 2, 263, 264, 265, 20)), ((7, 146), (0, 98, 6, 621, 623, 17, 19)), ((7, 150), (0, 7, 2, 343, 344, 345, 20)), ((7, 156), (0, 16, 3, 275, 276, 277, 25)), ((7, 161), (0, 4, 1, 352, 353, 354, 21)), ((7, 165), (1, 36, 0, 368, 369, 27, 0)), ((7, 168), (1, 34, 0, 371, 261, 27, 0)), ((7, 171), (0, 12, 2, 373, 374, 375, 20)), ((7, 174), (1, 37, 0, 379, 380, 27, 0)), ((7, 177), (1, 38, 0, 382, 383, 27, 0))]
def mm_calls_6 : List ((Nat × Nat) × (Nat × Nat × Nat × Nat × Nat × Nat × Nat)) := [((7, 180), (1, 39, 0, 385, 386, 27, 0)), ((7, 91), (1, 91, 0, 472, 299, 19, 0)), ((7, 183), (0, 13, 2, 473, 474, 475, 20)), ((7, 186), (0, 52, 5, 419, 420, 421, 22)), ((7, 195), (0, 56, 5, 573, 450, 451, 22)), ((7, 198), (0, 57, 5, 445, 446, 447, 22)), ((7, 202), (0, 59, 5, 453, 454, 455, 22)), ((7, 205), (0, 60, 5, 460, 461, 462, 22)), ((7, 208), (0, 58, 5, 464, 465, 466, 22)), ((7, 211), (0, 61, 5, 486, 487, 488, 22)), ((7, 214), (0, 14, 2, 481, 429, 430, 20)), ((7, 218), (0, 47, 4, 538, 539, 540, 23)), ((7, 230), (0, 51, 4, 582, 583, 584, 23)), ((7, 233), (1, 166, 0, 590, 458, 28, 0)), ((7, 238), (0, 0, 0, 501, 502, 503, 24)), ((7, 241), (0, 1, 0, 506, 507, 508, 24))]
def mm_calls_7 : List ((Nat × Nat) × (Nat × Nat × Nat × Nat × Nat × Nat × Nat)) := [((7, 245), (0, 2, 0, 530, 531, 532, 24)), ((7, 248), (0, 15, 3, 392, 393, 394, 25)), ((7, 251), (0, 9, 2, 246, 247, 248, 20)), ((7, 254), (1, 44, 0, 617, 516, 27, 0)), ((7, 257), (1, 43, 0, 618, 619, 27, 0)), ((8, 9), (0, 87, 6, 408, 409, 410, 19)), ((8, 15), (1, 99, 0, 400, 401, 18, 0)), ((8, 21), (0, 72, 6, 356, 357, 358, 19)), ((8, 25), (0, 86, 6, 388, 389, 390, 19)), ((8, 28), (0, 88, 6, 396, 397, 398, 19)), ((8, 31), (0, 79, 6, 415, 416, 417, 19)), ((8, 34), (0, 73, 6, 360, 361, 362, 19)), ((8, 38), (0, 74, 6, 468, 469, 470, 19)), ((8, 41), (0, 81, 6, 477, 478, 479, 19)), ((8, 44), (0, 80, 6, 482, 483, 484, 19)), ((8, 47), (0, 85, 6, 490, 491, 492, 19))]
def mm_calls_8 : List ((Nat × Nat) × (Nat × Nat × Nat × Nat × Nat × Nat × Nat)) := [((8, 51), (0, 82, 6, 534, 535, 536, 19)), ((8, 54), (0, 78, 6, 569, 570, 571, 19)), ((8, 57), (0, 77, 6, 574, 575, 576, 19)), ((8, 60), (0, 84, 6, 578, 579, 580, 19)), ((8, 63), (0, 67, 6, 594, 595, 596, 19)), ((8, 66), (0, 68, 6, 602, 603, 604, 19)), ((8, 70), (1, 101, 0, 412, 413, 18, 0)), ((8, 74), (0, 71, 6, 348, 349, 350, 19)), ((8, 78), (0, 70, 6, 271, 272, 273, 19)), ((8, 81), (0, 62, 6, 206, 207, 208, 19)), ((8, 84), (0, 69, 6, 267, 268, 269, 19)), ((8, 87), (1, 100, 0, 405, 406, 18, 0)), ((8, 91), (0, 63, 6, 224, 225, 226, 19)), ((8, 94), (1, 102, 0, 591, 592, 18, 0))]
def mm_calls : List ((Nat × Nat) × (Nat × Nat × Nat × Nat × Nat × Nat × Nat)) := mm_calls_0 ++ mm_calls_1 ++ mm_calls_2 ++ mm_calls_3 ++ mm_calls_4 ++ mm_calls_5 ++ mm_calls_6 ++ mm_calls_7 ++ mm_calls_8
/-- statics: (owner, entry), (the first row?, the word's place) -/
def mm_stats_0 : List ((Nat × Nat) × (Bool × Nat)) := [((5, 87), (true, 565)), ((5, 90), (false, 567))]
def mm_stats : List ((Nat × Nat) × (Bool × Nat)) := mm_stats_0
def mm_fld (c i : Nat) : Option ((Nat × Nat) × (Nat × Nat × Bool × Nat)) := mm_flds.find? (fun e => Nat.beq e.1.1 c && Nat.beq e.1.2 i)
def mm_cll (c i : Nat) : Option ((Nat × Nat) × (Nat × Nat × Nat × Nat × Nat × Nat × Nat)) := mm_calls.find? (fun e => Nat.beq e.1.1 c && Nat.beq e.1.2 i)
/-- constants: (owner, entry), (the number, the word's place) -/
def mm_csts_0 : List ((Nat × Nat) × (Int32 × Nat)) := [((8, 7), (15485959, 403)), ((8, 8), (2147483647, 404))]
def mm_csts : List ((Nat × Nat) × (Int32 × Nat)) := mm_csts_0
def mm_cst (c i : Nat) : Option ((Nat × Nat) × (Int32 × Nat)) := mm_csts.find? (fun e => Nat.beq e.1.1 c && Nat.beq e.1.2 i)
def mm_stt (c i : Nat) : Option ((Nat × Nat) × (Bool × Nat)) := mm_stats.find? (fun e => Nat.beq e.1.1 c && Nat.beq e.1.2 i)
-- steps
def mm_nx (pc : Nat) (lo : mm_L) (st : List mm_V) (M : mm_M) : mm_R := some (.inl (pc, lo, st, M))
def mm_jmp (pc : Nat) (off : Int) (lo : mm_L) (st : List mm_V) (M : mm_M) : mm_R := if 0 ≤ (pc : Int) + off then mm_nx ((pc : Int) + off).toNat lo st M else none
def mm_bin (f : Int32 → Int32 → Int32) (pc : Nat) (lo : mm_L) (st : List mm_V) (M : mm_M) : mm_R := match st with
  | .inl y :: .inl x :: r => mm_nx (pc + 1) lo (.inl (f x y) :: r) M
  | _ => none
def mm_un (f : Int32 → Int32) (pc : Nat) (lo : mm_L) (st : List mm_V) (M : mm_M) : mm_R := match st with
  | .inl x :: r => mm_nx (pc + 1) lo (.inl (f x) :: r) M
  | _ => none
def mm_ldi (k pc' : Nat) (lo : mm_L) (st : List mm_V) (M : mm_M) : mm_R := match lo[k]? with
  | some (some (.inl x)) => mm_nx pc' lo (.inl x :: st) M
  | _ => none
def mm_lda (k pc' : Nat) (lo : mm_L) (st : List mm_V) (M : mm_M) : mm_R := match lo[k]? with
  | some (some (.inr x)) => mm_nx pc' lo (.inr x :: st) M
  | _ => none
def mm_sti (k pc' : Nat) (lo : mm_L) (st : List mm_V) (M : mm_M) : mm_R := match st with
  | .inl x :: r => if k < lo.length then mm_nx pc' (lo.set k (some (.inl x))) r M else none
  | _ => none
def mm_inc (k : Nat) (n : Int) (pc' : Nat) (lo : mm_L) (st : List mm_V) (M : mm_M) : mm_R := match lo[k]? with
  | some (some (.inl x)) => mm_nx pc' (lo.set k (some (.inl (x + Int32.ofInt n)))) st M
  | _ => none
def mm_if (c : ClassFile.Cond) (x y : Int32) : Bool := match c with
  | .eq => decide (x = y) | .ne => decide (¬ x = y) | .lt => decide (x < y) | .ge => decide (y ≤ x) | .gt => decide (y < x) | .le => decide (x ≤ y)
def mm_br (b : Bool) (pc : Nat) (off : Int) (lo : mm_L) (st : List mm_V) (M : mm_M) : mm_R := if 0 ≤ (pc : Int) + off then mm_nx (if b = true then ((pc : Int) + off).toNat else pc + 3) lo st M else none
def mm_if1 (c : ClassFile.Cond) (pc : Nat) (off : Int) (lo : mm_L) (st : List mm_V) (M : mm_M) : mm_R := match st with
  | .inl x :: r => mm_br (mm_if c x 0) pc off lo r M
  | _ => none
def mm_if2 (c : ClassFile.Cond) (pc : Nat) (off : Int) (lo : mm_L) (st : List mm_V) (M : mm_M) : mm_R := match st with
  | .inl y :: .inl x :: r => mm_br (mm_if c x y) pc off lo r M
  | _ => none
def mm_tsw (d lo' hi : Int) (offs : Array Int) (pc : Nat) (lo : mm_L) (st : List mm_V) (M : mm_M) : mm_R := match st with
  | .inl x :: r => if x.toInt < lo' ∨ hi < x.toInt then mm_jmp pc d lo r M else match offs[(x.toInt - lo').toNat]? with
    | some off => mm_jmp pc off lo r M
    | none => none
  | _ => none
def mm_lsw (d : Int) (ps : Array (Int × Int)) (pc : Nat) (lo : mm_L) (st : List mm_V) (M : mm_M) : mm_R := match st with
  | .inl x :: r => if (ps.toList.zip (ps.toList.drop 1)).all (fun (a, next) => a.1 < next.1) = true then mm_jmp pc (Op.lookupswitch.offset ps.toList d x.toInt) lo r M else none
  | _ => none
def mm_get (e : (Nat × Nat) × (Nat × Nat × Bool × Nat)) (pc : Nat) (lo : mm_L) (st : List mm_V) (M : mm_M) : mm_R := match st with
  | .inr o :: r => match mm_shape[o]? with
    | some (.inl (ci, fs)) => if ci = e.2.1 then match fs[e.2.2.1]? with
        | some none => mm_nx (pc + 3) lo (.inl (M o e.2.2.1) :: r) M
        | some (some q) => mm_nx (pc + 3) lo (.inr q :: r) M
        | none => none
      else none
    | _ => none
  | _ => none
def mm_put (e : (Nat × Nat) × (Nat × Nat × Bool × Nat)) (pc : Nat) (lo : mm_L) (st : List mm_V) (M : mm_M) : mm_R := match st with
  | .inl v :: .inr o :: r => match mm_shape[o]? with
    | some (.inl (ci, fs)) => if ci = e.2.1 then match fs[e.2.2.1]? with
        | some none => mm_nx (pc + 3) lo r (mm_up M o e.2.2.1 v)
        | _ => none
      else none
    | _ => none
  | _ => none
def mm_ald (ch : Bool) (pc : Nat) (lo : mm_L) (st : List mm_V) (M : mm_M) : mm_R := match st with
  | .inl i :: .inr o :: r => match mm_shape[o]? with
    | some (.inr (c, n)) => if c = ch ∧ ¬ (i < 0 ∨ n ≤ i.toNatClampNeg) then mm_nx (pc + 1) lo (.inl (M o i.toNatClampNeg) :: r) M else none
    | some (.inl _) => none
    | none => if o = 42 then (if ch = false ∧ ¬ (i < 0 ∨ (M 43 0).toNatClampNeg ≤ i.toNatClampNeg) then mm_nx (pc + 1) lo (.inl (M 42 i.toNatClampNeg) :: r) M else none) else if ch = false ∧ (o = 40 ∨ o = 41) ∧ ¬ (i < 0 ∨ 8 ≤ i.toNatClampNeg) then mm_nx (pc + 1) lo (.inl ((if o = 40 then mm_ux else mm_uy) i.toNatClampNeg) :: r) M else none
  | _ => none
def mm_ast (ch : Bool) (pc : Nat) (lo : mm_L) (st : List mm_V) (M : mm_M) : mm_R := match st with
  | .inl v :: .inl i :: .inr o :: r => match mm_shape[o]? with
    | some (.inr (c, n)) => if c = ch ∧ ¬ (i < 0 ∨ n ≤ i.toNatClampNeg) then mm_nx (pc + 1) lo r (mm_up M o i.toNatClampNeg (if ch = true then vp_nar .char v else v)) else none
    | _ => none
  | _ => none
def mm_len (pc : Nat) (lo : mm_L) (st : List mm_V) (M : mm_M) : mm_R := match st with
  | .inr o :: r => match mm_shape[o]? with
    | some (.inr (false, n)) => mm_nx (pc + 1) lo (.inl (Int32.ofNat n) :: r) M
    | some (.inr (true, _)) => none
    | some (.inl _) => none
    | none => if o = 42 then mm_nx (pc + 1) lo (.inl (M 43 0) :: r) M else none
  | _ => none
def mm_gst (e : (Nat × Nat) × (Bool × Nat)) (pc : Nat) (lo : mm_L) (st : List mm_V) (M : mm_M) : mm_R := mm_nx (pc + 3) lo (.inr (if e.2.1 = true then 40 else 41) :: st) M
def mm_roomy (j k na : Nat) (r : List mm_V) : Bool := Nat.ble (mm_fr k + 1) (mm_fr j) && Nat.ble (8 + (mm_maxL k + 11) + mm_lo k) (mm_lo j) && Nat.ble r.length 8 && Nat.ble na (mm_maxL k)
def mm_cpy (j pc : Nat) (lo : mm_L) (st : List mm_V) (M : mm_M) : mm_R := match st with
  | .inl n :: .inl dp :: .inr a :: .inl sp :: .inr b :: r => match mm_shape[a]?, mm_shape[b]? with
    | some (.inr (false, na)), some (.inr (false, nb)) =>
      if (¬ sp < 0 ∧ ¬ dp < 0 ∧ ¬ n < 0 ∧ sp.toNatClampNeg + n.toNatClampNeg ≤ nb ∧ dp.toNatClampNeg + n.toNatClampNeg ≤ na) ∧ 1 ≤ mm_fr j ∧ 26 ≤ mm_lo j ∧ r.length ≤ 8 then mm_nx (pc + 3) lo r (mm_set M a (va_cpy (M b) (M a) sp.toNatClampNeg dp.toNatClampNeg n.toNatClampNeg)) else none
    | _, _ => none
  | _ => none
def mm_inv (j : Nat) (e : (Nat × Nat) × (Nat × Nat × Nat × Nat × Nat × Nat × Nat)) (st : List mm_V) : mm_R :=
  match st.drop (mm_np e.2.2.1) with
  | .inr o :: r => match mm_shape[o]? with
    | some (.inl (ci, _)) => if e.2.1 = 0 ∧ ci = e.2.2.2.1 ∧ mm_roomy j e.2.2.1 (mm_np e.2.2.1 + 1) r = true then some (.inr (.inl (e.2.2.1, .inr o :: (st.take (mm_np e.2.2.1)).reverse, r))) else none
    | _ => none
  | _ => none
def mm_ins (j : Nat) (e : (Nat × Nat) × (Nat × Nat × Nat × Nat × Nat × Nat × Nat)) (pc : Nat) (lo : mm_L) (st : List mm_V) (M : mm_M) : mm_R :=
  if e.2.1 = 3 then mm_cpy j pc lo st M
  else if (e.2.1 = 1 ∨ e.2.1 = 2) ∧ mm_np e.2.2.1 ≤ st.length ∧ mm_roomy j e.2.2.1 (mm_np e.2.2.1) (st.drop (mm_np e.2.2.1)) = true then some (.inr (.inl (e.2.2.1, (st.take (mm_np e.2.2.1)).reverse, st.drop (mm_np e.2.2.1)))) else none
def mm_rti (j : Nat) (st : List mm_V) : mm_R := match st with
  | [.inl v] => if mm_ret j = some .int ∨ (mm_ret j = some .boolean ∧ (v = 0 ∨ v = 1)) then some (.inr (.inr (some v))) else none
  | _ => none
def mm_rtv (j : Nat) (st : List mm_V) : mm_R := match st with
  | [] => if mm_ret j = none then some (.inr (.inr none)) else none
  | _ => none
/-- one instruction -/
def mm_do (j pc : Nat) (i : Instr) (n : Nat) (lo : mm_L) (st : List mm_V) (M : mm_M) : mm_R := match i with
  | .iconst v => if n = 1 then mm_nx (pc + 1) lo (.inl (Int32.ofInt v) :: st) M else none
  | .bipush v => if n = 2 then mm_nx (pc + 2) lo (.inl (Int8.ofInt v).toInt32 :: st) M else none
  | .sipush v => if n = 3 then mm_nx (pc + 3) lo (.inl (Int16.ofInt v).toInt32 :: st) M else none
  | .iload_n k => if n = 1 then mm_ldi k.val (pc + 1) lo st M else none
  | .iload k => if n = 2 then mm_ldi k (pc + 2) lo st M else none
  | .aload_n k => if n = 1 then mm_lda k.val (pc + 1) lo st M else none
  | .aload k => if n = 2 then mm_lda k (pc + 2) lo st M else none
  | .istore_n k => if n = 1 then mm_sti k.val (pc + 1) lo st M else none
  | .istore k => if n = 2 then mm_sti k (pc + 2) lo st M else none
  | .iinc k v => if n = 3 then mm_inc k v (pc + 3) lo st M else none
  | .iadd => if n = 1 then mm_bin (fun x y => x + y) pc lo st M else none
  | .isub => if n = 1 then mm_bin (fun x y => x - y) pc lo st M else none
  | .imul => if n = 1 then mm_bin (fun x y => x * y) pc lo st M else none
  | .iand => if n = 1 then mm_bin (fun x y => x &&& y) pc lo st M else none
  | .ior => if n = 1 then mm_bin (fun x y => x ||| y) pc lo st M else none
  | .ixor => if n = 1 then mm_bin (fun x y => x ^^^ y) pc lo st M else none
  | .ishl => if n = 1 then mm_bin (fun x y => x <<< (y &&& 31)) pc lo st M else none
  | .ishr => if n = 1 then mm_bin (fun x y => x >>> (y &&& 31)) pc lo st M else none
  | .idiv => if n = 1 ∧ st.head? ≠ some (.inl 0) then mm_bin (fun x y => x / y) pc lo st M else none
  | .ldc k => if n = 2 then (match mm_cst (mm_cno j) k with | some e => mm_nx (pc + 2) lo (.inl e.2.1 :: st) M | none => none) else none
  | .irem => if n = 1 ∧ st.head? ≠ some (.inl 0) then mm_bin (fun x y => x - x / y * y) pc lo st M else none
  | .ineg => if n = 1 then mm_un (fun x => -x) pc lo st M else none
  | .i2c => if n = 1 then mm_un (fun x => (x.toUInt32 % 65536).toInt32) pc lo st M else none
  | .dup => if n = 1 then (match st with | v :: r => mm_nx (pc + 1) lo (v :: v :: r) M | _ => none) else none
  | .dup2 => if n = 1 then (match st with | v :: w :: r => mm_nx (pc + 1) lo (v :: w :: v :: w :: r) M | _ => none) else none
  | .pop => if n = 1 then (match st with | _ :: r => mm_nx (pc + 1) lo r M | _ => none) else none
  | .goto off => if n = 3 then mm_jmp pc off lo st M else none
  | .ifCond c off => if n = 3 then mm_if1 c pc off lo st M else none
  | .if_icmp c off => if n = 3 then mm_if2 c pc off lo st M else none
  | .tableswitch d l h offs => mm_tsw d l h offs pc lo st M
  | .lookupswitch d ps => mm_lsw d ps pc lo st M
  | .getfield k => if n = 3 then (match mm_fld (mm_cno j) k with | some e => mm_get e pc lo st M | none => none) else none
  | .putfield k => if n = 3 then (match mm_fld (mm_cno j) k with | some e => mm_put e pc lo st M | none => none) else none
  | .getstatic k => if n = 3 then (match mm_stt (mm_cno j) k with | some e => mm_gst e pc lo st M | none => none) else none
  | .iaload => if n = 1 then mm_ald false pc lo st M else none
  | .iastore => if n = 1 then mm_ast false pc lo st M else none
  | .arraylength => if n = 1 then mm_len pc lo st M else none
  | .invokevirtual k => if n = 3 then (match mm_cll (mm_cno j) k with | some e => mm_inv j e st | none => none) else none
  | .invokestatic k => if n = 3 then (match mm_cll (mm_cno j) k with | some e => mm_ins j e pc lo st M | none => none) else none
  | .ireturn => if n = 1 then mm_rti j st else none
  | .return_ => if n = 1 then mm_rtv j st else none
  | _ => none
def mm_step (j pc : Nat) (lo : mm_L) (st : List mm_V) (M : mm_M) : mm_R := match decode (mm_code j) pc with
  | .ok q => mm_do j pc q.1 q.2 lo st M
  | .error _ => none
def mm_ent (k : Nat) (as : List mm_V) : mm_L := as.map some ++ List.replicate (mm_maxL k - as.length) none
def mm_rv (r : Option Int32) : List mm_V := match r with | some v => [.inl v] | none => []
def mm_run : Nat → Nat → Nat → mm_L → List mm_V → mm_M → Option (Option Int32 × mm_M)
  | 0, _, _, _, _, _ => none
  | n + 1, j, pc, lo, st, M => match mm_step j pc lo st M with
    | some (.inl q) => mm_run n j q.1 q.2.1 q.2.2.1 q.2.2.2
    | some (.inr (.inl q)) => match mm_run n q.1 0 (mm_ent q.1 q.2.1) [] M with
      | some a => mm_run n j (pc + 3) lo (mm_rv a.1 ++ q.2.2) a.2
      | none => none
    | some (.inr (.inr r)) => some (r, M)
    | none => none
end
section
/-! WHAT THE TABLES SAY, decided once -/
def mm_GW : List Cond := lw_tbl.filter goodWord
theorem mm_gw_of {w : Cond} {i : Nat} (h1 : lw_tbl[i]? = some w) (h2 : goodWord w = true) : w ∈ mm_GW := List.mem_filter.mpr ⟨List.mem_of_getElem? h1, h2⟩
theorem mm_gw_lw {w : Cond} (h : w ∈ mm_GW) : w ∈ lw_tbl := (List.mem_filter.mp h).1
theorem mm_gw_good {w : Cond} (h : w ∈ mm_GW) : goodWord w = true := (List.mem_filter.mp h).2
def mm_w (i : Nat) (w : Cond) : Bool := decide (lw_tbl[i]? = some w) && goodWord w
theorem mm_w_in {i : Nat} {w : Cond} (h : mm_w i w = true) : w ∈ mm_GW := by
  simp only [mm_w, Bool.and_eq_true, decide_eq_true_eq] at h
  exact mm_gw_of h.1 h.2
def mm_hOk (y : MethodName) (n : Nat) : Bool := decide (y.cls ≠ "java/lang/invoke/MethodHandle" ∧ y.cls ≠ "java/lang/invoke/VarHandle" ∧ (parseMethodDescriptor y.desc).map (fun d => d.parameters.length) = some n)
def mm_tOk (q : mm_T) : Bool := plainFor q.2.1 && mm_w q.2.2.2.2.2.2.2.2.1 (.code q.2.1 q.1 q.2.2.1 q.2.2.2.1) && mm_w q.2.2.2.2.2.2.2.2.2 (.initialized q.2.1.cls) && decide (q.2.1.cls = mm_cn q.2.2.2.2.1) && mm_hOk q.2.1 q.2.2.2.2.2.1
def mm_fOk (e : (Nat × Nat) × (Nat × Nat × Bool × Nat)) : Bool := match vwCl[e.2.1]? with
  | some q => decide (e.2.2.1 < q.2.2) && (match e.2.2.2.1 with
    | true => decide (lw_tbl[e.2.2.2.2]? = some (.fieldLinkNest (mm_cn e.1.1) e.1.2 (q.2.1 e.2.2.1).1 (q.2.1 e.2.2.1).2.1 (q.2.1 e.2.2.1).2.2.1 "LimbScore"))
    | false => mm_w e.2.2.2.2 (.fieldLink (mm_cn e.1.1) e.1.2 (q.2.1 e.2.2.1).1 (q.2.1 e.2.2.1).2.1 (q.2.1 e.2.2.1).2.2.1))
  | none => false
def mm_cOk (e : (Nat × Nat) × (Nat × Nat × Nat × Nat × Nat × Nat × Nat)) : Bool := match e with
  | ((c, i), (kd, k, ci, i1, i2, i3, i4)) => match kd with
    | 0 => decide (k < mm_tab.length) && mm_w i1 (.methodLink (mm_cn c) i (mm_y k)) && mm_w i2 (.instanceMethod (mm_y k)) && mm_w i3 (.selects (mm_y k).cls (mm_y k) (mm_y k)) && mm_w i4 (.initialized (mm_y k).cls) && decide ((vwCl[ci]?).map (fun q => q.1) = some (mm_y k).cls)
    | 1 => decide (k < mm_tab.length) && mm_w i1 (.methodLink (mm_cn c) i (mm_y k)) && mm_w i2 (.static (mm_y k)) && mm_w i3 (.initialized (mm_y k).cls)
    | 2 => decide (k < mm_tab.length) && decide (lw_tbl[i1]? = some (.methodLinkNest (mm_cn c) i (mm_y k) "LimbScore")) && mm_w i2 (.static (mm_y k)) && mm_w i3 (.initialized (mm_y k).cls)
    | _ => mm_w i1 (.methodLink (mm_cn c) i arraycopyName) && mm_w i2 (.native arraycopyName) && mm_w i3 (.static arraycopyName) && mm_w i4 (.initialized "java/lang/System")
def mm_sOk (e : (Nat × Nat) × (Bool × Nat)) : Bool := mm_w e.2.2 (.fieldLink (mm_cn e.1.1) e.1.2 "LimbScore$Walk" (if e.2.1 = true then "UNIT_X" else "UNIT_Y") "[I")
def mm_kcOk (e : (Nat × Nat) × (Int32 × Nat)) : Bool := mm_w e.2.2 (.constant (mm_cn e.1.1) e.1.2 e.2.1)
def mm_eOk (e : mm_E) : Bool := match e with
  | .inl (ci, fs) => match vwCl[ci]? with
    | some q => decide (fs.length = q.2.2) && (List.range q.2.2).all (fun k => if fs[k]? = some none then decide (parseFieldDescriptor (q.2.1 k).2.2.1 = some .int) && !(q.2.1 k).2.2.2 else true)
    | none => false
  | .inr _ => true
def mm_kOk (q : vw_C) : Bool := (u_ws q.1 q.2.1 q.2.2).all (fun w => decide (w ∈ lw_tbl) && goodWord w) && (List.range q.2.2).all (fun k => (parseFieldDescriptor (q.2.1 k).2.2.1).isSome) && decide (∀ a, a < q.2.2 → ∀ b, b < q.2.2 → a ≠ b → (q.2.1 a).2.1 ≠ (q.2.1 b).2.1)
set_option maxRecDepth 100000 in
theorem mm_tab_0_ok : mm_tab_0.all mm_tOk = true := by decide +kernel
set_option maxRecDepth 100000 in
theorem mm_tab_1_ok : mm_tab_1.all mm_tOk = true := by decide +kernel
set_option maxRecDepth 100000 in
theorem mm_tab_2_ok : mm_tab_2.all mm_tOk = true := by decide +kernel
set_option maxRecDepth 100000 in
theorem mm_tab_3_ok : mm_tab_3.all mm_tOk = true := by decide +kernel
set_option maxRecDepth 100000 in
theorem mm_tab_4_ok : mm_tab_4.all mm_tOk = true := by decide +kernel
set_option maxRecDepth 100000 in
theorem mm_tab_5_ok : mm_tab_5.all mm_tOk = true := by decide +kernel
set_option maxRecDepth 100000 in
theorem mm_tab_6_ok : mm_tab_6.all mm_tOk = true := by decide +kernel
set_option maxRecDepth 100000 in
theorem mm_tab_7_ok : mm_tab_7.all mm_tOk = true := by decide +kernel
set_option maxRecDepth 100000 in
theorem mm_tab_8_ok : mm_tab_8.all mm_tOk = true := by decide +kernel
set_option maxRecDepth 100000 in
theorem mm_tab_9_ok : mm_tab_9.all mm_tOk = true := by decide +kernel
set_option maxRecDepth 100000 in
theorem mm_tab_10_ok : mm_tab_10.all mm_tOk = true := by decide +kernel
set_option maxRecDepth 100000 in
theorem mm_tab_11_ok : mm_tab_11.all mm_tOk = true := by decide +kernel
set_option maxRecDepth 100000 in
theorem mm_tab_12_ok : mm_tab_12.all mm_tOk = true := by decide +kernel
set_option maxRecDepth 100000 in
theorem mm_tab_13_ok : mm_tab_13.all mm_tOk = true := by decide +kernel
set_option maxRecDepth 100000 in
theorem mm_tab_14_ok : mm_tab_14.all mm_tOk = true := by decide +kernel
set_option maxRecDepth 100000 in
theorem mm_tab_15_ok : mm_tab_15.all mm_tOk = true := by decide +kernel
set_option maxRecDepth 100000 in
theorem mm_tab_16_ok : mm_tab_16.all mm_tOk = true := by decide +kernel
set_option maxRecDepth 100000 in
theorem mm_tab_17_ok : mm_tab_17.all mm_tOk = true := by decide +kernel
set_option maxRecDepth 100000 in
theorem mm_tab_18_ok : mm_tab_18.all mm_tOk = true := by decide +kernel
set_option maxRecDepth 100000 in
theorem mm_tab_19_ok : mm_tab_19.all mm_tOk = true := by decide +kernel
set_option maxRecDepth 100000 in
theorem mm_tab_20_ok : mm_tab_20.all mm_tOk = true := by decide +kernel
set_option maxRecDepth 100000 in
theorem mm_tab_21_ok : mm_tab_21.all mm_tOk = true := by decide +kernel
set_option maxRecDepth 100000 in
theorem mm_tab_22_ok : mm_tab_22.all mm_tOk = true := by decide +kernel
set_option maxRecDepth 100000 in
theorem mm_tab_23_ok : mm_tab_23.all mm_tOk = true := by decide +kernel
set_option maxRecDepth 100000 in
theorem mm_tab_24_ok : mm_tab_24.all mm_tOk = true := by decide +kernel
set_option maxRecDepth 100000 in
theorem mm_tab_25_ok : mm_tab_25.all mm_tOk = true := by decide +kernel
theorem mm_tab_ok : mm_tab.all mm_tOk = true := by
  unfold mm_tab
  simp only [List.all_append, Bool.and_eq_true]
  exact ⟨⟨⟨⟨⟨⟨⟨⟨⟨⟨⟨⟨⟨⟨⟨⟨⟨⟨⟨⟨⟨⟨⟨⟨⟨mm_tab_0_ok, mm_tab_1_ok⟩, mm_tab_2_ok⟩, mm_tab_3_ok⟩, mm_tab_4_ok⟩, mm_tab_5_ok⟩, mm_tab_6_ok⟩, mm_tab_7_ok⟩, mm_tab_8_ok⟩, mm_tab_9_ok⟩, mm_tab_10_ok⟩, mm_tab_11_ok⟩, mm_tab_12_ok⟩, mm_tab_13_ok⟩, mm_tab_14_ok⟩, mm_tab_15_ok⟩, mm_tab_16_ok⟩, mm_tab_17_ok⟩, mm_tab_18_ok⟩, mm_tab_19_ok⟩, mm_tab_20_ok⟩, mm_tab_21_ok⟩, mm_tab_22_ok⟩, mm_tab_23_ok⟩, mm_tab_24_ok⟩, mm_tab_25_ok⟩
set_option maxRecDepth 100000 in
theorem mm_flds_0_ok : mm_flds_0.all mm_fOk = true := by decide +kernel
set_option maxRecDepth 100000 in
theorem mm_flds_1_ok : mm_flds_1.all mm_fOk = true := by decide +kernel
set_option maxRecDepth 100000 in
theorem mm_flds_2_ok : mm_flds_2.all mm_fOk = true := by decide +kernel
set_option maxRecDepth 100000 in
theorem mm_flds_3_ok : mm_flds_3.all mm_fOk = true := by decide +kernel
theorem mm_flds_ok : mm_flds.all mm_fOk = true := by
  unfold mm_flds
  simp only [List.all_append, Bool.and_eq_true]
  exact ⟨⟨⟨mm_flds_0_ok, mm_flds_1_ok⟩, mm_flds_2_ok⟩, mm_flds_3_ok⟩
set_option maxRecDepth 100000 in
theorem mm_calls_0_ok : mm_calls_0.all mm_cOk = true := by decide +kernel
set_option maxRecDepth 100000 in
theorem mm_calls_1_ok : mm_calls_1.all mm_cOk = true := by decide +kernel
set_option maxRecDepth 100000 in
theorem mm_calls_2_ok : mm_calls_2.all mm_cOk = true := by decide +kernel
set_option maxRecDepth 100000 in
theorem mm_calls_3_ok : mm_calls_3.all mm_cOk = true := by decide +kernel
set_option maxRecDepth 100000 in
theorem mm_calls_4_ok : mm_calls_4.all mm_cOk = true := by decide +kernel
set_option maxRecDepth 100000 in
theorem mm_calls_5_ok : mm_calls_5.all mm_cOk = true := by decide +kernel
set_option maxRecDepth 100000 in
theorem mm_calls_6_ok : mm_calls_6.all mm_cOk = true := by decide +kernel
set_option maxRecDepth 100000 in
theorem mm_calls_7_ok : mm_calls_7.all mm_cOk = true := by decide +kernel
set_option maxRecDepth 100000 in
theorem mm_calls_8_ok : mm_calls_8.all mm_cOk = true := by decide +kernel
theorem mm_calls_ok : mm_calls.all mm_cOk = true := by
  unfold mm_calls
  simp only [List.all_append, Bool.and_eq_true]
  exact ⟨⟨⟨⟨⟨⟨⟨⟨mm_calls_0_ok, mm_calls_1_ok⟩, mm_calls_2_ok⟩, mm_calls_3_ok⟩, mm_calls_4_ok⟩, mm_calls_5_ok⟩, mm_calls_6_ok⟩, mm_calls_7_ok⟩, mm_calls_8_ok⟩
set_option maxRecDepth 100000 in
theorem mm_stats_0_ok : mm_stats_0.all mm_sOk = true := by decide +kernel
theorem mm_stats_ok : mm_stats.all mm_sOk = true := mm_stats_0_ok
set_option maxRecDepth 100000 in
theorem mm_csts_0_ok : mm_csts_0.all mm_kcOk = true := by decide +kernel
theorem mm_csts_ok : mm_csts.all mm_kcOk = true := mm_csts_0_ok
set_option maxRecDepth 100000 in
theorem mm_shape_ok : mm_shape.all mm_eOk = true := by decide +kernel
set_option maxRecDepth 100000 in
theorem mm_kinds_ok : (vwCl : List vw_C).all mm_kOk = true := by decide +kernel
theorem mm_good (ws : List Cond) (h : ∀ w ∈ ws, w ∈ mm_GW) : GoodIn mm_GW ws := fun w hw => ⟨h w hw, good_of_word (mm_gw_good (h w hw))⟩
end
section
/-! THE WORLD OF THE SMALL MACHINE: its objects at addresses ad 0, ad 1 .. -/
def mm_tv (ad : Nat → Nat) (v : mm_V) : Value := match v with
  | .inl x => .int x
  | .inr o => .ref (ad o)
def mm_fv (ad : Nat → Nat) (r : Nat → Int32) (k : Nat) (f : Option Nat) : Value := match f with
  | none => .int (r k)
  | some q => .ref (ad q)
def mm_ce (ad : Nat → Nat) (cI cC : ClassId) (M : mm_M) (o : Nat) (e : mm_E) : va_E := match e with
  | .inl q => .inr (q.1, q.2.mapIdx (mm_fv ad (M o)))
  | .inr q => .inl (if q.1 = true then cC else cI, q.2, .inl (M o))
def mm_world (ad : Nat → Nat) (cI cC : ClassId) (M : mm_M) : va_W := mm_shape.mapIdx (fun o e => (ad o, mm_ce ad cI cC M o e))
def mm_tys (cI _cC : ClassId) : List (ClassId × FieldType) := [(cI, .int)]
/-- what the memory says of the law's script: its length at 43 0, its numbers at 42; the addresses' row holds the same from 43 and 100 on -/
def mm_ok (ad : Nat → Nat) (M : mm_M) : Prop := ad 43 < 2 ^ 31 ∧ M 43 0 = Int32.ofNat (ad 43) ∧ ∀ j : Nat, M 42 j = Int32.ofNat (ad (100 + j))
theorem mm_ok_cong {ad : Nat → Nat} {M M' : mm_M} (h : mm_ok ad M) (h1 : M' 42 = M 42) (h2 : M' 43 = M 43) : mm_ok ad M' := ⟨h.1, by rw [h2]; exact h.2.1, fun j => by rw [h1]; exact h.2.2 j⟩
theorem mm_ok_up {ad : Nat → Nat} {M : mm_M} {o k : Nat} {v : Int32} {e : mm_E} (h : mm_ok ad M) (ho : mm_shape[o]? = some e) : mm_ok ad (mm_up M o k v) := by
  have hlt : o < 30 := (List.getElem?_eq_some_iff.mp ho).1
  exact mm_ok_cong h (by unfold mm_up; rw [if_neg (by omega)]) (by unfold mm_up; rw [if_neg (by omega)])
theorem mm_ok_set {ad : Nat → Nat} {M : mm_M} {o : Nat} {f : Nat → Int32} {e : mm_E} (h : mm_ok ad M) (ho : mm_shape[o]? = some e) : mm_ok ad (mm_set M o f) := by
  have hlt : o < 30 := (List.getElem?_eq_some_iff.mp ho).1
  exact mm_ok_cong h (by unfold mm_set; rw [if_neg (by omega)]) (by unfold mm_set; rw [if_neg (by omega)])
theorem mm_tv_cat (ad : Nat → Nat) (v : mm_V) : (mm_tv ad v).category = 1 := by cases v <;> rfl
theorem mm_sum (ad : Nat → Nat) (st : List mm_V) : ((st.map (mm_tv ad)).map (fun v => v.category)).sum = st.length := by
  induction st with
  | nil => rfl
  | cons v r ih => simp [mm_tv_cat] at ih ⊢; omega
theorem mm_get_w {ad : Nat → Nat} {cI cC : ClassId} {M : mm_M} {o : Nat} {e : mm_E} (h : mm_shape[o]? = some e) : (mm_world ad cI cC M)[o]? = some (ad o, mm_ce ad cI cC M o e) := by
  simp [mm_world, List.getElem?_mapIdx, h]
theorem mm_addr {ad : Nat → Nat} {cI cC : ClassId} {M M' : mm_M} {k : Nat} {q : Nat × va_E} (h : (mm_world ad cI cC M)[k]? = some q) : ∃ q', (mm_world ad cI cC M')[k]? = some q' ∧ q'.1 = q.1 := by
  simp only [mm_world, List.getElem?_mapIdx, Option.map_eq_some_iff] at h ⊢
  obtain ⟨e, h1, rfl⟩ := h
  exact ⟨_, ⟨e, h1, rfl⟩, rfl⟩
theorem mm_D {ad : Nat → Nat} {cI cC : ClassId} {M M' : mm_M} {A : Nat → Prop} (h : va_D A (mm_world ad cI cC M)) : va_D A (mm_world ad cI cC M') := by
  refine ⟨fun i j p q hi hj hpq => ?_, fun k q hk => ?_⟩
  · obtain ⟨p', h1, e1⟩ := mm_addr (M' := M) hi
    obtain ⟨q', h2, e2⟩ := mm_addr (M' := M) hj
    exact h.1 i j p' q' h1 h2 (by rw [e1, e2, hpq])
  · obtain ⟨q', h1, e1⟩ := mm_addr (M' := M) hk
    rw [← e1]
    exact h.2 k q' h1
theorem mm_A {ad : Nat → Nat} {cI cC : ClassId} {M M' : mm_M} {sz sz' : Nat} (hs : sz ≤ sz') : ∀ q, va_A (mm_world ad cI cC M') sz' q → va_A (mm_world ad cI cC M) sz q := by
  intro q h
  rcases h with ⟨k, e, h⟩ | h
  · obtain ⟨q', h1, e1⟩ := mm_addr (M' := M) h
    exact Or.inl ⟨k, q'.2, h1.trans (congrArg some (Prod.ext e1 rfl))⟩
  · exact Or.inr (by omega)
theorem mm_set_w {ad : Nat → Nat} {cI cC : ClassId} {M : mm_M} {o : Nat} {ch : Bool} {n : Nat} (h : mm_shape[o]? = some (.inr (ch, n))) (f : Nat → Int32) :
    (mm_world ad cI cC M).set o (ad o, .inl (if ch = true then cC else cI, n, .inl f)) = mm_world ad cI cC (mm_set M o f) := by
  apply List.ext_getElem?
  intro i
  rw [List.getElem?_set]
  have hlt : o < (mm_world ad cI cC M).length := by
    simp only [mm_world, List.length_mapIdx]
    exact (List.getElem?_eq_some_iff.mp h).1
  by_cases hi : o = i
  · subst hi
    rw [if_pos rfl, if_pos hlt, mm_get_w h]
    simp [mm_ce, mm_set]
  · rw [if_neg hi]
    simp only [mm_world, List.getElem?_mapIdx]
    cases hs : mm_shape[i]? with
    | none => rfl
    | some e => cases e <;> simp [mm_ce, mm_set, Ne.symm hi]
theorem mm_put_w {ad : Nat → Nat} {cI cC : ClassId} {M : mm_M} {o ci k : Nat} {fs : List (Option Nat)} (h : mm_shape[o]? = some (.inl (ci, fs))) (hk : fs[k]? = some none) (v : Int32) :
    (mm_world ad cI cC M).set o (ad o, .inr (ci, (fs.mapIdx (mm_fv ad (M o))).set k (.int v))) = mm_world ad cI cC (mm_up M o k v) := by
  apply List.ext_getElem?
  intro i
  rw [List.getElem?_set]
  have hlt : o < (mm_world ad cI cC M).length := by
    simp only [mm_world, List.length_mapIdx]
    exact (List.getElem?_eq_some_iff.mp h).1
  by_cases hi : o = i
  · subst hi
    rw [if_pos rfl, if_pos hlt, mm_get_w h]
    simp only [mm_ce]
    refine congrArg (fun l => some (ad o, (Sum.inr (ci, l) : va_E))) ?_
    apply List.ext_getElem?
    intro j
    rw [List.getElem?_set]
    have hk2 := (List.getElem?_eq_some_iff.mp hk).1
    by_cases hj : k = j
    · subst hj
      rw [if_pos rfl, if_pos (by simpa using hk2), List.getElem?_mapIdx, hk]
      simp [mm_fv, mm_up, upd]
    · rw [if_neg hj]
      simp only [List.getElem?_mapIdx]
      cases hf : fs[j]? with
      | none => rfl
      | some f => cases f <;> simp [mm_fv, mm_up, upd, Ne.symm hj]
  · rw [if_neg hi]
    simp only [mm_world, List.getElem?_mapIdx]
    cases hs : mm_shape[i]? with
    | none => rfl
    | some e => cases e <;> simp [mm_ce, mm_up, Ne.symm hi]
-- locals
def mm_ls (ad : Nat → Nat) (lo : mm_L) (ls : Array Slot) : Prop := lv_wf ls ∧ ls.size = lo.length ∧ ∀ (k : Nat) (v : mm_V), lo[k]? = some (some v) → ls[k]? = some (.val (mm_tv ad v))
def mm_lq (ad : Nat → Nat) (lo : mm_L) (k : Nat) : Option (Nat × Value) := match lo[k]? with
  | some (some v) => some (k, mm_tv ad v)
  | _ => none
def mm_lvs (ad : Nat → Nat) (lo : mm_L) : List (Nat × Value) := (List.range lo.length).filterMap (mm_lq ad lo)
theorem mm_lvs_mem {ad : Nat → Nat} {lo : mm_L} {k : Nat} {v : mm_V} (h : lo[k]? = some (some v)) : (k, mm_tv ad v) ∈ mm_lvs ad lo :=
  List.mem_filterMap.mpr ⟨k, List.mem_range.mpr (List.getElem?_eq_some_iff.mp h).1, by simp [mm_lq, h]⟩
theorem mm_lvs_of {ad : Nat → Nat} {lo : mm_L} {q : Nat × Value} (h : q ∈ mm_lvs ad lo) : ∃ v, lo[q.1]? = some (some v) ∧ q.2 = mm_tv ad v := by
  obtain ⟨k, -, hk⟩ := List.mem_filterMap.mp h
  unfold mm_lq at hk
  split at hk
  · cases hk
    exact ⟨_, by assumption, rfl⟩
  · cases hk
theorem mm_ls_has {ad : Nat → Nat} {lo : mm_L} {ls : Array Slot} (h : mm_ls ad lo ls) : lv_has ls lo.length (mm_lvs ad lo) := by
  refine ⟨h.2.1, h.1, fun q hq => ?_⟩
  obtain ⟨v, h1, h2⟩ := mm_lvs_of hq
  rw [h.2.2 _ _ h1, h2]
theorem mm_ls_set {ad : Nat → Nat} {lo : mm_L} {ls : Array Slot} {k : Nat} {v : mm_V}
    (h : lv_has ls lo.length ((k, mm_tv ad v) :: (mm_lvs ad lo).filter (fun q => !(q.1 == k) && !(q.1 + 1 == k && q.2.category == 2)))) : mm_ls ad (lo.set k (some v)) ls := by
  refine ⟨h.2.1, by rw [List.length_set]; exact h.1, fun j w hw => ?_⟩
  rw [List.getElem?_set] at hw
  by_cases hj : k = j
  · subst hj
    rw [if_pos rfl] at hw
    split at hw
    · cases hw
      exact h.2.2 (k, mm_tv ad v) List.mem_cons_self
    · cases hw
  · rw [if_neg hj] at hw
    refine h.2.2 (j, mm_tv ad w) (List.mem_cons_of_mem _ (List.mem_filter.mpr ⟨mm_lvs_mem hw, ?_⟩))
    have hc := mm_tv_cat ad w
    simp [Ne.symm hj, hc]
theorem mm_sl (ad : Nat → Nat) (as : List mm_V) : lg_sl (as.map (mm_tv ad)) = as.map (fun v => Slot.val (mm_tv ad v)) := by
  induction as with
  | nil => rfl
  | cons v r ih =>
    have hc := mm_tv_cat ad v
    simp only [List.map_cons, lg_sl, List.flatMap_cons] at ih ⊢
    rw [ih]
    simp [hc]
theorem mm_lv_args (ad : Nat → Nat) (as : List mm_V) : ∀ (i k : Nat) (v : mm_V), as[k]? = some v → (i + k, mm_tv ad v) ∈ lv_args i (as.map (mm_tv ad)) := by
  induction as with
  | nil => intro i k v h; simp at h
  | cons w r ih =>
    intro i k v h
    have hc := mm_tv_cat ad w
    simp only [List.map_cons, lv_args, hc]
    cases k with
    | zero =>
      simp at h
      subst h
      exact List.mem_cons_self
    | succ k =>
      simp at h
      have h1 := ih (i + 1) k v h
      rw [show i + 1 + k = i + (k + 1) by omega] at h1
      exact List.mem_cons_of_mem _ (by simpa using h1)
theorem mm_ent_len {k : Nat} {as : List mm_V} (h : as.length ≤ mm_maxL k) : (mm_ent k as).length = mm_maxL k := by
  simp [mm_ent]; omega
theorem mm_ls_ent {ad : Nat → Nat} {k : Nat} {as : List mm_V} (h : as.length ≤ mm_maxL k) : mm_ls ad (mm_ent k as) ((lg_sl (as.map (mm_tv ad)) ++ List.replicate (mm_maxL k - (lg_sl (as.map (mm_tv ad))).length) Slot.unset).toArray) := by
  have hlen : (lg_sl (as.map (mm_tv ad))).length = as.length := by rw [mm_sl]; simp
  have h1 := lv_entry (as.map (mm_tv ad)) (n := mm_maxL k) (by rw [hlen]; exact h)
  refine ⟨h1.2.1, by rw [h1.1, mm_ent_len h], fun j v hj => ?_⟩
  have h2 : as[j]? = some v := by
    simp only [mm_ent] at hj
    by_cases hjl : j < as.length
    · rw [List.getElem?_append_left (by simpa using hjl), List.getElem?_map] at hj
      cases ha : as[j]? with
      | none => rw [ha] at hj; cases hj
      | some w => rw [ha] at hj; simp at hj; rw [hj]
    · rw [List.getElem?_append_right (by simpa using hjl), List.getElem?_replicate] at hj
      split at hj <;> cases hj
  have h3 := mm_lv_args ad as 0 j v h2
  rw [Nat.zero_add] at h3
  exact h1.2.2 _ h3
end
section
/-! EACH STEP OF THE SMALL MACHINE IS A STEP OF THE MACHINE -/
def mm_X (ad : Nat → Nat) (A : Nat → Prop) (U : State) (H : Heap) : Prop :=
  (∀ f ∈ mm_flds, f.2.2.2.1 = true → ∀ q, vwCl[f.2.1]? = some q → va_Nw (.fieldLinkNest (mm_cn f.1.1) f.1.2 (q.2.1 f.2.2.1).1 (q.2.1 f.2.2.1).2.1 (q.2.1 f.2.2.1).2.2.1 "LimbScore") U) ∧
  (∀ f ∈ mm_calls, f.2.1 = 2 → va_Nw (.methodLinkNest (mm_cn f.1.1) f.1.2 (mm_y f.2.2.1) "LimbScore") U) ∧
  (va_Z "LimbScore$Walk" "UNIT_X" "[I" (.ref (ad 40)) A U H ∧ va_T .int (ad 40) 8 (fun j => .int (mm_ux j)) A U H) ∧
  (va_Z "LimbScore$Walk" "UNIT_Y" "[I" (.ref (ad 41)) A U H ∧ va_T .int (ad 41) 8 (fun j => .int (mm_uy j)) A U H) ∧
  va_T .int (ad 42) (ad 43) (fun j => .int (Int32.ofNat (ad (100 + j)))) A U H
theorem mm_X_blind {ad : Nat → Nat} {A : Nat → Prop} {U : State} (g : JFrame) (mk : MethodId) (a : Array Value) (h : mm_X ad A U U.heap) : mm_X ad A (U.calling g mk a) (U.calling g mk a).heap := by
  obtain ⟨h1, h2, ⟨h3, h4⟩, ⟨h5, h6⟩, h7⟩ := h
  exact ⟨fun f hf hn q hq => va_Nw.same rfl (u := U) rfl (h1 f hf hn q hq), fun f hf hn => va_Nw.same rfl (u := U) rfl (h2 f hf hn),
    ⟨va_Z.moved (u := U) (U := U.calling g mk a) (Vm.Alike.refl U.vm) h3, va_T.moved (u := U) (U := U.calling g mk a) (Vm.Alike.refl U.vm) h4⟩,
    ⟨va_Z.moved (u := U) (U := U.calling g mk a) (Vm.Alike.refl U.vm) h5, va_T.moved (u := U) (U := U.calling g mk a) (Vm.Alike.refl U.vm) h6⟩, va_T.moved (u := U) (U := U.calling g mk a) (Vm.Alike.refl U.vm) h7⟩
theorem mm_X_go {ad : Nat → Nat} {A B : Nat → Prop} {s U : State} {H : Heap} {locs : List Loc} (h : mm_X ad A s s.heap) (hW : s.WarmedH U.vm) (hU : U.heap = H) (hS : va_S A s.heap H locs) (hB : ∀ q, B q → A q) : mm_X ad B U U.heap := by
  obtain ⟨h1, h2, ⟨h3, h4⟩, ⟨h5, h6⟩, h7⟩ := h
  have hk : ∀ a : Nat, a < s.heap.size → ¬ A a → U.heap[a]? = s.heap[a]? := fun a z1 z2 => by rw [hU]; exact hS.2.1 a z1 z2
  exact ⟨fun f hf hn q hq => va_Nw.warmF hW (h1 f hf hn q hq), fun f hf hn => va_Nw.warmM hW (h2 f hf hn),
    ⟨((h3.kept hk).narrow hB).moved hW.alike, ((h4.kept hk).narrow hB).moved hW.alike⟩, ⟨((h5.kept hk).narrow hB).moved hW.alike, ((h6.kept hk).narrow hB).moved hW.alike⟩, ((h7.kept hk).narrow hB).moved hW.alike⟩
section MMS
variable {p : Program} {l : Launch} {e : Env} {R : Room} {s : State} {m : MethodId} {args : Array Value} {below : List Frame} {meth : Method} {c : Code} {Q : State → Prop} {j : Nat} {D : va_G} {ad : Nat → Nat} {cI cC : ClassId} {A : Nat → Prop} {nc ns : Nat}
/-- the objects lie apart, and the memory tells the script as it is -/
def mm_DD (A : Nat → Prop) (ad : Nat → Nat) (cI cC : ClassId) (M : mm_M) : Prop := va_D A (mm_world ad cI cC M) ∧ mm_ok ad M
def mm_C (p : Program) (R : Room) (s : State) (m : MethodId) (args : Array Value) (meth : Method) (c : Code) (nc ns j : Nat) (D : va_G) (ad : Nat → Nat) (cI cC : ClassId) (A : Nat → Prop) : Prop :=
  p.tables.exec = Jvm.exec ∧ c.code = mm_code j ∧ c.maxLocals = mm_maxL j ∧ meth.sig.returnType = mm_ret j ∧ meth.locks = false ∧ s.vm.findClass (mm_cn (mm_cno j)) = some m.cls ∧ (∀ w ∈ mm_GW, w.before args s = true) ∧ va_K D vwCl (mm_tys cI cC) s ∧ mm_X ad A s s.heap ∧ (∀ q, s.heap.size ≤ q → A q) ∧ mm_fr j ≤ R.frames ∧ mm_lo j ≤ R.locals ∧ nc ≤ R.cells ∧ ns ≤ R.slots
def mm_G (p : Program) (l : Launch) (e : Env) (R : Room) (s : State) (m : MethodId) (args : Array Value) (below : List Frame) (meth : Method) (c : Code) (nc ns : Nat) (Q : State → Prop) (j : Nat) (D : va_G) (ad : Nat → Nat) (cI cC : ClassId) (A : Nat → Prop) (q : mm_F) : Prop :=
  ∀ (H : Heap) (locs : List Loc) (ls : Array Slot), va_P D vwCl (mm_world ad cI cC q.2.2.2) H → mm_DD A ad cI cC q.2.2.2 → va_S A s.heap H locs → mm_ls ad q.2.1 ls → q.2.1.length = mm_maxL j → W p l e R s m args below meth c H locs nc ns Q (F0 m q.1 ls (q.2.2.1.map (mm_tv ad)))
variable {pc pc' : Nat} {lo : mm_L} {st : List mm_V} {M : mm_M} {q : mm_F}
/-- the step changes the stack and the place alone -/
theorem mm_s_nx (h : mm_nx pc' lo st M = some (.inl q)) (k : mm_G p l e R s m args below meth c nc ns Q j D ad cI cC A q) : mm_G p l e R s m args below meth c nc ns Q j D ad cI cC A (pc', lo, st, M) := by
  unfold mm_nx at h
  cases h
  exact k
theorem mm_s_row {st1 st2 : List mm_V} (row : ∀ (H : Heap) (locs : List Loc) (ls : Array Slot), mm_ls ad lo ls → va_P D vwCl (mm_world ad cI cC M) H → va_S A s.heap H locs → W p l e R s m args below meth c H locs nc ns Q (F0 m pc' ls (st2.map (mm_tv ad))) → W p l e R s m args below meth c H locs nc ns Q (F0 m pc ls (st1.map (mm_tv ad))))
    (k : mm_G p l e R s m args below meth c nc ns Q j D ad cI cC A (pc', lo, st2, M)) : mm_G p l e R s m args below meth c nc ns Q j D ad cI cC A (pc, lo, st1, M) := by
  intro H locs ls hP hD hS hl hn
  exact row H locs ls hl hP hS (k H locs ls hP hD hS hl hn)
theorem mm_s_jmp {off : Int} {pc0 : Nat} (h : mm_jmp pc0 off lo st M = some (.inl q)) (k : mm_G p l e R s m args below meth c nc ns Q j D ad cI cC A q) : ∃ tgt : Nat, (pc0 : Int) + off = (tgt : Int) ∧ mm_G p l e R s m args below meth c nc ns Q j D ad cI cC A (tgt, lo, st, M) := by
  unfold mm_jmp at h
  split at h
  · rename_i hz
    exact ⟨((pc0 : Int) + off).toNat, by omega, mm_s_nx h k⟩
  · cases h
theorem mm_s_bin {f : Int32 → Int32 → Int32} (row : ∀ (H : Heap) (locs : List Loc) (ls : Array Slot) (rest : List Value) (x y : Int32), st.head? = some (.inl y) → W p l e R s m args below meth c H locs nc ns Q (F0 m (pc + 1) ls (.int (f x y) :: rest)) → W p l e R s m args below meth c H locs nc ns Q (F0 m pc ls (.int y :: .int x :: rest)))
    (h : mm_bin f pc lo st M = some (.inl q)) (k : mm_G p l e R s m args below meth c nc ns Q j D ad cI cC A q) : mm_G p l e R s m args below meth c nc ns Q j D ad cI cC A (pc, lo, st, M) := by
  unfold mm_bin at h
  split at h
  · exact mm_s_row (fun H locs ls _ _ _ w => row H locs ls _ _ _ rfl w) (mm_s_nx h k)
  · cases h
theorem mm_s_un {f : Int32 → Int32} (row : ∀ (H : Heap) (locs : List Loc) (ls : Array Slot) (rest : List Value) (x : Int32), W p l e R s m args below meth c H locs nc ns Q (F0 m (pc + 1) ls (.int (f x) :: rest)) → W p l e R s m args below meth c H locs nc ns Q (F0 m pc ls (.int x :: rest)))
    (h : mm_un f pc lo st M = some (.inl q)) (k : mm_G p l e R s m args below meth c nc ns Q j D ad cI cC A q) : mm_G p l e R s m args below meth c nc ns Q j D ad cI cC A (pc, lo, st, M) := by
  unfold mm_un at h
  split at h
  · exact mm_s_row (fun H locs ls _ _ _ w => row H locs ls _ _ w) (mm_s_nx h k)
  · cases h
theorem mm_s_ldi {i : Nat} (row : ∀ (H : Heap) (locs : List Loc) (ls : Array Slot) (rest : List Value) (x : Int32), ls[i]? = some (.val (.int x)) → W p l e R s m args below meth c H locs nc ns Q (F0 m pc' ls (.int x :: rest)) → W p l e R s m args below meth c H locs nc ns Q (F0 m pc ls rest))
    (h : mm_ldi i pc' lo st M = some (.inl q)) (k : mm_G p l e R s m args below meth c nc ns Q j D ad cI cC A q) : mm_G p l e R s m args below meth c nc ns Q j D ad cI cC A (pc, lo, st, M) := by
  unfold mm_ldi at h
  split at h
  · rename_i x hx
    exact mm_s_row (fun H locs ls hl _ _ w => row H locs ls _ x (hl.2.2 _ _ hx) w) (mm_s_nx h k)
  · cases h
theorem mm_s_lda {i : Nat} (row : ∀ (H : Heap) (locs : List Loc) (ls : Array Slot) (rest : List Value) (x : Nat), ls[i]? = some (.val (.ref x)) → W p l e R s m args below meth c H locs nc ns Q (F0 m pc' ls (.ref x :: rest)) → W p l e R s m args below meth c H locs nc ns Q (F0 m pc ls rest))
    (h : mm_lda i pc' lo st M = some (.inl q)) (k : mm_G p l e R s m args below meth c nc ns Q j D ad cI cC A q) : mm_G p l e R s m args below meth c nc ns Q j D ad cI cC A (pc, lo, st, M) := by
  unfold mm_lda at h
  split at h
  · rename_i x hx
    exact mm_s_row (fun H locs ls hl _ _ w => row H locs ls _ (ad x) (hl.2.2 _ _ hx) w) (mm_s_nx h k)
  · cases h
theorem mm_s_sti {i : Nat} (row : ∀ (H : Heap) (locs : List Loc) (ls : Array Slot) (rest : List Value) (x : Int32), lv_has ls lo.length (mm_lvs ad lo) → i < lo.length → (∀ ls' : Array Slot, lv_has ls' lo.length ((i, Value.int x) :: (mm_lvs ad lo).filter (fun q => !(q.1 == i) && !(q.1 + 1 == i && q.2.category == 2))) → W p l e R s m args below meth c H locs nc ns Q (F0 m pc' ls' rest)) → W p l e R s m args below meth c H locs nc ns Q (F0 m pc ls (.int x :: rest)))
    (h : mm_sti i pc' lo st M = some (.inl q)) (k : mm_G p l e R s m args below meth c nc ns Q j D ad cI cC A q) : mm_G p l e R s m args below meth c nc ns Q j D ad cI cC A (pc, lo, st, M) := by
  unfold mm_sti at h
  split at h
  · rename_i x r
    split at h
    · rename_i hi
      have k1 := mm_s_nx h k
      intro H locs ls hP hD hS hl hn
      exact row H locs ls _ x (mm_ls_has hl) hi (fun ls' h' => k1 H locs ls' hP hD hS (mm_ls_set (v := .inl x) h') (by simpa using hn))
    · cases h
  · cases h
theorem mm_s_inc {i : Nat} {n : Int} (hx : p.tables.exec = Jvm.exec) (hb : c.code = mm_code j) (hd : decode (mm_code j) pc = .ok (.iinc i n, 3))
    (h : mm_inc i n (pc + 3) lo st M = some (.inl q)) (k : mm_G p l e R s m args below meth c nc ns Q j D ad cI cC A q) : mm_G p l e R s m args below meth c nc ns Q j D ad cI cC A (pc, lo, st, M) := by
  unfold mm_inc at h
  split at h
  · rename_i x hx1
    have k1 := mm_s_nx h k
    intro H locs ls hP hD hS hl hn
    obtain ⟨kq, hkq⟩ := List.getElem?_of_mem (mm_lvs_mem (ad := ad) hx1)
    exact lv_iinc hx hb hd (mm_ls_has hl) hkq rfl (List.getElem?_eq_some_iff.mp hx1).1 rfl (fun ls' h' => k1 H locs ls' hP hD hS (mm_ls_set (v := .inl (x + Int32.ofInt n)) h') (by simpa using hn))
  · cases h
theorem mm_s_br {b : Bool} {off : Int} (h : mm_br b pc off lo st M = some (.inl q)) (k : mm_G p l e R s m args below meth c nc ns Q j D ad cI cC A q) : ∃ tgt : Nat, (pc : Int) + off = (tgt : Int) ∧ (b = true → mm_G p l e R s m args below meth c nc ns Q j D ad cI cC A (tgt, lo, st, M)) ∧ (b = false → mm_G p l e R s m args below meth c nc ns Q j D ad cI cC A (pc + 3, lo, st, M)) := by
  unfold mm_br at h
  split at h
  · refine ⟨((pc : Int) + off).toNat, by omega, fun hb => ?_, fun hb => ?_⟩
    · rw [if_pos hb] at h
      exact mm_s_nx h k
    · rw [if_neg (by simp [hb])] at h
      exact mm_s_nx h k
  · cases h
theorem mm_s_if1 {cd : ClassFile.Cond} {off : Int} (hx : p.tables.exec = Jvm.exec) (hb : c.code = mm_code j) (hd : decode (mm_code j) pc = .ok (.ifCond cd off, 3))
    (h : mm_if1 cd pc off lo st M = some (.inl q)) (k : mm_G p l e R s m args below meth c nc ns Q j D ad cI cC A q) : mm_G p l e R s m args below meth c nc ns Q j D ad cI cC A (pc, lo, st, M) := by
  unfold mm_if1 at h
  split at h
  · rename_i x r
    intro H locs ls hP hD hS hl hn
    obtain ⟨tgt, ht, k1, k2⟩ := mm_s_br h k
    cases cd
    · exact lv_if_eq hx hb hd ht (fun z => k1 (decide_eq_true z) H locs ls hP hD hS hl hn) (fun z => k2 (decide_eq_false z) H locs ls hP hD hS hl hn)
    · exact lv_if_ne hx hb hd ht (fun z => k1 (decide_eq_true z) H locs ls hP hD hS hl hn) (fun z => k2 (decide_eq_false (fun w => w z)) H locs ls hP hD hS hl hn)
    · exact lv_if_lt hx hb hd ht (fun z => k1 (decide_eq_true z) H locs ls hP hD hS hl hn) (fun z => k2 (decide_eq_false z) H locs ls hP hD hS hl hn)
    · exact lv_if_ge hx hb hd ht (fun z => k1 (decide_eq_true z) H locs ls hP hD hS hl hn) (fun z => k2 (decide_eq_false z) H locs ls hP hD hS hl hn)
    · exact lv_if_gt hx hb hd ht (fun z => k1 (decide_eq_true z) H locs ls hP hD hS hl hn) (fun z => k2 (decide_eq_false z) H locs ls hP hD hS hl hn)
    · exact lv_if_le hx hb hd ht (fun z => k1 (decide_eq_true z) H locs ls hP hD hS hl hn) (fun z => k2 (decide_eq_false z) H locs ls hP hD hS hl hn)
  · cases h
theorem mm_s_if2 {cd : ClassFile.Cond} {off : Int} (hx : p.tables.exec = Jvm.exec) (hb : c.code = mm_code j) (hd : decode (mm_code j) pc = .ok (.if_icmp cd off, 3))
    (h : mm_if2 cd pc off lo st M = some (.inl q)) (k : mm_G p l e R s m args below meth c nc ns Q j D ad cI cC A q) : mm_G p l e R s m args below meth c nc ns Q j D ad cI cC A (pc, lo, st, M) := by
  unfold mm_if2 at h
  split at h
  · rename_i y x r
    intro H locs ls hP hD hS hl hn
    obtain ⟨tgt, ht, k1, k2⟩ := mm_s_br h k
    cases cd
    · exact lv_icmp_eq hx hb hd ht (fun z => k1 (decide_eq_true z) H locs ls hP hD hS hl hn) (fun z => k2 (decide_eq_false z) H locs ls hP hD hS hl hn)
    · exact lv_icmp_ne hx hb hd ht (fun z => k1 (decide_eq_true z) H locs ls hP hD hS hl hn) (fun z => k2 (decide_eq_false (fun w => w z)) H locs ls hP hD hS hl hn)
    · exact lv_icmp_lt hx hb hd ht (fun z => k1 (decide_eq_true z) H locs ls hP hD hS hl hn) (fun z => k2 (decide_eq_false z) H locs ls hP hD hS hl hn)
    · exact lv_icmp_ge hx hb hd ht (fun z => k1 (decide_eq_true z) H locs ls hP hD hS hl hn) (fun z => k2 (decide_eq_false z) H locs ls hP hD hS hl hn)
    · exact lv_icmp_gt hx hb hd ht (fun z => k1 (decide_eq_true z) H locs ls hP hD hS hl hn) (fun z => k2 (decide_eq_false z) H locs ls hP hD hS hl hn)
    · exact lv_icmp_le hx hb hd ht (fun z => k1 (decide_eq_true z) H locs ls hP hD hS hl hn) (fun z => k2 (decide_eq_false z) H locs ls hP hD hS hl hn)
  · cases h
theorem mm_s_tsw {d lo' hi : Int} {offs : Array Int} {len : Nat} (hx : p.tables.exec = Jvm.exec) (hb : c.code = mm_code j) (hd : decode (mm_code j) pc = .ok (.tableswitch d lo' hi offs, len))
    (h : mm_tsw d lo' hi offs pc lo st M = some (.inl q)) (k : mm_G p l e R s m args below meth c nc ns Q j D ad cI cC A q) : mm_G p l e R s m args below meth c nc ns Q j D ad cI cC A (pc, lo, st, M) := by
  unfold mm_tsw at h
  split at h
  · rename_i x r
    intro H locs ls hP hD hS hl hn
    split at h
    · rename_i hz
      obtain ⟨tgt, ht, k1⟩ := mm_s_jmp h k
      exact lv_tableOut hx hb hd hz ht (k1 H locs ls hP hD hS hl hn)
    · rename_i hz
      split at h
      · rename_i off ho
        obtain ⟨tgt, ht, k1⟩ := mm_s_jmp h k
        exact lv_tableIn hx hb hd (fun z => hz (Or.inl z)) (fun z => hz (Or.inr z)) ho ht (k1 H locs ls hP hD hS hl hn)
      · cases h
  · cases h
theorem mm_s_lsw {d : Int} {ps : Array (Int × Int)} {len : Nat} (hx : p.tables.exec = Jvm.exec) (hb : c.code = mm_code j) (hd : decode (mm_code j) pc = .ok (.lookupswitch d ps, len))
    (h : mm_lsw d ps pc lo st M = some (.inl q)) (k : mm_G p l e R s m args below meth c nc ns Q j D ad cI cC A q) : mm_G p l e R s m args below meth c nc ns Q j D ad cI cC A (pc, lo, st, M) := by
  unfold mm_lsw at h
  split at h
  · rename_i x r
    intro H locs ls hP hD hS hl hn
    split at h
    · rename_i hz
      obtain ⟨tgt, ht, k1⟩ := mm_s_jmp h k
      exact lv_lookup hx hb hd hz rfl ht (k1 H locs ls hP hD hS hl hn)
    · cases h
  · cases h
/-- what the shape and the fields' table say of a field -/
theorem mm_fact {f : (Nat × Nat) × (Nat × Nat × Bool × Nat)} (hf : f ∈ mm_flds) : ∃ r : vw_C, vwCl[f.2.1]? = some r ∧ f.2.2.1 < r.2.2 ∧ (f.2.2.2.1 = false → Cond.fieldLink (mm_cn f.1.1) f.1.2 (r.2.1 f.2.2.1).1 (r.2.1 f.2.2.1).2.1 (r.2.1 f.2.2.1).2.2.1 ∈ mm_GW) := by
  have h := List.all_eq_true.mp mm_flds_ok f hf
  unfold mm_fOk at h
  split at h
  · rename_i r hr
    simp only [Bool.and_eq_true, decide_eq_true_eq] at h
    refine ⟨r, hr, h.1, fun hn => ?_⟩
    have h2 := h.2
    rw [hn] at h2
    exact mm_w_in h2
  · cases h
theorem mm_kind {r : vw_C} {ci : Nat} (hr : vwCl[ci]? = some r) : (∀ w ∈ u_ws r.1 r.2.1 r.2.2, w ∈ mm_GW) ∧ (∃ ty : Nat → FieldType, ∀ k, k < r.2.2 → parseFieldDescriptor (r.2.1 k).2.2.1 = some (ty k)) ∧ (∀ a, a < r.2.2 → ∀ b, b < r.2.2 → a ≠ b → (r.2.1 a).2.1 ≠ (r.2.1 b).2.1) := by
  have h := List.all_eq_true.mp mm_kinds_ok r (List.mem_of_getElem? hr)
  unfold mm_kOk at h
  simp only [Bool.and_eq_true, decide_eq_true_eq] at h
  obtain ⟨⟨h1, h2⟩, h3⟩ := h
  refine ⟨fun w hw => ?_, ⟨fun k => (parseFieldDescriptor (r.2.1 k).2.2.1).getD .int, fun k hk => ?_⟩, h3⟩
  · have z := List.all_eq_true.mp h1 w hw
    simp only [Bool.and_eq_true, decide_eq_true_eq] at z
    exact List.mem_filter.mpr z
  · have z := List.all_eq_true.mp h2 k (List.mem_range.mpr hk)
    cases hz : parseFieldDescriptor (r.2.1 k).2.2.1 with
    | none => rw [hz] at z; cases z
    | some t => simp [hz]
theorem mm_fd_in {cn i : Nat} {f : (Nat × Nat) × (Nat × Nat × Bool × Nat)} (h : mm_fld cn i = some f) : f ∈ mm_flds ∧ f.1 = (cn, i) := by
  unfold mm_fld at h
  have h2 := List.find?_some h
  simp only [Bool.and_eq_true] at h2
  exact ⟨List.mem_of_find?_eq_some h, Prod.ext (Nat.eq_of_beq_eq_true h2.1) (Nat.eq_of_beq_eq_true h2.2)⟩
theorem mm_s_get {f : (Nat × Nat) × (Nat × Nat × Bool × Nat)} {i : Nat} (C0 : mm_C p R s m args meth c nc ns j D ad cI cC A) (hf : mm_fld (mm_cno j) i = some f) (hd : decode (mm_code j) pc = .ok (.getfield i, 3))
    (h : mm_get f pc lo st M = some (.inl q)) (k : mm_G p l e R s m args below meth c nc ns Q j D ad cI cC A q) : mm_G p l e R s m args below meth c nc ns Q j D ad cI cC A (pc, lo, st, M) := by
  obtain ⟨hx, hb, hml, hr, hlk, hown, hts, hK, hX, hA, -, -⟩ := C0
  obtain ⟨hfm, hfi⟩ := mm_fd_in hf
  obtain ⟨⟨fa, fb⟩, fc, fk, fn, fw⟩ := f
  cases hfi
  obtain ⟨r, hr1, hr2, hr3⟩ := mm_fact hfm
  obtain ⟨hin, -, -⟩ := mm_kind hr1
  have key : ∀ (o : Nat) (fs : List (Option Nat)) (v : Value) (rest : List mm_V) (v' : mm_V), st = .inr o :: rest → mm_shape[o]? = some (.inl (fc, fs)) → (fs.mapIdx (mm_fv ad (M o)))[fk]? = some v → v = mm_tv ad v' → mm_G p l e R s m args below meth c nc ns Q j D ad cI cC A (pc + 3, lo, v' :: rest, M) → mm_G p l e R s m args below meth c nc ns Q j D ad cI cC A (pc, lo, st, M) := by
    intro o fs v rest v' hst ho hv hv' k1
    subst hst
    intro H locs ls hP hD hS hl hn
    have w := k1 H locs ls hP hD hS hl hn
    cases fn with
    | false => exact va_get (tys := mm_tys cI cC) hx hb hts hin hown hK hP o (mm_get_w ho) hr1 fk hr2 (hts _ (hr3 rfl)) (fun _ z => z) (by rw [hv, hv']) hd w
    | true => exact va_getN (host := "LimbScore") (tys := mm_tys cI cC) hx hb hts hin hown hK hP o (mm_get_w ho) hr1 fk hr2 (va_Nw.use rfl (hX.1 _ hfm rfl r hr1)) (fun _ z => z) (by rw [hv, hv']) hd w
  unfold mm_get at h
  split at h
  · rename_i o rest
    split at h
    · rename_i ci fs ho
      split at h
      · rename_i hci
        simp only at hci
        subst hci
        split at h
        · rename_i hfs
          exact key o fs _ rest (.inl (M o fk)) rfl ho (by rw [List.getElem?_mapIdx, hfs]; rfl) rfl (mm_s_nx h k)
        · rename_i g hfs
          exact key o fs _ rest (.inr g) rfl ho (by rw [List.getElem?_mapIdx, hfs]; rfl) rfl (mm_s_nx h k)
        · cases h
      · cases h
    · cases h
  · cases h
theorem mm_s_put {f : (Nat × Nat) × (Nat × Nat × Bool × Nat)} {i : Nat} (C0 : mm_C p R s m args meth c nc ns j D ad cI cC A) (hf : mm_fld (mm_cno j) i = some f) (hd : decode (mm_code j) pc = .ok (.putfield i, 3))
    (h : mm_put f pc lo st M = some (.inl q)) (k : mm_G p l e R s m args below meth c nc ns Q j D ad cI cC A q) : mm_G p l e R s m args below meth c nc ns Q j D ad cI cC A (pc, lo, st, M) := by
  obtain ⟨hx, hb, hml, hr, hlk, hown, hts, hK, hX, hA, -, -⟩ := C0
  obtain ⟨hfm, hfi⟩ := mm_fd_in hf
  obtain ⟨⟨fa, fb⟩, fc, fk, fn, fw⟩ := f
  cases hfi
  obtain ⟨r, hr1, hr2, hr3⟩ := mm_fact hfm
  obtain ⟨hin, ⟨ty, hty⟩, hnm⟩ := mm_kind hr1
  unfold mm_put at h
  split at h
  · rename_i v o rest
    split at h
    · rename_i ci fs ho
      split at h
      · rename_i hci
        simp only at hci
        subst hci
        split at h
        · rename_i hfs
          have k1 := mm_s_nx h k
          have hsh := List.all_eq_true.mp mm_shape_ok _ (List.mem_of_getElem? ho)
          simp only [mm_eOk, hr1, Bool.and_eq_true, decide_eq_true_eq] at hsh
          have hs2 := List.all_eq_true.mp hsh.2 fk (List.mem_range.mpr hr2)
          simp only [] at hfs
          rw [if_pos hfs] at hs2
          simp only [Bool.and_eq_true, decide_eq_true_eq, Bool.not_eq_true'] at hs2
          intro H locs ls hP hD hS hl hn
          have go : ∀ (H1 : Heap) (locs1 : List Loc), va_P D vwCl ((mm_world ad cI cC M).set o (ad o, .inr (ci, (fs.mapIdx (mm_fv ad (M o))).set fk (.int v)))) H1 → va_D A ((mm_world ad cI cC M).set o (ad o, .inr (ci, (fs.mapIdx (mm_fv ad (M o))).set fk (.int v)))) → va_S A s.heap H1 locs1 → W p l e R s m args below meth c H1 locs1 nc ns Q (F0 m (pc + 3) ls (rest.map (mm_tv ad))) := by
            intro H1 locs1 hP1 hD1 hS1
            rw [mm_put_w ho hfs] at hP1 hD1
            exact k1 H1 locs1 ls hP1 ⟨hD1, mm_ok_up hD.2 ho⟩ hS1 hl hn
          have hlen : fk < (fs.mapIdx (mm_fv ad (M o))).length := by rw [List.length_mapIdx, hsh.1]; exact hr2
          cases fn with
          | false => exact va_put (tys := mm_tys cI cC) (ty := .int) hx hb hts hin ty hty hnm hown hK hP hD.1 hS o (mm_get_w ho) hr1 fk hr2 (hts _ (hr3 rfl)) (fun _ z => z) hs2.2 hs2.1 rfl rfl hlen hd go
          | true => exact va_putN (host := "LimbScore") (tys := mm_tys cI cC) (ty := .int) hx hb hts hin ty hty hnm hown hK hP hD.1 hS o (mm_get_w ho) hr1 fk hr2 (va_Nw.use rfl (hX.1 _ hfm rfl r hr1)) (fun _ z => z) hs2.2 hs2.1 rfl rfl hlen hd go
        · cases h
      · cases h
    · cases h
  · cases h
theorem mm_s_gst {f : (Nat × Nat) × (Bool × Nat)} {i : Nat} (C0 : mm_C p R s m args meth c nc ns j D ad cI cC A) (hf : mm_stt (mm_cno j) i = some f) (hd : decode (mm_code j) pc = .ok (.getstatic i, 3))
    (h : mm_gst f pc lo st M = some (.inl q)) (k : mm_G p l e R s m args below meth c nc ns Q j D ad cI cC A q) : mm_G p l e R s m args below meth c nc ns Q j D ad cI cC A (pc, lo, st, M) := by
  obtain ⟨hx, hb, hml, hr, hlk, hown, hts, hK, hX, hA, -, -⟩ := C0
  have hfm : f ∈ mm_stats := List.mem_of_find?_eq_some hf
  have hfi := List.find?_some hf
  simp only [Bool.and_eq_true] at hfi
  have e1 := Nat.eq_of_beq_eq_true hfi.1
  have e2 := Nat.eq_of_beq_eq_true hfi.2
  have hw := mm_w_in (List.all_eq_true.mp mm_stats_ok f hfm)
  rw [e1, e2] at hw
  obtain ⟨-, -, ⟨z1, -⟩, ⟨z2, -⟩, -⟩ := hX
  unfold mm_gst at h
  refine mm_s_row (fun H locs ls hl hP hS w => ?_) (mm_s_nx h k)
  cases hfb : f.2.1 with
  | true =>
    rw [hfb] at hw w
    exact va_gets hx hb z1 hS hown (hts _ hw) (fun _ z => z) hd w
  | false =>
    rw [hfb] at hw w
    exact va_gets hx hb z2 hS hown (hts _ hw) (fun _ z => z) hd w
theorem mm_s_len (C0 : mm_C p R s m args meth c nc ns j D ad cI cC A) (hd : decode (mm_code j) pc = .ok (.arraylength, 1))
    (h : mm_len pc lo st M = some (.inl q)) (k : mm_G p l e R s m args below meth c nc ns Q j D ad cI cC A q) : mm_G p l e R s m args below meth c nc ns Q j D ad cI cC A (pc, lo, st, M) := by
  obtain ⟨hx, hb, hml, hr, hlk, hown, hts, hK, hX, hA, -, -⟩ := C0
  unfold mm_len at h
  split at h
  · rename_i o rest
    split at h
    · rename_i n ho
      exact mm_s_row (fun H locs ls hl hP hS w => va_alen (tys := mm_tys cI cC) hx hb hK hP o 0 (mm_get_w ho) rfl rfl hd w) (mm_s_nx h k)
    · cases h
    · cases h
    · split at h
      · rename_i h42
        subst h42
        obtain ⟨-, -, -, -, z3⟩ := hX
        have k1 := mm_s_nx h k
        intro H locs ls hP hD hS hl hn
        have hO : mm_ok ad M := hD.2
        refine va_tlen hx hb z3 hS (v := M 43 0) hO.2.1.symm hd (k1 H locs ls hP hD hS hl hn)
      · cases h
  · cases h
theorem mm_s_ald (C0 : mm_C p R s m args meth c nc ns j D ad cI cC A) (hd : decode (mm_code j) pc = .ok (.iaload, 1))
    (h : mm_ald false pc lo st M = some (.inl q)) (k : mm_G p l e R s m args below meth c nc ns Q j D ad cI cC A q) : mm_G p l e R s m args below meth c nc ns Q j D ad cI cC A (pc, lo, st, M) := by
  obtain ⟨hx, hb, hml, hr, hlk, hown, hts, hK, hX, hA, -, -⟩ := C0
  unfold mm_ald at h
  split at h
  · rename_i i o rest
    split at h
    · rename_i c' n ho
      split at h
      · rename_i hc
        obtain ⟨hc', hin⟩ := hc
        subst hc'
        exact mm_s_row (fun H locs ls hl hP hS w => va_iald (tys := mm_tys cI cC) hx hb hK hP o 0 (mm_get_w ho) rfl hin hd w) (mm_s_nx h k)
      · cases h
    · cases h
    · split at h
      · rename_i h42
        subst h42
        split at h
        · rename_i hc
          obtain ⟨-, hin⟩ := hc
          obtain ⟨-, -, -, -, z3⟩ := hX
          have k1 := mm_s_nx h k
          intro H locs ls hP hD hS hl hn
          have hO : mm_ok ad M := hD.2
          have hin2 : vp_in i (ad 43) := by
            have e0 : (M 43 0).toNatClampNeg = ad 43 := by rw [hO.2.1]; exact nI_clamp hO.1
            rw [e0] at hin
            exact hin
          exact va_ti hx hb z3 hS hin2 (v := .int (M 42 i.toNatClampNeg)) (by rw [hO.2.2]) hd (k1 H locs ls hP hD hS hl hn)
        · cases h
      · split at h
        · rename_i hc
          obtain ⟨-, ho, hin⟩ := hc
          obtain ⟨-, -, ⟨-, z1⟩, ⟨-, z2⟩, -⟩ := hX
          refine mm_s_row (fun H locs ls hl hP hS w => ?_) (mm_s_nx h k)
          by_cases h40 : o = 40
          · subst h40
            exact va_ti hx hb z1 hS hin rfl hd w
          · rcases ho with ho | ho
            · exact absurd ho h40
            · subst ho
              exact va_ti hx hb z2 hS hin rfl hd w
        · cases h
  · cases h
theorem mm_s_ast (C0 : mm_C p R s m args meth c nc ns j D ad cI cC A) (hd : decode (mm_code j) pc = .ok (.iastore, 1))
    (h : mm_ast false pc lo st M = some (.inl q)) (k : mm_G p l e R s m args below meth c nc ns Q j D ad cI cC A q) : mm_G p l e R s m args below meth c nc ns Q j D ad cI cC A (pc, lo, st, M) := by
  obtain ⟨hx, hb, hml, hr, hlk, hown, hts, hK, hX, hA, -, -⟩ := C0
  unfold mm_ast at h
  split at h
  · rename_i v i o rest
    split at h
    · rename_i c' n ho
      split at h
      · rename_i hc
        obtain ⟨hc', hin⟩ := hc
        subst hc'
        have k1 := mm_s_nx h k
        intro H locs ls hP hD hS hl hn
        refine va_iast (tys := mm_tys cI cC) hx hb hK hP hD.1 hS o 0 (mm_get_w ho) rfl hin hd (fun H1 locs1 hP1 hD1 hS1 => ?_)
        have hP1 : va_P D vwCl ((mm_world ad cI cC M).set o (ad o, .inl (if (false : Bool) = true then cC else cI, n, .inl (upd (M o) i.toNatClampNeg v)))) H1 := hP1
        have hD1 : va_D A ((mm_world ad cI cC M).set o (ad o, .inl (if (false : Bool) = true then cC else cI, n, .inl (upd (M o) i.toNatClampNeg v)))) := hD1
        rw [mm_set_w ho] at hP1 hD1
        exact k1 H1 locs1 ls hP1 ⟨hD1, mm_ok_up hD.2 ho⟩ hS1 hl hn
      · cases h
    · cases h
  · cases h
end MMS
end
section
/-! THE SMALL MACHINE IS SOUND: what it answers, the machine answers -/
/-- an instruction that goes on: neither a call nor an end -/
def mm_on (x : mm_R) : Prop := x = none ∨ ∃ q, x = some (.inl q)
theorem mm_on_none : mm_on none := Or.inl rfl
theorem mm_on_nx {pc : Nat} {lo : mm_L} {st : List mm_V} {M : mm_M} : mm_on (mm_nx pc lo st M) := Or.inr ⟨_, rfl⟩
theorem mm_on_ite {b : Prop} {d : Decidable b} {x y : mm_R} (hx : mm_on x) (hy : mm_on y) : mm_on (if b then x else y) := by
  by_cases h : b
  · rw [if_pos h]; exact hx
  · rw [if_neg h]; exact hy
theorem mm_on_not {x : mm_R} {z : (Nat × List mm_V × List mm_V) ⊕ Option Int32} (hx : mm_on x) (h : x = some (.inr z)) : False := by
  rcases hx with hx | ⟨q, hx⟩ <;> rw [hx] at h <;> cases h
theorem mm_on_jmp {pc : Nat} {off : Int} {lo : mm_L} {st : List mm_V} {M : mm_M} : mm_on (mm_jmp pc off lo st M) := mm_on_ite mm_on_nx mm_on_none
theorem mm_on_br {b : Bool} {pc : Nat} {off : Int} {lo : mm_L} {st : List mm_V} {M : mm_M} : mm_on (mm_br b pc off lo st M) := mm_on_ite mm_on_nx mm_on_none
set_option maxHeartbeats 4000000 in
theorem mm_on_do {j pc : Nat} {i : Instr} {n : Nat} {lo : mm_L} {st : List mm_V} {M : mm_M} (h1 : ∀ k, i ≠ .invokevirtual k) (h2 : ∀ k, i ≠ .invokestatic k) (h3 : i ≠ .ireturn) (h4 : i ≠ .return_) : mm_on (mm_do j pc i n lo st M) := by
  have a1 : ∀ k pc', mm_on (mm_ldi k pc' lo st M) := fun k pc' => by unfold mm_ldi; split <;> first | exact mm_on_nx | exact mm_on_none
  have a2 : ∀ k pc', mm_on (mm_lda k pc' lo st M) := fun k pc' => by unfold mm_lda; split <;> first | exact mm_on_nx | exact mm_on_none
  have a3 : ∀ k pc', mm_on (mm_sti k pc' lo st M) := fun k pc' => by unfold mm_sti; split <;> first | exact mm_on_ite mm_on_nx mm_on_none | exact mm_on_none
  have a4 : ∀ k v pc', mm_on (mm_inc k v pc' lo st M) := fun k v pc' => by unfold mm_inc; split <;> first | exact mm_on_nx | exact mm_on_none
  have a5 : ∀ f, mm_on (mm_bin f pc lo st M) := fun f => by unfold mm_bin; split <;> first | exact mm_on_nx | exact mm_on_none
  have a6 : ∀ f, mm_on (mm_un f pc lo st M) := fun f => by unfold mm_un; split <;> first | exact mm_on_nx | exact mm_on_none
  have a7 : ∀ c off, mm_on (mm_if1 c pc off lo st M) := fun c off => by unfold mm_if1; split <;> first | exact mm_on_br | exact mm_on_none
  have a8 : ∀ c off, mm_on (mm_if2 c pc off lo st M) := fun c off => by unfold mm_if2; split <;> first | exact mm_on_br | exact mm_on_none
  have a9 : ∀ d l h offs, mm_on (mm_tsw d l h offs pc lo st M) := fun d l h offs => by
    unfold mm_tsw
    split
    · refine mm_on_ite mm_on_jmp ?_
      split <;> first | exact mm_on_jmp | exact mm_on_none
    · exact mm_on_none
  have b1 : ∀ d ps, mm_on (mm_lsw d ps pc lo st M) := fun d ps => by unfold mm_lsw; split <;> first | exact mm_on_ite mm_on_jmp mm_on_none | exact mm_on_none
  have b2 : ∀ e, mm_on (mm_get e pc lo st M) := fun e => by
    unfold mm_get
    split
    · split
      · refine mm_on_ite ?_ mm_on_none
        split <;> first | exact mm_on_nx | exact mm_on_none
      · exact mm_on_none
    · exact mm_on_none
  have b3 : ∀ e, mm_on (mm_put e pc lo st M) := fun e => by
    unfold mm_put
    split
    · split
      · refine mm_on_ite ?_ mm_on_none
        split <;> first | exact mm_on_nx | exact mm_on_none
      · exact mm_on_none
    · exact mm_on_none
  have b4 : ∀ ch, mm_on (mm_ald ch pc lo st M) := fun ch => by
    unfold mm_ald
    split
    · split
      · exact mm_on_ite mm_on_nx mm_on_none
      · exact mm_on_none
      · exact mm_on_ite (mm_on_ite mm_on_nx mm_on_none) (mm_on_ite mm_on_nx mm_on_none)
    · exact mm_on_none
  have b5 : ∀ ch, mm_on (mm_ast ch pc lo st M) := fun ch => by
    unfold mm_ast
    split
    · split <;> first | exact mm_on_ite mm_on_nx mm_on_none | exact mm_on_none
    · exact mm_on_none
  have b6 : mm_on (mm_len pc lo st M) := by
    unfold mm_len
    split
    · split
      · exact mm_on_nx
      · exact mm_on_none
      · exact mm_on_none
      · exact mm_on_ite mm_on_nx mm_on_none
    · exact mm_on_none
  cases i with
  | invokevirtual k => exact absurd rfl (h1 k)
  | invokestatic k => exact absurd rfl (h2 k)
  | ireturn => exact absurd rfl h3
  | return_ => exact absurd rfl h4
  | iconst v => exact mm_on_ite mm_on_nx mm_on_none
  | bipush v => exact mm_on_ite mm_on_nx mm_on_none
  | sipush v => exact mm_on_ite mm_on_nx mm_on_none
  | iload_n v => exact mm_on_ite (a1 _ _) mm_on_none
  | iload v => exact mm_on_ite (a1 _ _) mm_on_none
  | aload_n v => exact mm_on_ite (a2 _ _) mm_on_none
  | aload v => exact mm_on_ite (a2 _ _) mm_on_none
  | istore_n v => exact mm_on_ite (a3 _ _) mm_on_none
  | istore v => exact mm_on_ite (a3 _ _) mm_on_none
  | iinc v w => exact mm_on_ite (a4 _ _ _) mm_on_none
  | iadd => exact mm_on_ite (a5 _) mm_on_none
  | isub => exact mm_on_ite (a5 _) mm_on_none
  | imul => exact mm_on_ite (a5 _) mm_on_none
  | iand => exact mm_on_ite (a5 _) mm_on_none
  | ior => exact mm_on_ite (a5 _) mm_on_none
  | ixor => exact mm_on_ite (a5 _) mm_on_none
  | ishl => exact mm_on_ite (a5 _) mm_on_none
  | ishr => exact mm_on_ite (a5 _) mm_on_none
  | irem => exact mm_on_ite (a5 _) mm_on_none
  | idiv => exact mm_on_ite (a5 _) mm_on_none
  | ldc k => exact mm_on_ite (by split <;> first | exact mm_on_nx | exact mm_on_none) mm_on_none
  | ineg => exact mm_on_ite (a6 _) mm_on_none
  | i2c => exact mm_on_ite (a6 _) mm_on_none
  | dup => exact mm_on_ite (by split <;> first | exact mm_on_nx | exact mm_on_none) mm_on_none
  | dup2 => exact mm_on_ite (by split <;> first | exact mm_on_nx | exact mm_on_none) mm_on_none
  | pop => exact mm_on_ite (by split <;> first | exact mm_on_nx | exact mm_on_none) mm_on_none
  | goto off => exact mm_on_ite mm_on_jmp mm_on_none
  | ifCond c off => exact mm_on_ite (a7 _ _) mm_on_none
  | if_icmp c off => exact mm_on_ite (a8 _ _) mm_on_none
  | tableswitch d l h offs => exact a9 _ _ _ _
  | lookupswitch d ps => exact b1 _ _
  | getfield k => exact mm_on_ite (by split <;> first | exact b2 _ | exact mm_on_none) mm_on_none
  | putfield k => exact mm_on_ite (by split <;> first | exact b3 _ | exact mm_on_none) mm_on_none
  | getstatic k => exact mm_on_ite (by split <;> first | exact mm_on_nx | exact mm_on_none) mm_on_none
  | iaload => exact mm_on_ite (b4 _) mm_on_none
  | iastore => exact mm_on_ite (b5 _) mm_on_none
  | arraylength => exact mm_on_ite b6 mm_on_none
  | _ => exact mm_on_none
section MMT
variable {p : Program} {l : Launch} {e : Env} {R : Room} {s : State} {m : MethodId} {args : Array Value} {below : List Frame} {meth : Method} {c : Code} {Q : State → Prop} {j : Nat} {D : va_G} {ad : Nat → Nat} {cI cC : ClassId} {A : Nat → Prop} {nc ns : Nat}
variable {pc pc' : Nat} {lo : mm_L} {st : List mm_V} {M : mm_M} {q : mm_F}
theorem mm_n {n k : Nat} {x : mm_R} {y : mm_F ⊕ ((Nat × List mm_V × List mm_V) ⊕ Option Int32)} (h : (if n = k then x else none) = some y) : n = k ∧ x = some y := by
  split at h
  · exact ⟨by assumption, h⟩
  · cases h
theorem mm_cl_in {cn i : Nat} {f : (Nat × Nat) × (Nat × Nat × Nat × Nat × Nat × Nat × Nat)} (h : mm_cll cn i = some f) : f ∈ mm_calls ∧ f.1 = (cn, i) := by
  unfold mm_cll at h
  have h2 := List.find?_some h
  simp only [Bool.and_eq_true] at h2
  exact ⟨List.mem_of_find?_eq_some h, Prod.ext (Nat.eq_of_beq_eq_true h2.1) (Nat.eq_of_beq_eq_true h2.2)⟩
theorem mm_s_cpy {f : (Nat × Nat) × (Nat × Nat × Nat × Nat × Nat × Nat × Nat)} {i : Nat} (C0 : mm_C p R s m args meth c nc ns j D ad cI cC A) (hf : mm_cll (mm_cno j) i = some f) (hk3 : f.2.1 = 3) (hd : decode (mm_code j) pc = .ok (.invokestatic i, 3))
    (h : mm_cpy j pc lo st M = some (.inl q)) (k : mm_G p l e R s m args below meth c nc ns Q j D ad cI cC A q) : mm_G p l e R s m args below meth c nc ns Q j D ad cI cC A (pc, lo, st, M) := by
  obtain ⟨hx, hb, hml, hr, hlk, hown, hts, hK, hX, hA, hfr, hlo⟩ := C0
  obtain ⟨hfm, hfi⟩ := mm_cl_in hf
  have hok := List.all_eq_true.mp mm_calls_ok f hfm
  obtain ⟨⟨fa, fb⟩, kd, fk, fc, i1, i2, i3, i4⟩ := f
  cases hfi
  simp only at hk3
  subst hk3
  simp only [mm_cOk, Bool.and_eq_true] at hok
  obtain ⟨⟨⟨o1, o2⟩, o3⟩, o4⟩ := hok
  unfold mm_cpy at h
  split at h
  · rename_i n dp a sp b rest
    split at h
    · rename_i na nb ha hb0
      split at h
      · rename_i hc
        obtain ⟨⟨c1, c2, c3, c4, c5⟩, c6, c7, c8⟩ := hc
        have k1 := mm_s_nx h k
        intro H locs ls hP hD hS hl hn
        have hnf : nativeFrameWords "java/lang/System" "arraycopy" 5 + 11 = 18 := by decide +kernel
        refine va_copyi (tys := mm_tys cI cC) (ty := .int) hx hb (by rw [hml, hl.2.1, hn]) hown (hts _ (mm_w_in o1)) (hts _ (mm_w_in o2)) (hts _ (mm_w_in o3)) (hts _ (mm_w_in o4)) hK hP hD.1 hS b a 0 0 (mm_get_w hb0) (mm_get_w ha) rfl rfl rfl c1 c2 c3 c4 c5 (fun _ _ => rfl) (by omega) (by rw [hnf, mm_sum]; omega) hd (fun H1 locs1 hP1 hD1 hS1 => ?_)
        have hP1 : va_P D vwCl ((mm_world ad cI cC M).set a (ad a, .inl (if (false : Bool) = true then cC else cI, na, .inl (va_cpy (M b) (M a) sp.toNatClampNeg dp.toNatClampNeg n.toNatClampNeg)))) H1 := hP1
        have hD1 : va_D A ((mm_world ad cI cC M).set a (ad a, .inl (if (false : Bool) = true then cC else cI, na, .inl (va_cpy (M b) (M a) sp.toNatClampNeg dp.toNatClampNeg n.toNatClampNeg)))) := hD1
        rw [mm_set_w ha] at hP1 hD1
        exact k1 H1 locs1 ls hP1 ⟨hD1, mm_ok_set hD.2 ha⟩ hS1 hl hn
      · cases h
    · cases h
  · cases h
set_option maxHeartbeats 4000000 in
theorem mm_s_step (C0 : mm_C p R s m args meth c nc ns j D ad cI cC A) (h : mm_step j pc lo st M = some (.inl q)) (k : mm_G p l e R s m args below meth c nc ns Q j D ad cI cC A q) : mm_G p l e R s m args below meth c nc ns Q j D ad cI cC A (pc, lo, st, M) := by
  obtain ⟨hx, hb, hml, hr, hlk, hown, hts, hK, hX, hA, hfr, hlo⟩ := id C0
  unfold mm_step at h
  cases hd : decode (mm_code j) pc with
  | error e => rw [hd] at h; cases h
  | ok z =>
    obtain ⟨i, n⟩ := z
    rw [hd] at h
    replace h : mm_do j pc i n lo st M = some (.inl q) := h
    cases i with
    | iconst v => have hz := mm_n h; clear h; obtain ⟨rfl, h⟩ := hz; exact mm_s_row (fun H locs ls hl hP hS w => lv_iconst hx hb hd rfl w) (mm_s_nx h k)
    | bipush v => have hz := mm_n h; clear h; obtain ⟨rfl, h⟩ := hz; exact mm_s_row (fun H locs ls hl hP hS w => lv_bipush hx hb hd rfl w) (mm_s_nx h k)
    | sipush v => have hz := mm_n h; clear h; obtain ⟨rfl, h⟩ := hz; exact mm_s_row (fun H locs ls hl hP hS w => lv_sipush hx hb hd rfl w) (mm_s_nx h k)
    | iload_n v => have hz := mm_n h; clear h; obtain ⟨rfl, h⟩ := hz; exact mm_s_ldi (fun H locs ls rest x z w => lv_iload_n hx hb hd rfl z w) h k
    | iload v => have hz := mm_n h; clear h; obtain ⟨rfl, h⟩ := hz; exact mm_s_ldi (fun H locs ls rest x z w => lv_iload hx hb hd z w) h k
    | aload_n v => have hz := mm_n h; clear h; obtain ⟨rfl, h⟩ := hz; exact mm_s_lda (fun H locs ls rest x z w => lv_aload_n hx hb hd rfl z w) h k
    | aload v => have hz := mm_n h; clear h; obtain ⟨rfl, h⟩ := hz; exact mm_s_lda (fun H locs ls rest x z w => lv_aload hx hb hd z w) h k
    | istore_n v => have hz := mm_n h; clear h; obtain ⟨rfl, h⟩ := hz; exact mm_s_sti (fun H locs ls rest x z hi w => lv_istore_n hx hb hd rfl z hi rfl w) h k
    | istore v => have hz := mm_n h; clear h; obtain ⟨rfl, h⟩ := hz; exact mm_s_sti (fun H locs ls rest x z hi w => lv_istore hx hb hd z hi rfl w) h k
    | iinc v w => have hz := mm_n h; clear h; obtain ⟨rfl, h⟩ := hz; exact mm_s_inc hx hb hd h k
    | iadd => have hz := mm_n h; clear h; obtain ⟨rfl, h⟩ := hz; exact mm_s_bin (fun H locs ls rest x y _ w => lv_iadd hx hb hd w) h k
    | isub => have hz := mm_n h; clear h; obtain ⟨rfl, h⟩ := hz; exact mm_s_bin (fun H locs ls rest x y _ w => lv_isub hx hb hd w) h k
    | imul => have hz := mm_n h; clear h; obtain ⟨rfl, h⟩ := hz; exact mm_s_bin (fun H locs ls rest x y _ w => lv_imul hx hb hd w) h k
    | iand => have hz := mm_n h; clear h; obtain ⟨rfl, h⟩ := hz; exact mm_s_bin (fun H locs ls rest x y _ w => lv_iand hx hb hd w) h k
    | ior => have hz := mm_n h; clear h; obtain ⟨rfl, h⟩ := hz; exact mm_s_bin (fun H locs ls rest x y _ w => lv_ior hx hb hd w) h k
    | ixor => have hz := mm_n h; clear h; obtain ⟨rfl, h⟩ := hz; exact mm_s_bin (fun H locs ls rest x y _ w => lv_ixor hx hb hd w) h k
    | ishl => have hz := mm_n h; clear h; obtain ⟨rfl, h⟩ := hz; exact mm_s_bin (fun H locs ls rest x y _ w => lv_ishl hx hb hd w) h k
    | ishr => have hz := mm_n h; clear h; obtain ⟨rfl, h⟩ := hz; exact mm_s_bin (fun H locs ls rest x y _ w => lv_ishr hx hb hd w) h k
    | irem =>
      replace h : (if n = 1 ∧ st.head? ≠ some (.inl 0) then mm_bin (fun x y => x - x / y * y) pc lo st M else none) = some (.inl q) := h
      split at h
      · rename_i hz
        obtain ⟨hn1, hz⟩ := hz
        subst hn1
        exact mm_s_bin (fun H locs ls rest x y hy w => lv_irem hx hb hd (fun e0 => hz (by rw [hy, e0])) w) h k
      · cases h
    | idiv =>
      replace h : (if n = 1 ∧ st.head? ≠ some (.inl 0) then mm_bin (fun x y => x / y) pc lo st M else none) = some (.inl q) := h
      split at h
      · rename_i hz
        obtain ⟨hn1, hz⟩ := hz
        subst hn1
        exact mm_s_bin (fun H locs ls rest x y hy w => lv_idiv hx hb hd (fun e0 => hz (by rw [hy, e0])) w) h k
      · cases h
    | ldc i =>
      have hz := mm_n h; clear h; obtain ⟨rfl, h⟩ := hz
      split at h
      · rename_i f hf
        have hfm : f ∈ mm_csts := List.mem_of_find?_eq_some hf
        have hfi := List.find?_some hf
        simp only [Bool.and_eq_true] at hfi
        have e1 := Nat.eq_of_beq_eq_true hfi.1
        have e2 := Nat.eq_of_beq_eq_true hfi.2
        have hw := mm_w_in (List.all_eq_true.mp mm_csts_ok f hfm)
        rw [e1, e2] at hw
        exact mm_s_row (fun H locs ls hl hP hS w => lv_ldc hx hb hown (hts _ hw) hd w) (mm_s_nx h k)
      · cases h
    | ineg => have hz := mm_n h; clear h; obtain ⟨rfl, h⟩ := hz; exact mm_s_un (fun H locs ls rest x w => lv_ineg hx hb hd w) h k
    | i2c => have hz := mm_n h; clear h; obtain ⟨rfl, h⟩ := hz; exact mm_s_un (fun H locs ls rest x w => lv_i2c hx hb hd rfl w) h k
    | dup =>
      have hz := mm_n h; clear h; obtain ⟨rfl, h⟩ := hz
      split at h
      · exact mm_s_row (fun H locs ls hl hP hS w => lv_dup hx hb hd (mm_tv_cat ad _) w) (mm_s_nx h k)
      · cases h
    | dup2 =>
      have hz := mm_n h; clear h; obtain ⟨rfl, h⟩ := hz
      split at h
      · exact mm_s_row (fun H locs ls hl hP hS w => lv_dup2_11 hx hb hd (mm_tv_cat ad _) (mm_tv_cat ad _) w) (mm_s_nx h k)
      · cases h
    | pop =>
      have hz := mm_n h; clear h; obtain ⟨rfl, h⟩ := hz
      split at h
      · exact mm_s_row (fun H locs ls hl hP hS w => lv_pop hx hb hd (mm_tv_cat ad _) w) (mm_s_nx h k)
      · cases h
    | goto off =>
      have hz := mm_n h; clear h; obtain ⟨rfl, h⟩ := hz
      obtain ⟨tgt, ht, k1⟩ := mm_s_jmp h k
      exact mm_s_row (fun H locs ls hl hP hS w => lv_goto hx hb hd ht w) k1
    | ifCond cd off => have hz := mm_n h; clear h; obtain ⟨rfl, h⟩ := hz; exact mm_s_if1 hx hb hd h k
    | if_icmp cd off => have hz := mm_n h; clear h; obtain ⟨rfl, h⟩ := hz; exact mm_s_if2 hx hb hd h k
    | tableswitch d l h' offs => exact mm_s_tsw hx hb hd h k
    | lookupswitch d ps => exact mm_s_lsw hx hb hd h k
    | getfield i =>
      have hz := mm_n h; clear h; obtain ⟨rfl, h⟩ := hz
      split at h
      · rename_i f hf
        exact mm_s_get C0 hf hd h k
      · cases h
    | putfield i =>
      have hz := mm_n h; clear h; obtain ⟨rfl, h⟩ := hz
      split at h
      · rename_i f hf
        exact mm_s_put C0 hf hd h k
      · cases h
    | getstatic i =>
      have hz := mm_n h; clear h; obtain ⟨rfl, h⟩ := hz
      split at h
      · rename_i f hf
        exact mm_s_gst C0 hf hd h k
      · cases h
    | iaload => have hz := mm_n h; clear h; obtain ⟨rfl, h⟩ := hz; exact mm_s_ald C0 hd h k
    | iastore => have hz := mm_n h; clear h; obtain ⟨rfl, h⟩ := hz; exact mm_s_ast C0 hd h k
    | arraylength => have hz := mm_n h; clear h; obtain ⟨rfl, h⟩ := hz; exact mm_s_len C0 hd h k
    | invokevirtual i =>
      have hz := mm_n h; clear h; obtain ⟨rfl, h⟩ := hz
      split at h
      · unfold mm_inv at h
        split at h
        · split at h
          · split at h <;> cases h
          · cases h
        · cases h
      · cases h
    | invokestatic i =>
      have hz := mm_n h; clear h; obtain ⟨rfl, h⟩ := hz
      split at h
      · rename_i f hf
        unfold mm_ins at h
        split at h
        · rename_i hk3
          exact mm_s_cpy C0 hf hk3 hd h k
        · split at h <;> cases h
      · cases h
    | ireturn =>
      have hz := mm_n h; clear h; obtain ⟨rfl, h⟩ := hz
      unfold mm_rti at h
      split at h
      · split at h <;> cases h
      · cases h
    | return_ =>
      have hz := mm_n h; clear h; obtain ⟨rfl, h⟩ := hz
      unfold mm_rtv at h
      split at h
      · split at h <;> cases h
      · cases h
    | _ => exact absurd (show (none : mm_R) = some (.inl q) from h) (by simp)
-- contracts
def mm_pre (D : va_G) (ad : Nat → Nat) (cI cC : ClassId) (M : mm_M) (sz : Nat) (U : State) : Prop :=
  U.heap.size = sz ∧ va_P D vwCl (mm_world ad cI cC M) U.heap ∧ va_K D vwCl (mm_tys cI cC) U ∧ mm_DD (fun _ => True) ad cI cC M ∧ mm_X ad (va_A (mm_world ad cI cC M) sz) U U.heap
def mm_B (D : va_G) (ad : Nat → Nat) (cI cC : ClassId) (M' : mm_M) (t : State) : Prop := va_P D vwCl (mm_world ad cI cC M') t.heap ∧ va_K D vwCl (mm_tys cI cC) t ∧ mm_ok ad M'
def mm_post (r0 : Option Int32) (M0 : mm_M) (D : va_G) (ad : Nat → Nat) (cI cC : ClassId) (A : Nat → Prop) : Array Value → State → Outcome → State → Prop := match r0 with
  | none => va_Qv (fun M' : mm_M => M' = M0) (mm_B D ad cI cC) A
  | some v => va_Qi (fun (r : Int32) (M' : mm_M) => r = v ∧ M' = M0) (mm_B D ad cI cC) A
def mm_ws (k : Nat) : List Cond := .code (mm_y k) (mm_code k) (mm_maxL k) (mm_ret k) :: mm_GW
def mm_rm (k : Nat) : Room := { frames := mm_fr k, cells := 0, slots := 0, locals := mm_lo k }
def mm_met (l : Launch) (k : Nat) (as : List mm_V) (M : mm_M) (r0 : Option Int32) (M0 : mm_M) : Prop := ∀ (D : va_G) (ad : Nat → Nat) (cI cC : ClassId) (sz : Nat),
  Met l (mm_y k) (mm_ws k) (mm_rm k) (va_Pc (as.map (mm_tv ad)) (mm_pre D ad cI cC M sz)) (mm_post r0 M0 D ad cI cC (va_A (mm_world ad cI cC M) sz)) 0 0 (va_A (mm_world ad cI cC M) sz)
theorem mm_blind {as : List Value} {sz : Nat} : FrameBlind (va_Pc as (mm_pre D ad cI cC M sz)) := by
  intro a U g mk q
  obtain ⟨q0, q1, qP, qK, qD, qX⟩ := q
  exact ⟨q0, q1, qP, va_K.moved (u := U) (U := U.calling g mk a) (Vm.Alike.refl U.vm) qK, qD, mm_X_blind g mk a qX⟩
theorem mm_rec_ok {k : Nat} (hk : k < mm_tab.length) : plainFor (mm_y k) = true ∧ Cond.code (mm_y k) (mm_code k) (mm_maxL k) (mm_ret k) ∈ mm_GW ∧ Cond.initialized (mm_y k).cls ∈ mm_GW ∧ (mm_y k).cls = mm_cn (mm_cno k) ∧ (mm_y k).cls ≠ "java/lang/invoke/MethodHandle" ∧ (mm_y k).cls ≠ "java/lang/invoke/VarHandle" ∧ (parseMethodDescriptor (mm_y k).desc).map (fun d => d.parameters.length) = some (mm_np k) := by
  have hm : mm_rec k ∈ mm_tab := by
    have e1 : mm_rec k = mm_tab[k] := by simp [mm_rec, List.getD, List.getElem?_eq_getElem hk]
    rw [e1]
    exact List.getElem_mem hk
  have h := List.all_eq_true.mp mm_tab_ok _ hm
  simp only [mm_tOk, mm_hOk, Bool.and_eq_true, decide_eq_true_eq] at h
  obtain ⟨⟨⟨⟨h1, h2⟩, h3⟩, h4⟩, h5⟩ := h
  exact ⟨h1, mm_w_in h2, mm_w_in h3, h4, h5⟩
theorem mm_ws_good {k : Nat} (hk : k < mm_tab.length) (ws : List Cond) (hw : ∀ w ∈ ws, w ∈ mm_GW) : GoodIn mm_GW (ws ++ mm_ws k) := by
  refine mm_good _ (fun w h => ?_)
  rcases List.mem_append.mp h with h | h
  · exact hw w h
  · rcases List.mem_cons.mp h with rfl | h
    · exact (mm_rec_ok hk).2.1
    · exact h
theorem mm_enter (C0 : mm_C p R s m args meth c nc ns j D ad cI cC A) {k : Nat} {as : List mm_V} {H : Heap} {locs : List Loc} (hP : va_P D vwCl (mm_world ad cI cC M) H) (hD : mm_DD A ad cI cC M) (hS : va_S A s.heap H locs) (U : State) (hU : U.heap = H) (hW : s.WarmedH U.vm) :
    va_Pc (as.map (mm_tv ad)) (mm_pre D ad cI cC M H.size) (as.map (mm_tv ad)).toArray U := by
  obtain ⟨hx, hb, hml, hr, hlk, hown, hts, hK, hX, hA, hfr, hlo⟩ := C0
  refine ⟨rfl, by rw [hU], by rw [hU]; exact hP, va_K.moved hW.alike hK, ⟨hD.1.weaken (fun _ _ _ _ => trivial), hD.2⟩, mm_X_go hX hW hU hS ?_⟩
  intro q h
  rcases h with ⟨i, e0, h⟩ | h
  · exact hD.1.2 i (q, e0) h
  · exact hA q (Nat.le_trans hS.1 h)
/-- behind a call -/
theorem mm_leave (C0 : mm_C p R s m args meth c nc ns j D ad cI cC A) {as : List mm_V} {r : List mm_V} {r0 : Option Int32} {M0 : mm_M} {H : Heap} {locs : List Loc} {ls : Array Slot} {a : Array Value}
    (hP : va_P D vwCl (mm_world ad cI cC M) H) (hD : mm_DD A ad cI cC M) (hS : va_S A s.heap H locs) (hl : mm_ls ad lo ls) (hn : lo.length = mm_maxL j)
    (hr : va_Run p l e R s m args below meth c H locs nc ns 0 0 (F0 m pc ls (st.map (mm_tv ad))) (r.map (mm_tv ad)) (mm_post r0 M0 D ad cI cC (va_A (mm_world ad cI cC M) H.size) a) (va_A (mm_world ad cI cC M) H.size))
    (k : mm_G p l e R s m args below meth c nc ns Q j D ad cI cC A (pc + 3, lo, mm_rv r0 ++ r, M0)) : W p l e R s m args below meth c H locs nc ns Q (F0 m pc ls (st.map (mm_tv ad))) := by
  obtain ⟨hx, hb, hml, hr0, hlk, hown, hts, hK, hX, hA, hfr, hlo⟩ := C0
  have hF : ∀ q, va_A (mm_world ad cI cC M) H.size q → A q := by
    intro q h
    rcases h with ⟨i, e0, h⟩ | h
    · exact hD.1.2 i (q, e0) h
    · exact hA q (Nat.le_trans hS.1 h)
  cases r0 with
  | none =>
    refine va_callv (a := a) hr hS (fun q _ h => hF q h) hF (fun u t H1 locs1 ht hvm hw hB hz1 hk1 hS1 => ?_)
    subst hw
    obtain ⟨hP1, -, hO1⟩ := hB
    rw [ht] at hP1
    exact k H1 locs1 ls hP1 ⟨mm_D hD.1, hO1⟩ hS1 hl hn
  | some v =>
    refine va_calli (a := a) hr hS (fun q _ h => hF q h) hF (fun r1 u t H1 locs1 ht hvm hw hB hz1 hk1 hS1 => ?_)
    obtain ⟨rfl, rfl⟩ := hw
    obtain ⟨hP1, -, hO1⟩ := hB
    rw [ht] at hP1
    exact k H1 locs1 ls hP1 ⟨mm_D hD.1, hO1⟩ hS1 hl hn
theorem mm_s_call (C0 : mm_C p R s m args meth c nc ns j D ad cI cC A) {k : Nat} {as r : List mm_V} {r0 : Option Int32} {M0 : mm_M} (h : mm_step j pc lo st M = some (.inr (.inl (k, as, r)))) (hM : k < mm_tab.length → as.length ≤ mm_maxL k → mm_met l k as M r0 M0)
    (kk : mm_G p l e R s m args below meth c nc ns Q j D ad cI cC A (pc + 3, lo, mm_rv r0 ++ r, M0)) : mm_G p l e R s m args below meth c nc ns Q j D ad cI cC A (pc, lo, st, M) := by
  obtain ⟨hx, hb, hml, hr, hlk, hown, hts, hK, hX, hA, hfr, hlo⟩ := id C0
  unfold mm_step at h
  cases hd : decode (mm_code j) pc with
  | error e => rw [hd] at h; cases h
  | ok z =>
    obtain ⟨i, n⟩ := z
    rw [hd] at h
    replace h : mm_do j pc i n lo st M = some (.inr (.inl (k, as, r))) := h
    have nx : ∀ {P' L' S' M'}, ¬ (mm_nx P' L' S' M' = some (.inr (.inl (k, as, r)))) := fun z => by cases z
    cases i with
    | invokevirtual i =>
      have hz := mm_n h; clear h; obtain ⟨rfl, h⟩ := hz
      split at h
      · rename_i f hf
        obtain ⟨hfm, hfi⟩ := mm_cl_in hf
        have hok := List.all_eq_true.mp mm_calls_ok f hfm
        unfold mm_inv at h
        split at h
        · rename_i o r' hdrop
          split at h
          · rename_i ci fs ho
            split at h
            · rename_i hc
              obtain ⟨⟨fa, fb⟩, kd, fk, fc, i1, i2, i3, i4⟩ := f
              cases hfi
              cases h
              obtain ⟨hk0, hci, hroom⟩ := hc
              simp only at hk0 hci hroom hdrop
              subst hk0
              subst hci
              simp only [mm_cOk, Bool.and_eq_true, decide_eq_true_eq] at hok
              obtain ⟨⟨⟨⟨⟨o0, o1⟩, o2⟩, o3⟩, o4⟩, o5⟩ := hok
              simp only [mm_roomy, Bool.and_eq_true] at hroom
              obtain ⟨⟨⟨g1, g2⟩, g3⟩, g4⟩ := hroom
              have g1 := Nat.le_of_ble_eq_true g1
              have g2 := Nat.le_of_ble_eq_true g2
              have g3 := Nat.le_of_ble_eq_true g3
              have g4 := Nat.le_of_ble_eq_true g4
              have hlen : mm_np fk ≤ st.length := by
                have z : (st.drop (mm_np fk)).length = (r.length + 1) := by rw [hdrop]; rfl
                rw [List.length_drop] at z
                omega
              have hna : ((st.take (mm_np fk)).reverse).length = mm_np fk := by simp; omega
              have hM1 := hM o0 (by simp only [List.length_cons, hna]; exact g4) D ad cI cC
              have hrk := mm_rec_ok o0
              intro H locs ls hP hD hS hl hn
              obtain ⟨rq, hrq1, hrq2⟩ : ∃ rq : vw_C, vwCl[ci]? = some rq ∧ rq.1 = (mm_y fk).cls := by
                cases hv : vwCl[ci]? with
                | none => rw [hv] at o5; cases o5
                | some rq => rw [hv] at o5; exact ⟨rq, rfl, Option.some.inj o5⟩
              have hrec : ∃ cellB : Cell, H[ad o]? = some cellB ∧ cellB.vm.isStatics = false ∧ s.vm.findClass (mm_y fk).cls = some cellB.cls := by
                rw [← hrq2]
                exact va_recv hK hP hrq1 (mm_get_w ho)
              have hst : st.map (mm_tv ad) = ((st.take (mm_np fk)).reverse.map (mm_tv ad)).reverse ++ .ref (ad o) :: r.map (mm_tv ad) := by
                rw [← List.map_reverse, List.reverse_reverse]
                conv => lhs; rw [← List.take_append_drop (mm_np fk) st, hdrop, List.map_append]
                rfl
              refine mm_leave (a := (Value.ref (ad o) :: (st.take (mm_np fk)).reverse.map (mm_tv ad)).toArray) C0 (as := .inr o :: (st.take (mm_np fk)).reverse) hP hD hS hl hn (va_runV (As := (st.take (mm_np fk)).reverse.map (mm_tv ad)) (nL := mm_maxL j) (own := mm_cn (mm_cno j)) (Ts := mm_GW) ⟨hx, hb, hml, hown, hts⟩ (hM1 H.size)
                (cwV (C := (mm_y fk).cls) (mm_np fk) hts (mm_ws_good o0 [.methodLink (mm_cn (mm_cno j)) i (mm_y fk), .instanceMethod (mm_y fk), .selects (mm_y fk).cls (mm_y fk) (mm_y fk), .initialized (mm_y fk).cls] ?_) rfl rfl rfl ⟨rfl, hrk.2.2.2.2⟩ ⟨?_, ?_⟩)
                ⟨mm_blind, hrec, fun U hU hW => mm_enter (as := .inr o :: (st.take (mm_np fk)).reverse) (k := fk) C0 hP hD hS U hU hW⟩ rfl (by rw [List.length_map]; exact hna) (by show ls.size = _; rw [hl.2.1, hn]) hst (lv_room (by rw [mm_sum]; exact g3)) hd ⟨hlo.2.1, hlo.2.2⟩) kk
              · intro w hw
                simp only [List.mem_cons, List.not_mem_nil, or_false] at hw
                rcases hw with rfl | rfl | rfl | rfl
                · exact mm_w_in o1
                · exact mm_w_in o2
                · exact mm_w_in o3
                · exact mm_w_in o4
              · exact Nat.le_trans g1 hfr
              · exact Nat.le_trans g2 hlo.1
            · cases h
          · cases h
        · cases h
      · cases h
    | invokestatic i =>
      have hz := mm_n h; clear h; obtain ⟨rfl, h⟩ := hz
      split at h
      · rename_i f hf
        obtain ⟨hfm, hfi⟩ := mm_cl_in hf
        have hok := List.all_eq_true.mp mm_calls_ok f hfm
        unfold mm_ins at h
        split at h
        · unfold mm_cpy at h
          split at h
          · split at h
            · split at h
              · exact absurd h nx
              · cases h
            · cases h
          · cases h
        · split at h
          · rename_i hc
            obtain ⟨⟨fa, fb⟩, kd, fk, fc, i1, i2, i3, i4⟩ := f
            cases hfi
            cases h
            obtain ⟨hk0, hlen, hroom⟩ := hc
            simp only at hk0 hlen hroom
            simp only [mm_roomy, Bool.and_eq_true] at hroom
            obtain ⟨⟨⟨g1, g2⟩, g3⟩, g4⟩ := hroom
            have g1 := Nat.le_of_ble_eq_true g1
            have g2 := Nat.le_of_ble_eq_true g2
            have g3 := Nat.le_of_ble_eq_true g3
            have g4 := Nat.le_of_ble_eq_true g4
            have hna : ((st.take (mm_np fk)).reverse).length = mm_np fk := by simp; omega
            have hst : st.map (mm_tv ad) = ((st.take (mm_np fk)).reverse.map (mm_tv ad)).reverse ++ (st.drop (mm_np fk)).map (mm_tv ad) := by
              rw [← List.map_reverse, List.reverse_reverse, ← List.map_append, List.take_append_drop]
            rcases hk0 with rfl | rfl
            · simp only [mm_cOk, Bool.and_eq_true, decide_eq_true_eq] at hok
              obtain ⟨⟨⟨o0, o1⟩, o2⟩, o3⟩ := hok
              have hM1 := hM o0 (by rw [hna]; exact g4) D ad cI cC
              have hrk := mm_rec_ok o0
              intro H locs ls hP hD hS hl hn
              refine mm_leave (a := ((st.take (mm_np fk)).reverse.map (mm_tv ad)).toArray) C0 (as := (st.take (mm_np fk)).reverse) hP hD hS hl hn (va_runS (As := (st.take (mm_np fk)).reverse.map (mm_tv ad)) (nL := mm_maxL j) (own := mm_cn (mm_cno j)) (Ts := mm_GW) ⟨hx, hb, hml, hown, hts⟩ (hM1 H.size)
                (va_cwS (mm_np fk) hts (mm_ws_good o0 [.methodLink (mm_cn (mm_cno j)) i (mm_y fk), .static (mm_y fk), .initialized (mm_y fk).cls] ?_) rfl rfl rfl hrk.2.2.2.2 ⟨?_, ?_⟩)
                ⟨mm_blind, fun U hU hW => mm_enter (as := (st.take (mm_np fk)).reverse) (k := fk) C0 hP hD hS U hU hW⟩ rfl (by rw [List.length_map]; exact hna) (by show ls.size = _; rw [hl.2.1, hn]) hst (lv_room (by rw [mm_sum]; exact g3)) hd ⟨hlo.2.1, hlo.2.2⟩) kk
              · intro w hw
                simp only [List.mem_cons, List.not_mem_nil, or_false] at hw
                rcases hw with rfl | rfl | rfl
                · exact mm_w_in o1
                · exact mm_w_in o2
                · exact mm_w_in o3
              · exact Nat.le_trans g1 hfr
              · exact Nat.le_trans g2 hlo.1
            · simp only [mm_cOk, Bool.and_eq_true, decide_eq_true_eq] at hok
              obtain ⟨⟨⟨o0, o1⟩, o2⟩, o3⟩ := hok
              have hM1 := hM o0 (by rw [hna]; exact g4) D ad cI cC
              have hrk := mm_rec_ok o0
              have hnest := hX.2.1 _ hfm rfl
              intro H locs ls hP hD hS hl hn
              exact mm_leave (a := ((st.take (mm_np fk)).reverse.map (mm_tv ad)).toArray) C0 (as := (st.take (mm_np fk)).reverse) hP hD hS hl hn (va_runSN (host := "LimbScore") (As := (st.take (mm_np fk)).reverse.map (mm_tv ad)) (nL := mm_maxL j) (own := mm_cn (mm_cno j)) (Ts := mm_GW) ⟨hx, hb, hml, hown, hts⟩ (hM1 H.size)
                ⟨va_cnB (Ts := mm_GW) (mm_np fk) hts (mm_ws_good o0 [] (fun w hw => by cases hw)) rfl rfl rfl hnest (hts _ (mm_w_in o3)) hrk.2.2.2.2 ⟨Nat.le_trans g1 hfr, Nat.le_trans g2 hlo.1⟩, hts _ (mm_w_in o2), trivial⟩
                ⟨mm_blind, fun U hU hW => mm_enter (as := (st.take (mm_np fk)).reverse) (k := fk) C0 hP hD hS U hU hW⟩ rfl (by rw [List.length_map]; exact hna) (by show ls.size = _; rw [hl.2.1, hn]) hst (lv_room (by rw [mm_sum]; exact g3)) hd ⟨hlo.2.1, hlo.2.2⟩) kk
          · cases h
      · cases h
    | ireturn =>
      have hz := mm_n h; clear h; obtain ⟨rfl, h⟩ := hz
      unfold mm_rti at h
      split at h
      · split at h <;> cases h
      · cases h
    | return_ =>
      have hz := mm_n h; clear h; obtain ⟨rfl, h⟩ := hz
      unfold mm_rtv at h
      split at h
      · split at h <;> cases h
      · cases h
    | _ => exact (mm_on_not (mm_on_do (by simp) (by simp) (by simp) (by simp)) h).elim
theorem mm_ofW {y : MethodName} {ws ws' : List Cond} {rm : Room} {Pc : Array Value → State → Prop} {Qc : Array Value → State → Outcome → State → Prop} {mc ms : Nat} {free : Addr → Prop} {cc : ByteArray} {maxL : Nat} {ret : Option FieldType}
    (hy : plainFor y = true) (hw : ws = Cond.code y cc maxL ret :: ws')
    (body : ∀ p e s m args below meth c s₁, BodyLoose p l y (headSpec ws rm) cc maxL ret e s m args below meth c s₁ → c.maxLocals = maxL → Pc args s →
      W p l e (headSpec ws rm).room s m args below meth c s.heap [] 0 0 (MQ below Qc args s mc ms free) (entryFrame m args maxL)) : Met l y ws rm Pc Qc mc ms free := by
  refine MetFree.of_bodySF (code := cc) (maxLocals := maxL) (ret := ret) hy ?_ ?_
  · intro args s m h hn
    obtain ⟨meth, c, h1, h2, h3, h4, h5, h6, -, -⟩ := Cond.code_spec hn (atoms_spec (ws := ws) h _ (by rw [hw]; exact List.mem_cons_self))
    exact ⟨meth, c, h1, h2, h3, h4, h5, h6⟩
  · intro p e s m args below meth c s₁ B hml hP _
    have hh0 : s₁.heap = s.heap := by rw [B.state]; rfl
    obtain ⟨t, a1, o, b1, b2, b3⟩ := body p e s m args below meth c s₁ B hml hP s₁ hh0 (Stand.of_body B)
    exact ⟨t, o, a1, b1, b2, ⟨b3.1, b3.2⟩⟩
theorem mm_s_ret (C0 : mm_C p R s m args meth c 0 0 j D ad cI cC A) {r : Option Int32} (h : mm_step j pc lo st M = some (.inr (.inr r))) : mm_G p l e R s m args below meth c 0 0 (MQ below (mm_post r M D ad cI cC A) args s 0 0 A) j D ad cI cC A (pc, lo, st, M) := by
  obtain ⟨hx, hb, hml, hr, hlk, hown, hts, hK, hX, hA, hfr, hlo⟩ := id C0
  unfold mm_step at h
  cases hd : decode (mm_code j) pc with
  | error e => rw [hd] at h; cases h
  | ok z =>
    obtain ⟨i, n⟩ := z
    rw [hd] at h
    replace h : mm_do j pc i n lo st M = some (.inr (.inr r)) := h
    have key : ∀ {lo' st' M' pc'}, ¬ (mm_nx pc' lo' st' M' = some (.inr (.inr r))) := fun z => by cases z
    cases i with
    | ireturn =>
      have hz := mm_n h; clear h; obtain ⟨rfl, h⟩ := hz
      unfold mm_rti at h
      split at h
      · rename_i v
        split at h
        · rename_i hc
          cases h
          intro H locs ls hP hD hS hl hn
          have hq : ∀ t : State, t.heap = H → s.WarmedH t.vm → mm_post (some v) M D ad cI cC A args s (.returned (some (.int v))) t := fun t ht hW => ⟨⟨v, M, rfl, ⟨rfl, rfl⟩, by rw [ht]; exact hP, va_K.moved hW.alike hK, hD.2⟩, hS.F ht⟩
          rcases hc with hc | ⟨hc, hv⟩
          · exact W.iret hx hb (hr.trans hc) hq hS.2.2 hd hlk
          · exact W.zret hx hb (hr.trans hc) (by rcases hv with rfl | rfl <;> rfl) hq hS.2.2 hd hlk
        · cases h
      · cases h
    | return_ =>
      have hz := mm_n h; clear h; obtain ⟨rfl, h⟩ := hz
      unfold mm_rtv at h
      split at h
      · split at h
        · rename_i hc
          cases h
          intro H locs ls hP hD hS hl hn
          exact W.vret hx hb (hr.trans hc) (fun t ht hW => ⟨⟨M, rfl, rfl, by rw [ht]; exact hP, va_K.moved hW.alike hK, hD.2⟩, hS.F ht⟩) hS.2.2 hd hlk
        · cases h
      · cases h
    | invokevirtual i =>
      have hz := mm_n h; clear h; obtain ⟨rfl, h⟩ := hz
      split at h
      · unfold mm_inv at h
        split at h
        · split at h
          · split at h <;> cases h
          · cases h
        · cases h
      · cases h
    | invokestatic i =>
      have hz := mm_n h; clear h; obtain ⟨rfl, h⟩ := hz
      split at h
      · unfold mm_ins at h
        split at h
        · unfold mm_cpy at h
          split at h
          · split at h
            · split at h
              · exact absurd h key
              · cases h
            · cases h
          · cases h
        · split at h <;> cases h
      · cases h
    | _ => exact (mm_on_not (mm_on_do (by simp) (by simp) (by simp) (by simp)) h).elim
end MMT
/-- the end of a method that answers a number -/
theorem mm_ret_inv {v : Int32} (h : mm_step j pc lo st M = some (.inr (.inr (some v)))) : decode (mm_code j) pc = .ok (.ireturn, 1) ∧ st = [.inl v] := by
  unfold mm_step at h
  cases hd : decode (mm_code j) pc with
  | error e => rw [hd] at h; cases h
  | ok z =>
    obtain ⟨i, n⟩ := z
    rw [hd] at h
    replace h : mm_do j pc i n lo st M = some (.inr (.inr (some v))) := h
    have key : ∀ {lo' st' M' pc'}, ¬ (mm_nx pc' lo' st' M' = some (.inr (.inr (some v)))) := fun z => by cases z
    cases i with
    | ireturn =>
      have hz := mm_n h; clear h; obtain ⟨rfl, h⟩ := hz
      unfold mm_rti at h
      split at h
      · split at h
        · cases h
          exact ⟨rfl, rfl⟩
        · cases h
      · cases h
    | return_ =>
      have hz := mm_n h; clear h; obtain ⟨rfl, h⟩ := hz
      unfold mm_rtv at h
      split at h
      · split at h <;> cases h
      · cases h
    | invokevirtual i =>
      have hz := mm_n h; clear h; obtain ⟨rfl, h⟩ := hz
      split at h
      · unfold mm_inv at h
        split at h
        · split at h
          · split at h <;> cases h
          · cases h
        · cases h
      · cases h
    | invokestatic i =>
      have hz := mm_n h; clear h; obtain ⟨rfl, h⟩ := hz
      split at h
      · unfold mm_ins at h
        split at h
        · unfold mm_cpy at h
          split at h
          · split at h
            · split at h
              · exact absurd h key
              · cases h
            · cases h
          · cases h
        · split at h <;> cases h
      · cases h
    | _ => exact (mm_on_not (mm_on_do (by simp) (by simp) (by simp) (by simp)) h).elim
end MMT
/-- a frame of method j that ends with r0 and M0, whatever is asked of its end -/
def mm_fin (l : Launch) (j pc : Nat) (lo : mm_L) (st : List mm_V) (M : mm_M) (r0 : Option Int32) (M0 : mm_M) : Prop :=
  ∀ (p : Program) (e : Env) (R : Room) (s : State) (m : MethodId) (args : Array Value) (below : List Frame) (meth : Method) (c : Code) (D : va_G) (ad : Nat → Nat) (cI cC : ClassId) (A : Nat → Prop) (nc ns : Nat) (Q : State → Prop),
    mm_C p R s m args meth c nc ns j D ad cI cC A → (∀ (pc' : Nat) (lo' : mm_L) (st' : List mm_V), mm_step j pc' lo' st' M0 = some (.inr (.inr r0)) → mm_G p l e R s m args below meth c nc ns Q j D ad cI cC A (pc', lo', st', M0)) → mm_G p l e R s m args below meth c nc ns Q j D ad cI cC A (pc, lo, st, M)
/-- what the small machine answers, the machine answers: by the number of its steps -/
theorem mm_sound (l : Launch) : ∀ n : Nat,
    (∀ (j pc : Nat) (lo : mm_L) (st : List mm_V) (M : mm_M) (r0 : Option Int32) (M0 : mm_M), mm_run n j pc lo st M = some (r0, M0) → mm_fin l j pc lo st M r0 M0) ∧
    (∀ (k : Nat) (as : List mm_V) (M : mm_M) (r0 : Option Int32) (M0 : mm_M), k < mm_tab.length → as.length ≤ mm_maxL k → mm_run n k 0 (mm_ent k as) [] M = some (r0, M0) → mm_met l k as M r0 M0) := by
  have meet : ∀ n : Nat, (∀ (j pc : Nat) (lo : mm_L) (st : List mm_V) (M : mm_M) (r0 : Option Int32) (M0 : mm_M), mm_run n j pc lo st M = some (r0, M0) → mm_fin l j pc lo st M r0 M0) →
      ∀ (k : Nat) (as : List mm_V) (M : mm_M) (r0 : Option Int32) (M0 : mm_M), k < mm_tab.length → as.length ≤ mm_maxL k → mm_run n k 0 (mm_ent k as) [] M = some (r0, M0) → mm_met l k as M r0 M0 := by
    intro n ih k as M r0 M0 hk hlen hrun D ad cI cC sz
    have hrk := mm_rec_ok hk
    refine mm_ofW (cc := mm_code k) (maxL := mm_maxL k) (ret := mm_ret k) hrk.1 rfl ?_
    intro p e s m args below meth c s₁ B hml hv
    obtain ⟨rfl, hsz, hP, hK, ⟨hD0, hO⟩, hX⟩ := hv
    subst hsz
    have hD := hD0.self (sz := s.heap.size)
    have hts := atoms_spec (ws := mm_ws k) B.pre
    have hown : s.vm.findClass (mm_y k).cls = some m.cls := findClass_of_methodNamed B.named
    rw [hrk.2.2.2.1] at hown
    have C0 : mm_C p (headSpec (mm_ws k) (mm_rm k)).room s m (as.map (mm_tv ad)).toArray meth c 0 0 k D ad cI cC (va_A (mm_world ad cI cC M) s.heap.size) :=
      ⟨B.exec, B.bytes, hml, B.returns, B.notSynchronized, hown, fun w hw => hts w (List.mem_cons_of_mem _ hw), hK, hX, fun q h => Or.inr h, Nat.le_refl _, Nat.le_refl _, Nat.zero_le _, Nat.zero_le _⟩
    rw [lg_entry_eq]
    exact ih k 0 (mm_ent k as) [] M r0 M0 hrun p e _ s m _ below meth c D ad cI cC _ 0 0 _ C0 (fun pc' lo' st' h => mm_s_ret C0 h) s.heap [] _ hP ⟨hD, hO⟩ va_S.rf (mm_ls_ent hlen) (mm_ent_len hlen)
  intro n
  induction n with
  | zero =>
    refine ⟨fun j pc lo st M r0 M0 h => (by cases h), fun k as M r0 M0 hk hlen h => (by cases h)⟩
  | succ n ih =>
    have first : ∀ (j pc : Nat) (lo : mm_L) (st : List mm_V) (M : mm_M) (r0 : Option Int32) (M0 : mm_M), mm_run (n + 1) j pc lo st M = some (r0, M0) → mm_fin l j pc lo st M r0 M0 := by
      intro j pc lo st M r0 M0 h p e R s m args below meth c D ad cI cC A nc ns Q C0 hret
      rw [mm_run] at h
      cases hs : mm_step j pc lo st M with
      | none => rw [hs] at h; cases h
      | some z =>
        rw [hs] at h
        rcases z with q | q | r
        · exact mm_s_step C0 hs (ih.1 j q.1 q.2.1 q.2.2.1 q.2.2.2 r0 M0 h p e R s m args below meth c D ad cI cC A nc ns Q C0 hret)
        · simp only at h
          cases hc : mm_run n q.1 0 (mm_ent q.1 q.2.1) [] M with
          | none => rw [hc] at h; cases h
          | some a =>
            rw [hc] at h
            exact mm_s_call (k := q.1) (as := q.2.1) (r := q.2.2) (r0 := a.1) (M0 := a.2) C0 hs (fun hk hlen => ih.2 q.1 q.2.1 M a.1 a.2 hk hlen hc) (ih.1 j (pc + 3) lo (mm_rv a.1 ++ q.2.2) a.2 r0 M0 h p e R s m args below meth c D ad cI cC A nc ns Q C0 hret)
        · simp only at h
          cases h
          exact hret _ _ _ hs
    exact ⟨first, meet (n + 1) first⟩
end
section
/-! WHAT A RUN OF THE SMALL MACHINE COMES TO -/
theorem mm_run_more : ∀ (n j pc : Nat) (lo : mm_L) (st : List mm_V) (M : mm_M) (x : Option Int32 × mm_M), mm_run n j pc lo st M = some x → mm_run (n + 1) j pc lo st M = some x := by
  intro n
  induction n with
  | zero => intro j pc lo st M x h; cases h
  | succ n ih =>
    intro j pc lo st M x h
    rw [mm_run] at h
    rw [mm_run]
    cases hs : mm_step j pc lo st M with
    | none => rw [hs] at h; cases h
    | some z =>
      rw [hs] at h
      rcases z with q | q | r
      · exact ih _ _ _ _ _ _ h
      · simp only at h ⊢
        cases hc : mm_run n q.1 0 (mm_ent q.1 q.2.1) [] M with
        | none => rw [hc] at h; cases h
        | some a =>
          rw [hc] at h
          rw [ih _ _ _ _ _ _ hc]
          exact ih _ _ _ _ _ _ h
      · exact h
theorem mm_run_mono {n k j pc : Nat} {lo : mm_L} {st : List mm_V} {M : mm_M} {x : Option Int32 × mm_M} (hn : n ≤ k) (h : mm_run n j pc lo st M = some x) : mm_run k j pc lo st M = some x := by
  induction k with
  | zero =>
    have : n = 0 := by omega
    subst this
    exact h
  | succ k ih =>
    by_cases e : n = k + 1
    · subst e; exact h
    · exact mm_run_more k _ _ _ _ _ _ (ih (by omega))
theorem mm_run_det {n k j pc : Nat} {lo : mm_L} {st : List mm_V} {M : mm_M} {x y : Option Int32 × mm_M} (h : mm_run n j pc lo st M = some x) (h2 : mm_run k j pc lo st M = some y) : x = y := by
  have a := mm_run_mono (Nat.le_max_left n k) h
  have b := mm_run_mono (Nat.le_max_right n k) h2
  rw [a] at b
  exact Option.some.inj b
abbrev mm_Q : Type := Option Int32 → mm_M → Prop
/-- from there the run ends, with Q -/
def wp (j pc : Nat) (lo : mm_L) (st : List mm_V) (M : mm_M) (Q : mm_Q) : Prop := ∃ (n : Nat) (r : Option Int32) (M' : mm_M), mm_run n j pc lo st M = some (r, M') ∧ Q r M'
/-- a call of method k ends, with Q -/
def wc (k : Nat) (as : List mm_V) (M : mm_M) (Q : mm_Q) : Prop := wp k 0 (mm_ent k as) [] M Q
section WP
variable {j pc pc' : Nat} {lo lo' : mm_L} {st st' : List mm_V} {M M' : mm_M} {Q : mm_Q}
theorem wp_nx (h : mm_step j pc lo st M = some (.inl (pc', lo', st', M'))) : wp j pc lo st M Q ↔ wp j pc' lo' st' M' Q := by
  constructor
  · rintro ⟨n, r, M2, h1, h2⟩
    cases n with
    | zero => cases h1
    | succ n =>
      rw [mm_run, h] at h1
      exact ⟨n, r, M2, h1, h2⟩
  · rintro ⟨n, r, M2, h1, h2⟩
    exact ⟨n + 1, r, M2, by rw [mm_run, h]; exact h1, h2⟩
theorem wp_end {r : Option Int32} (h : mm_step j pc lo st M = some (.inr (.inr r))) : wp j pc lo st M Q ↔ Q r M := by
  constructor
  · rintro ⟨n, r2, M2, h1, h2⟩
    cases n with
    | zero => cases h1
    | succ n =>
      rw [mm_run, h] at h1
      cases h1
      exact h2
  · intro h2
    exact ⟨1, r, M, by rw [mm_run, h], h2⟩
theorem wp_no (h : mm_step j pc lo st M = none) : wp j pc lo st M Q ↔ False := by
  constructor
  · rintro ⟨n, r2, M2, h1, h2⟩
    cases n with
    | zero => cases h1
    | succ n =>
      rw [mm_run, h] at h1
      cases h1
  · intro h2
    exact h2.elim
theorem wp_call {k : Nat} {as rest : List mm_V} (h : mm_step j pc lo st M = some (.inr (.inl (k, as, rest)))) : wp j pc lo st M Q ↔ wc k as M (fun r M' => wp j (pc + 3) lo (mm_rv r ++ rest) M' Q) := by
  constructor
  · rintro ⟨n, r2, M2, h1, h2⟩
    cases n with
    | zero => cases h1
    | succ n =>
      rw [mm_run, h] at h1
      simp only at h1
      cases hc : mm_run n k 0 (mm_ent k as) [] M with
      | none => rw [hc] at h1; cases h1
      | some a =>
        rw [hc] at h1
        exact ⟨n, a.1, a.2, hc, n, r2, M2, h1, h2⟩
  · rintro ⟨n, r, M2, h1, n2, r2, M3, h2, h3⟩
    refine ⟨max n n2 + 1, r2, M3, ?_, h3⟩
    rw [mm_run, h]
    simp only
    rw [mm_run_mono (Nat.le_max_left n n2) h1]
    exact mm_run_mono (Nat.le_max_right n n2) h2
theorem wp_mono {Q' : mm_Q} (h : wp j pc lo st M Q) (hq : ∀ r M', Q r M' → Q' r M') : wp j pc lo st M Q' := by
  obtain ⟨n, r, M2, h1, h2⟩ := h
  exact ⟨n, r, M2, h1, hq _ _ h2⟩
theorem wc_mono {k : Nat} {as : List mm_V} {Q' : mm_Q} (h : wc k as M Q) (hq : ∀ r M', Q r M' → Q' r M') : wc k as M Q' := wp_mono h hq
/-- the run has this answer and this memory -/
theorem wc_iff {k : Nat} {as : List mm_V} {r : Option Int32} (h : wc k as M (fun r' M2 => r' = r ∧ M2 = M')) : wc k as M Q ↔ Q r M' := by
  obtain ⟨n, r1, M1, h1, rfl, rfl⟩ := h
  constructor
  · rintro ⟨n2, r2, M2, h2, h3⟩
    have e := mm_run_det h1 h2
    cases e
    exact h3
  · intro h3
    exact ⟨n, r1, M1, h1, h3⟩
variable {cc : ByteArray} {x y : Int32} {o : Nat} {u v w : mm_V}
theorem mm_st_eq (hc : mm_code j = cc) {i : Instr} {n : Nat} (hd : decode cc pc = .ok (i, n)) : mm_step j pc lo st M = mm_do j pc i n lo st M := by
  unfold mm_step
  rw [hc, hd]
theorem wi_nx (hc : mm_code j = cc) {i : Instr} {n : Nat} (hd : decode cc pc = .ok (i, n)) (h : mm_do j pc i n lo st M = some (.inl (pc', lo', st', M'))) : wp j pc lo st M Q ↔ wp j pc' lo' st' M' Q := wp_nx ((mm_st_eq hc hd).trans h)
theorem wi_no (hc : mm_code j = cc) {i : Instr} {n : Nat} (hd : decode cc pc = .ok (i, n)) (h : mm_do j pc i n lo st M = none) : wp j pc lo st M Q ↔ False := wp_no ((mm_st_eq hc hd).trans h)
theorem wi_and {B : Prop} (hc : mm_code j = cc) {i : Instr} {n : Nat} (hd : decode cc pc = .ok (i, n)) (h1 : B → mm_do j pc i n lo st M = some (.inl (pc', lo', st', M'))) (h2 : ¬ B → mm_do j pc i n lo st M = none) : wp j pc lo st M Q ↔ (B ∧ wp j pc' lo' st' M' Q) := by
  by_cases hB : B
  · rw [wi_nx hc hd (h1 hB)]
    exact ⟨fun z => ⟨hB, z⟩, fun z => z.2⟩
  · rw [wi_no hc hd (h2 hB)]
    exact ⟨fun z => z.elim, fun z => hB z.1⟩
theorem wi_iconst {n : Int} {z : Int32} (hc : mm_code j = cc) (hd : decode cc pc = .ok (.iconst n, 1)) (hz : Int32.ofInt n = z) : wp j pc lo st M Q ↔ wp j (pc + 1) lo (.inl z :: st) M Q := by subst hz; exact wi_nx hc hd rfl
theorem wi_bipush {n : Int} {z : Int32} (hc : mm_code j = cc) (hd : decode cc pc = .ok (.bipush n, 2)) (hz : (Int8.ofInt n).toInt32 = z) : wp j pc lo st M Q ↔ wp j (pc + 2) lo (.inl z :: st) M Q := by subst hz; exact wi_nx hc hd rfl
theorem wi_sipush {n : Int} {z : Int32} (hc : mm_code j = cc) (hd : decode cc pc = .ok (.sipush n, 3)) (hz : (Int16.ofInt n).toInt32 = z) : wp j pc lo st M Q ↔ wp j (pc + 3) lo (.inl z :: st) M Q := by subst hz; exact wi_nx hc hd rfl
theorem wi_iload_n {k : Fin 4} (hc : mm_code j = cc) (hd : decode cc pc = .ok (.iload_n k, 1)) (hk : lo[k.val]? = some (some (.inl x))) : wp j pc lo st M Q ↔ wp j (pc + 1) lo (.inl x :: st) M Q :=
  wi_nx hc hd (by show (if 1 = 1 then mm_ldi k.val (pc + 1) lo st M else none) = _; rw [if_pos rfl, mm_ldi, hk]; rfl)
theorem wi_iload {k : Nat} (hc : mm_code j = cc) (hd : decode cc pc = .ok (.iload k, 2)) (hk : lo[k]? = some (some (.inl x))) : wp j pc lo st M Q ↔ wp j (pc + 2) lo (.inl x :: st) M Q :=
  wi_nx hc hd (by show (if 2 = 2 then mm_ldi k (pc + 2) lo st M else none) = _; rw [if_pos rfl, mm_ldi, hk]; rfl)
theorem wi_aload_n {k : Fin 4} (hc : mm_code j = cc) (hd : decode cc pc = .ok (.aload_n k, 1)) (hk : lo[k.val]? = some (some (.inr o))) : wp j pc lo st M Q ↔ wp j (pc + 1) lo (.inr o :: st) M Q :=
  wi_nx hc hd (by show (if 1 = 1 then mm_lda k.val (pc + 1) lo st M else none) = _; rw [if_pos rfl, mm_lda, hk]; rfl)
theorem wi_aload {k : Nat} (hc : mm_code j = cc) (hd : decode cc pc = .ok (.aload k, 2)) (hk : lo[k]? = some (some (.inr o))) : wp j pc lo st M Q ↔ wp j (pc + 2) lo (.inr o :: st) M Q :=
  wi_nx hc hd (by show (if 2 = 2 then mm_lda k (pc + 2) lo st M else none) = _; rw [if_pos rfl, mm_lda, hk]; rfl)
theorem wi_istore_n {k : Fin 4} (hc : mm_code j = cc) (hd : decode cc pc = .ok (.istore_n k, 1)) (hk : k.val < lo.length) (he : lo.set k.val (some (.inl x)) = lo') : wp j pc lo (.inl x :: st) M Q ↔ wp j (pc + 1) lo' st M Q := by
  subst he
  exact wi_nx hc hd (by show (if 1 = 1 then mm_sti k.val (pc + 1) lo (.inl x :: st) M else none) = _; rw [if_pos rfl]; simp only [mm_sti]; rw [if_pos hk]; rfl)
theorem wi_istore {k : Nat} (hc : mm_code j = cc) (hd : decode cc pc = .ok (.istore k, 2)) (hk : k < lo.length) (he : lo.set k (some (.inl x)) = lo') : wp j pc lo (.inl x :: st) M Q ↔ wp j (pc + 2) lo' st M Q := by
  subst he
  exact wi_nx hc hd (by show (if 2 = 2 then mm_sti k (pc + 2) lo (.inl x :: st) M else none) = _; rw [if_pos rfl]; simp only [mm_sti]; rw [if_pos hk]; rfl)
theorem wi_iinc {k : Nat} {n : Int} {z : Int32} (hc : mm_code j = cc) (hd : decode cc pc = .ok (.iinc k n, 3)) (hk : lo[k]? = some (some (.inl x))) (hz : Int32.ofInt n = z) (he : lo.set k (some (.inl (x + z))) = lo') : wp j pc lo st M Q ↔ wp j (pc + 3) lo' st M Q := by
  subst hz
  subst he
  exact wi_nx hc hd (by show (if 3 = 3 then mm_inc k n (pc + 3) lo st M else none) = _; rw [if_pos rfl, mm_inc, hk]; rfl)
theorem wi_iadd (hc : mm_code j = cc) (hd : decode cc pc = .ok (.iadd, 1)) : wp j pc lo (.inl y :: .inl x :: st) M Q ↔ wp j (pc + 1) lo (.inl (x + y) :: st) M Q := wi_nx hc hd rfl
theorem wi_isub (hc : mm_code j = cc) (hd : decode cc pc = .ok (.isub, 1)) : wp j pc lo (.inl y :: .inl x :: st) M Q ↔ wp j (pc + 1) lo (.inl (x - y) :: st) M Q := wi_nx hc hd rfl
theorem wi_imul (hc : mm_code j = cc) (hd : decode cc pc = .ok (.imul, 1)) : wp j pc lo (.inl y :: .inl x :: st) M Q ↔ wp j (pc + 1) lo (.inl (x * y) :: st) M Q := wi_nx hc hd rfl
theorem wi_iand (hc : mm_code j = cc) (hd : decode cc pc = .ok (.iand, 1)) : wp j pc lo (.inl y :: .inl x :: st) M Q ↔ wp j (pc + 1) lo (.inl (x &&& y) :: st) M Q := wi_nx hc hd rfl
theorem wi_ior (hc : mm_code j = cc) (hd : decode cc pc = .ok (.ior, 1)) : wp j pc lo (.inl y :: .inl x :: st) M Q ↔ wp j (pc + 1) lo (.inl (x ||| y) :: st) M Q := wi_nx hc hd rfl
theorem wi_ixor (hc : mm_code j = cc) (hd : decode cc pc = .ok (.ixor, 1)) : wp j pc lo (.inl y :: .inl x :: st) M Q ↔ wp j (pc + 1) lo (.inl (x ^^^ y) :: st) M Q := wi_nx hc hd rfl
theorem wi_ishl (hc : mm_code j = cc) (hd : decode cc pc = .ok (.ishl, 1)) : wp j pc lo (.inl y :: .inl x :: st) M Q ↔ wp j (pc + 1) lo (.inl (x <<< (y &&& 31)) :: st) M Q := wi_nx hc hd rfl
theorem wi_ishr (hc : mm_code j = cc) (hd : decode cc pc = .ok (.ishr, 1)) : wp j pc lo (.inl y :: .inl x :: st) M Q ↔ wp j (pc + 1) lo (.inl (x >>> (y &&& 31)) :: st) M Q := wi_nx hc hd rfl
theorem wi_irem (hc : mm_code j = cc) (hd : decode cc pc = .ok (.irem, 1)) : wp j pc lo (.inl y :: .inl x :: st) M Q ↔ (¬ y = 0 ∧ wp j (pc + 1) lo (.inl (x - x / y * y) :: st) M Q) := by
  have e : mm_do j pc .irem 1 lo (.inl y :: .inl x :: st) M = (if 1 = 1 ∧ some (Sum.inl y : mm_V) ≠ some (.inl 0) then mm_bin (fun x y => x - x / y * y) pc lo (.inl y :: .inl x :: st) M else none) := rfl
  refine wi_and hc hd (fun h => ?_) (fun h => ?_)
  · rw [e, if_pos ⟨rfl, by simpa using h⟩]; rfl
  · rw [e, if_neg (by simpa using h)]
theorem wi_idiv (hc : mm_code j = cc) (hd : decode cc pc = .ok (.idiv, 1)) : wp j pc lo (.inl y :: .inl x :: st) M Q ↔ (¬ y = 0 ∧ wp j (pc + 1) lo (.inl (x / y) :: st) M Q) := by
  have e : mm_do j pc .idiv 1 lo (.inl y :: .inl x :: st) M = (if 1 = 1 ∧ some (Sum.inl y : mm_V) ≠ some (.inl 0) then mm_bin (fun x y => x / y) pc lo (.inl y :: .inl x :: st) M else none) := rfl
  refine wi_and hc hd (fun h => ?_) (fun h => ?_)
  · rw [e, if_pos ⟨rfl, by simpa using h⟩]; rfl
  · rw [e, if_neg (by simpa using h)]
theorem wi_ineg (hc : mm_code j = cc) (hd : decode cc pc = .ok (.ineg, 1)) : wp j pc lo (.inl x :: st) M Q ↔ wp j (pc + 1) lo (.inl (-x) :: st) M Q := wi_nx hc hd rfl
theorem wi_i2c (hc : mm_code j = cc) (hd : decode cc pc = .ok (.i2c, 1)) : wp j pc lo (.inl x :: st) M Q ↔ wp j (pc + 1) lo (.inl (x.toUInt32 % 65536).toInt32 :: st) M Q := wi_nx hc hd rfl
theorem wi_dup (hc : mm_code j = cc) (hd : decode cc pc = .ok (.dup, 1)) : wp j pc lo (v :: st) M Q ↔ wp j (pc + 1) lo (v :: v :: st) M Q := wi_nx hc hd rfl
theorem wi_dup2 (hc : mm_code j = cc) (hd : decode cc pc = .ok (.dup2, 1)) : wp j pc lo (v :: w :: st) M Q ↔ wp j (pc + 1) lo (v :: w :: v :: w :: st) M Q := wi_nx hc hd rfl
theorem wi_pop (hc : mm_code j = cc) (hd : decode cc pc = .ok (.pop, 1)) : wp j pc lo (v :: st) M Q ↔ wp j (pc + 1) lo st M Q := wi_nx hc hd rfl
theorem mm_jmp_to {off : Int} {tgt : Nat} (ht : (pc : Int) + off = (tgt : Int)) : mm_jmp pc off lo st M = some (.inl (tgt, lo, st, M)) := by
  unfold mm_jmp
  rw [if_pos (by omega), ht]
  rfl
theorem wi_goto {off : Int} {tgt : Nat} (hc : mm_code j = cc) (hd : decode cc pc = .ok (.goto off, 3)) (ht : (pc : Int) + off = (tgt : Int)) : wp j pc lo st M Q ↔ wp j tgt lo st M Q :=
  wi_nx hc hd (by show (if 3 = 3 then mm_jmp pc off lo st M else none) = _; rw [if_pos rfl, mm_jmp_to ht])
theorem mm_br_to {off : Int} {tgt : Nat} {b : Bool} (ht : (pc : Int) + off = (tgt : Int)) : mm_br b pc off lo st M = some (.inl (if b = true then tgt else pc + 3, lo, st, M)) := by
  unfold mm_br
  rw [if_pos (by omega), ht]
  rfl
theorem wi_if1 {cd : ClassFile.Cond} {off : Int} {tgt : Nat} {B : Prop} {dB : Decidable B} (hc : mm_code j = cc) (hd : decode cc pc = .ok (.ifCond cd off, 3)) (hB : mm_if cd x 0 = @decide B dB) (ht : (pc : Int) + off = (tgt : Int)) : wp j pc lo (.inl x :: st) M Q ↔ (if B then wp j tgt lo st M Q else wp j (pc + 3) lo st M Q) := by
  have e : mm_do j pc (.ifCond cd off) 3 lo (.inl x :: st) M = mm_br (mm_if cd x 0) pc off lo st M := rfl
  rw [hB, mm_br_to ht] at e
  rw [wi_nx hc hd e]
  by_cases h : B
  · rw [if_pos (decide_eq_true h), if_pos h]
  · rw [if_neg (by simpa using h), if_neg h]
theorem wi_if2 {cd : ClassFile.Cond} {off : Int} {tgt : Nat} {B : Prop} {dB : Decidable B} (hc : mm_code j = cc) (hd : decode cc pc = .ok (.if_icmp cd off, 3)) (hB : mm_if cd x y = @decide B dB) (ht : (pc : Int) + off = (tgt : Int)) : wp j pc lo (.inl y :: .inl x :: st) M Q ↔ (if B then wp j tgt lo st M Q else wp j (pc + 3) lo st M Q) := by
  have e : mm_do j pc (.if_icmp cd off) 3 lo (.inl y :: .inl x :: st) M = mm_br (mm_if cd x y) pc off lo st M := rfl
  rw [hB, mm_br_to ht] at e
  rw [wi_nx hc hd e]
  by_cases h : B
  · rw [if_pos (decide_eq_true h), if_pos h]
  · rw [if_neg (by simpa using h), if_neg h]
/-- a switch by a list of its arms -/
def wsw (j : Nat) (lo : mm_L) (st : List mm_V) (M : mm_M) (Q : mm_Q) (x : Int32) (d : Nat) : List (Int32 × Nat) → Prop
  | [] => wp j d lo st M Q
  | a :: r => if x = a.1 then wp j a.2 lo st M Q else wsw j lo st M Q x d r
theorem wi_tsw {d l h : Int} {offs : Array Int} {n td : Nat} {arms : List (Int32 × Nat)} (hc : mm_code j = cc) (hd : decode cc pc = .ok (.tableswitch d l h offs, n)) (htd : (pc : Int) + d = (td : Int))
    (h1 : ∀ a ∈ arms, (¬ (a.1.toInt < l ∨ h < a.1.toInt)) ∧ ∃ off, offs[(a.1.toInt - l).toNat]? = some off ∧ (pc : Int) + off = (a.2 : Int)) (h2 : ∀ z : Int, l ≤ z → z ≤ h → ∃ a ∈ arms, a.1.toInt = z) :
    wp j pc lo (.inl x :: st) M Q ↔ wsw j lo st M Q x td arms := by
  have e : mm_do j pc (.tableswitch d l h offs) n lo (.inl x :: st) M = (if x.toInt < l ∨ h < x.toInt then mm_jmp pc d lo st M else match offs[(x.toInt - l).toNat]? with | some off => mm_jmp pc off lo st M | none => none) := rfl
  by_cases hx : x.toInt < l ∨ h < x.toInt
  · rw [if_pos hx, mm_jmp_to htd] at e
    rw [wi_nx hc hd e]
    have key : ∀ r : List (Int32 × Nat), (∀ a ∈ r, a ∈ arms) → wsw j lo st M Q x td r = wp j td lo st M Q := by
      intro r
      induction r with
      | nil => intro _; rfl
      | cons a r ih =>
        intro hr
        rw [wsw, if_neg (fun (z : x = a.1) => (h1 a (hr a List.mem_cons_self)).1 (z ▸ hx))]
        exact ih (fun b hb => hr b (List.mem_cons_of_mem _ hb))
    rw [key arms (fun _ z => z)]
  · have key : ∀ r : List (Int32 × Nat), (∀ a ∈ r, a ∈ arms) → (∃ a ∈ r, a.1 = x) → (wp j pc lo (.inl x :: st) M Q ↔ wsw j lo st M Q x td r) := by
      intro r
      induction r with
      | nil => rintro _ ⟨a, ha, -⟩; cases ha
      | cons a r ih =>
        intro hr hex
        by_cases ha : x = a.1
        · obtain ⟨-, off, ho, ht⟩ := h1 a (hr a List.mem_cons_self)
          rw [if_neg hx, ha, ho] at e
          rw [wsw, if_pos ha]
          subst ha
          exact wi_nx hc hd (e.trans (mm_jmp_to ht))
        · rw [wsw, if_neg ha]
          refine ih (fun b hb => hr b (List.mem_cons_of_mem _ hb)) ?_
          obtain ⟨b, hb, hbx⟩ := hex
          rcases List.mem_cons.mp hb with rfl | hb
          · exact absurd hbx.symm ha
          · exact ⟨b, hb, hbx⟩
    obtain ⟨a, ha, haz⟩ := h2 x.toInt (by omega) (by omega)
    exact key arms (fun _ z => z) ⟨a, ha, Int32.toInt_inj.mp haz⟩
theorem wi_lsw {d : Int} {ps : Array (Int × Int)} {n td : Nat} {arms : List (Int32 × Nat)} (hc : mm_code j = cc) (hd : decode cc pc = .ok (.lookupswitch d ps, n)) (htd : (pc : Int) + d = (td : Int)) (hs : (ps.toList.zip (ps.toList.drop 1)).all (fun (a, next) => a.1 < next.1) = true)
    (h1 : ∀ a ∈ arms, (pc : Int) + Op.lookupswitch.offset ps.toList d a.1.toInt = (a.2 : Int)) (h2 : ∀ z : Int, (∀ a ∈ arms, a.1.toInt ≠ z) → Op.lookupswitch.offset ps.toList d z = d) :
    wp j pc lo (.inl x :: st) M Q ↔ wsw j lo st M Q x td arms := by
  have e : mm_do j pc (.lookupswitch d ps) n lo (.inl x :: st) M = (if (ps.toList.zip (ps.toList.drop 1)).all (fun (a, next) => a.1 < next.1) = true then mm_jmp pc (Op.lookupswitch.offset ps.toList d x.toInt) lo st M else none) := rfl
  rw [if_pos hs] at e
  by_cases hex : ∃ a ∈ arms, a.1 = x
  · have key : ∀ r : List (Int32 × Nat), (∀ a ∈ r, a ∈ arms) → (∃ a ∈ r, a.1 = x) → (wp j pc lo (.inl x :: st) M Q ↔ wsw j lo st M Q x td r) := by
      intro r
      induction r with
      | nil => rintro _ ⟨a, ha, -⟩; cases ha
      | cons a r ih =>
        intro hr hex
        by_cases ha : x = a.1
        · have ht := h1 a (hr a List.mem_cons_self)
          rw [wsw, if_pos ha]
          subst ha
          exact wi_nx hc hd (e.trans (mm_jmp_to ht))
        · rw [wsw, if_neg ha]
          refine ih (fun b hb => hr b (List.mem_cons_of_mem _ hb)) ?_
          obtain ⟨b, hb, hbx⟩ := hex
          rcases List.mem_cons.mp hb with rfl | hb
          · exact absurd hbx.symm ha
          · exact ⟨b, hb, hbx⟩
    exact key arms (fun _ z => z) hex
  · rw [h2 x.toInt (fun a ha z => hex ⟨a, ha, Int32.toInt_inj.mp z⟩), mm_jmp_to htd] at e
    rw [wi_nx hc hd e]
    have key : ∀ r : List (Int32 × Nat), (∀ a ∈ r, a ∈ arms) → wsw j lo st M Q x td r = wp j td lo st M Q := by
      intro r
      induction r with
      | nil => intro _; rfl
      | cons a r ih =>
        intro hr
        rw [wsw, if_neg (fun z => hex ⟨a, hr a List.mem_cons_self, z.symm⟩)]
        exact ih (fun b hb => hr b (List.mem_cons_of_mem _ hb))
    rw [key arms (fun _ z => z)]
-- fields, arrays
variable {cn i ci k n : Nat} {f : (Nat × Nat) × (Nat × Nat × Bool × Nat)} {fs : List (Option Nat)} {ch : Bool}
theorem wi_getI (hc : mm_code j = cc) (hd : decode cc pc = .ok (.getfield i, 3)) (hn : mm_cno j = cn) (hf : mm_fld cn i = some f) (hs : mm_shape[o]? = some (.inl (f.2.1, fs))) (hk : fs[f.2.2.1]? = some none) : wp j pc lo (.inr o :: st) M Q ↔ wp j (pc + 3) lo (.inl (M o f.2.2.1) :: st) M Q :=
  wi_nx hc hd (by
    show (if 3 = 3 then (match mm_fld (mm_cno j) i with | some e => mm_get e pc lo (.inr o :: st) M | none => none) else none) = _
    rw [if_pos rfl, hn, hf]
    simp only [mm_get, hs, if_true, hk]
    rfl)
theorem wi_getR {g : Nat} (hc : mm_code j = cc) (hd : decode cc pc = .ok (.getfield i, 3)) (hn : mm_cno j = cn) (hf : mm_fld cn i = some f) (hs : mm_shape[o]? = some (.inl (f.2.1, fs))) (hk : fs[f.2.2.1]? = some (some g)) : wp j pc lo (.inr o :: st) M Q ↔ wp j (pc + 3) lo (.inr g :: st) M Q :=
  wi_nx hc hd (by
    show (if 3 = 3 then (match mm_fld (mm_cno j) i with | some e => mm_get e pc lo (.inr o :: st) M | none => none) else none) = _
    rw [if_pos rfl, hn, hf]
    simp only [mm_get, hs, if_true, hk]
    rfl)
theorem wi_put (hc : mm_code j = cc) (hd : decode cc pc = .ok (.putfield i, 3)) (hn : mm_cno j = cn) (hf : mm_fld cn i = some f) (hs : mm_shape[o]? = some (.inl (f.2.1, fs))) (hk : fs[f.2.2.1]? = some none) : wp j pc lo (.inl x :: .inr o :: st) M Q ↔ wp j (pc + 3) lo st (mm_up M o f.2.2.1 x) Q :=
  wi_nx hc hd (by
    show (if 3 = 3 then (match mm_fld (mm_cno j) i with | some e => mm_put e pc lo (.inl x :: .inr o :: st) M | none => none) else none) = _
    rw [if_pos rfl, hn, hf]
    simp only [mm_put, hs, if_true, hk]
    rfl)
def mm_ln (o : Nat) : Nat := match mm_shape[o]? with
  | some (.inr (false, n)) => n
  | _ => 0
theorem vp_in_0 {i : Int32} : ¬ vp_in i 0 := fun h => h (Or.inr (Nat.zero_le _))
theorem wi_iald (ho : o < 30) (hc : mm_code j = cc) (hd : decode cc pc = .ok (.iaload, 1)) : wp j pc lo (.inl x :: .inr o :: st) M Q ↔ (vp_in x (mm_ln o) ∧ wp j (pc + 1) lo (.inl (M o x.toNatClampNeg) :: st) M Q) := by
  have e : mm_do j pc .iaload 1 lo (.inl x :: .inr o :: st) M = mm_ald false pc lo (.inl x :: .inr o :: st) M := rfl
  have hol : mm_shape.length = 30 := rfl
  have hsome := List.getElem?_eq_getElem (l := mm_shape) (i := o) (by omega)
  unfold mm_ln
  simp only [mm_ald] at e
  rw [hsome] at e ⊢
  cases hsh : mm_shape[o]'(by omega) with
  | inl q =>
    rw [hsh] at e
    rw [wi_no hc hd e]
    exact ⟨fun z => z.elim, fun z => vp_in_0 z.1⟩
  | inr q =>
    obtain ⟨ch, n⟩ := q
    rw [hsh] at e
    simp only at e
    cases ch with
    | true =>
      rw [if_neg (fun z => by cases z.1)] at e
      rw [wi_no hc hd e]
      exact ⟨fun z => z.elim, fun z => vp_in_0 z.1⟩
    | false =>
      refine wi_and hc hd (fun h => ?_) (fun h => ?_)
      · rw [e, if_pos ⟨rfl, h⟩]; rfl
      · rw [e, if_neg (fun z => h z.2)]
theorem wi_iast (hc : mm_code j = cc) (hd : decode cc pc = .ok (.iastore, 1)) : wp j pc lo (.inl y :: .inl x :: .inr o :: st) M Q ↔ (vp_in x (mm_ln o) ∧ wp j (pc + 1) lo st (mm_up M o x.toNatClampNeg y) Q) := by
  have e : mm_do j pc .iastore 1 lo (.inl y :: .inl x :: .inr o :: st) M = mm_ast false pc lo (.inl y :: .inl x :: .inr o :: st) M := rfl
  unfold mm_ln
  simp only [mm_ast] at e
  cases hsh : mm_shape[o]? with
  | none =>
    rw [hsh] at e
    rw [wi_no hc hd e]
    exact ⟨fun z => z.elim, fun z => vp_in_0 z.1⟩
  | some q =>
    rw [hsh] at e
    cases q with
    | inl q =>
      rw [wi_no hc hd e]
      exact ⟨fun z => z.elim, fun z => vp_in_0 z.1⟩
    | inr q =>
      obtain ⟨ch, n⟩ := q
      simp only at e
      cases ch with
      | true =>
        rw [if_neg (fun z => by cases z.1)] at e
        rw [wi_no hc hd e]
        exact ⟨fun z => z.elim, fun z => vp_in_0 z.1⟩
      | false =>
        refine wi_and hc hd (fun h => ?_) (fun h => ?_)
        · rw [e, if_pos ⟨rfl, h⟩]; rfl
        · rw [e, if_neg (fun z => h z.2)]
theorem wi_taldx (hc : mm_code j = cc) (hd : decode cc pc = .ok (.iaload, 1)) : wp j pc lo (.inl x :: .inr 40 :: st) M Q ↔ (vp_in x 8 ∧ wp j (pc + 1) lo (.inl (mm_ux x.toNatClampNeg) :: st) M Q) := by
  have e : mm_do j pc .iaload 1 lo (.inl x :: .inr 40 :: st) M = (if (false = false ∧ ((40 : Nat) = 40 ∨ (40 : Nat) = 41) ∧ ¬ (x < 0 ∨ 8 ≤ x.toNatClampNeg)) then mm_nx (pc + 1) lo (.inl (mm_ux x.toNatClampNeg) :: st) M else none) := rfl
  refine wi_and hc hd (fun h => ?_) (fun h => ?_)
  · rw [e, if_pos ⟨rfl, Or.inl rfl, h⟩]; rfl
  · rw [e, if_neg (fun z => h z.2.2)]
theorem wi_taldy (hc : mm_code j = cc) (hd : decode cc pc = .ok (.iaload, 1)) : wp j pc lo (.inl x :: .inr 41 :: st) M Q ↔ (vp_in x 8 ∧ wp j (pc + 1) lo (.inl (mm_uy x.toNatClampNeg) :: st) M Q) := by
  have e : mm_do j pc .iaload 1 lo (.inl x :: .inr 41 :: st) M = (if (false = false ∧ ((41 : Nat) = 40 ∨ (41 : Nat) = 41) ∧ ¬ (x < 0 ∨ 8 ≤ x.toNatClampNeg)) then mm_nx (pc + 1) lo (.inl (mm_uy x.toNatClampNeg) :: st) M else none) := rfl
  refine wi_and hc hd (fun h => ?_) (fun h => ?_)
  · rw [e, if_pos ⟨rfl, Or.inr rfl, h⟩]; rfl
  · rw [e, if_neg (fun z => h z.2.2)]
theorem wi_len (hc : mm_code j = cc) (hd : decode cc pc = .ok (.arraylength, 1)) (h0 : 0 < mm_ln o) : wp j pc lo (.inr o :: st) M Q ↔ wp j (pc + 1) lo (.inl (nI (mm_ln o)) :: st) M Q := by
  have e : mm_do j pc .arraylength 1 lo (.inr o :: st) M = mm_len pc lo (.inr o :: st) M := rfl
  unfold mm_ln at h0 ⊢
  simp only [mm_len] at e
  cases hsh : mm_shape[o]? with
  | none => rw [hsh] at h0; exact absurd h0 (by simp)
  | some q =>
    rw [hsh] at e h0
    cases q with
    | inl q => exact absurd h0 (by simp)
    | inr q =>
      obtain ⟨ch, n⟩ := q
      cases ch with
      | true => exact absurd h0 (by simp)
      | false => exact wi_nx hc hd e
theorem wi_sald (hc : mm_code j = cc) (hd : decode cc pc = .ok (.iaload, 1)) : wp j pc lo (.inl x :: .inr 42 :: st) M Q ↔ (vp_in x (M 43 0).toNatClampNeg ∧ wp j (pc + 1) lo (.inl (M 42 x.toNatClampNeg) :: st) M Q) := by
  have e : mm_do j pc .iaload 1 lo (.inl x :: .inr 42 :: st) M = (if (false = false ∧ ¬ (x < 0 ∨ (M 43 0).toNatClampNeg ≤ x.toNatClampNeg)) then mm_nx (pc + 1) lo (.inl (M 42 x.toNatClampNeg) :: st) M else none) := rfl
  refine wi_and hc hd (fun h => ?_) (fun h => ?_)
  · rw [e, if_pos ⟨rfl, h⟩]; rfl
  · rw [e, if_neg (fun z => h z.2)]
theorem wi_slen (hc : mm_code j = cc) (hd : decode cc pc = .ok (.arraylength, 1)) : wp j pc lo (.inr 42 :: st) M Q ↔ wp j (pc + 1) lo (.inl (M 43 0) :: st) M Q :=
  wi_nx hc hd (show mm_do j pc .arraylength 1 lo (.inr 42 :: st) M = _ from rfl)
theorem wi_ldc {f : (Nat × Nat) × (Int32 × Nat)} (hc : mm_code j = cc) (hd : decode cc pc = .ok (.ldc i, 2)) (hn : mm_cno j = cn) (hf : mm_cst cn i = some f) : wp j pc lo st M Q ↔ wp j (pc + 2) lo (.inl f.2.1 :: st) M Q :=
  wi_nx hc hd (by
    show (if 2 = 2 then (match mm_cst (mm_cno j) i with | some e => mm_nx (pc + 2) lo (.inl e.2.1 :: st) M | none => none) else none) = _
    rw [if_pos rfl, hn, hf]
    rfl)
theorem wi_gst {f : (Nat × Nat) × (Bool × Nat)} (hc : mm_code j = cc) (hd : decode cc pc = .ok (.getstatic i, 3)) (hn : mm_cno j = cn) (hf : mm_stt cn i = some f) : wp j pc lo st M Q ↔ wp j (pc + 3) lo (.inr (if f.2.1 = true then 40 else 41) :: st) M Q :=
  wi_nx hc hd (by
    show (if 3 = 3 then (match mm_stt (mm_cno j) i with | some e => mm_gst e pc lo st M | none => none) else none) = _
    rw [if_pos rfl, hn, hf]
    rfl)
-- calls and ends
variable {g : (Nat × Nat) × (Nat × Nat × Nat × Nat × Nat × Nat × Nat)} {as rest : List mm_V}
theorem wi_call (hc : mm_code j = cc) {i : Instr} {n : Nat} (hd : decode cc pc = .ok (i, n)) (h : mm_do j pc i n lo st M = some (.inr (.inl (k, as, rest)))) : wp j pc lo st M Q ↔ wc k as M (fun r M' => wp j (pc + 3) lo (mm_rv r ++ rest) M' Q) := wp_call ((mm_st_eq hc hd).trans h)
theorem wi_inv (hc : mm_code j = cc) (hd : decode cc pc = .ok (.invokevirtual i, 3)) (hn : mm_cno j = cn) (hg : mm_cll cn i = some g) (h0 : g.2.1 = 0) (hk : g.2.2.1 = k) (hp : mm_np k = n) (hdr : st.drop n = .inr o :: rest) (hta : (st.take n).reverse = as) (hs : mm_shape[o]? = some (.inl (g.2.2.2.1, fs))) (hr : mm_roomy j k (n + 1) rest = true) :
    wp j pc lo st M Q ↔ wc k (.inr o :: as) M (fun r M' => wp j (pc + 3) lo (mm_rv r ++ rest) M' Q) :=
  wi_call hc hd (by
    show (if 3 = 3 then (match mm_cll (mm_cno j) i with | some e => mm_inv j e st | none => none) else none) = _
    rw [if_pos rfl, hn, hg]
    simp only [mm_inv]
    rw [hk, hp, hdr]
    simp only
    rw [hs]
    simp only
    rw [if_pos ⟨h0, trivial, hr⟩, hta])
theorem wi_ins (hc : mm_code j = cc) (hd : decode cc pc = .ok (.invokestatic i, 3)) (hn : mm_cno j = cn) (hg : mm_cll cn i = some g) (h0 : g.2.1 = 1 ∨ g.2.1 = 2) (hk : g.2.2.1 = k) (hp : mm_np k = n) (hle : n ≤ st.length) (hdr : st.drop n = rest) (hta : (st.take n).reverse = as) (hr : mm_roomy j k n rest = true) :
    wp j pc lo st M Q ↔ wc k as M (fun r M' => wp j (pc + 3) lo (mm_rv r ++ rest) M' Q) :=
  wi_call hc hd (by
    show (if 3 = 3 then (match mm_cll (mm_cno j) i with | some e => mm_ins j e pc lo st M | none => none) else none) = _
    rw [if_pos rfl, hn, hg]
    simp only [mm_ins]
    rw [if_neg (by omega), hk, hp, hdr, hta, if_pos ⟨h0, hle, hr⟩])
theorem wi_cpy {na nb : Nat} {z dz sz : Int32} {a b : Nat} (hc : mm_code j = cc) (hd : decode cc pc = .ok (.invokestatic i, 3)) (hn : mm_cno j = cn) (hg : mm_cll cn i = some g) (h0 : g.2.1 = 3) (ha : mm_shape[a]? = some (.inr (false, na))) (hb : mm_shape[b]? = some (.inr (false, nb))) (hfr : 1 ≤ mm_fr j) (hlo : 26 ≤ mm_lo j) (hl : rest.length ≤ 8) :
    wp j pc lo (.inl z :: .inl dz :: .inr a :: .inl sz :: .inr b :: rest) M Q ↔ ((¬ sz < 0 ∧ ¬ dz < 0 ∧ ¬ z < 0 ∧ sz.toNatClampNeg + z.toNatClampNeg ≤ nb ∧ dz.toNatClampNeg + z.toNatClampNeg ≤ na) ∧ wp j (pc + 3) lo rest (mm_set M a (va_cpy (M b) (M a) sz.toNatClampNeg dz.toNatClampNeg z.toNatClampNeg)) Q) := by
  have e : mm_do j pc (.invokestatic i) 3 lo (.inl z :: .inl dz :: .inr a :: .inl sz :: .inr b :: rest) M = mm_cpy j pc lo (.inl z :: .inl dz :: .inr a :: .inl sz :: .inr b :: rest) M := by
    show (if 3 = 3 then (match mm_cll (mm_cno j) i with | some e => mm_ins j e pc lo _ M | none => none) else none) = _
    rw [if_pos rfl, hn, hg]
    simp only [mm_ins]
    rw [if_pos h0]
  simp only [mm_cpy, ha, hb] at e
  refine wi_and hc hd (fun h => ?_) (fun h => ?_)
  · rw [e, if_pos ⟨h, hfr, hlo, hl⟩]; rfl
  · rw [e, if_neg (fun q => h q.1)]
theorem wi_iret (hc : mm_code j = cc) (hd : decode cc pc = .ok (.ireturn, 1)) (hr : mm_ret j = some .int) : wp j pc lo [.inl x] M Q ↔ Q (some x) M :=
  wp_end ((mm_st_eq hc hd).trans (by
    show (if 1 = 1 then mm_rti j [.inl x] else none) = _
    rw [if_pos rfl]
    simp only [mm_rti]
    rw [if_pos (Or.inl hr)]))
theorem wi_zret (hc : mm_code j = cc) (hd : decode cc pc = .ok (.ireturn, 1)) (hr : mm_ret j = some .boolean) : wp j pc lo [.inl x] M Q ↔ ((x = 0 ∨ x = 1) ∧ Q (some x) M) := by
  have e : mm_do j pc .ireturn 1 lo [.inl x] M = (if mm_ret j = some .int ∨ (mm_ret j = some .boolean ∧ (x = 0 ∨ x = 1)) then some (.inr (.inr (some x))) else none) := rfl
  by_cases h : x = 0 ∨ x = 1
  · rw [if_pos (Or.inr ⟨hr, h⟩)] at e
    rw [wp_end ((mm_st_eq hc hd).trans e)]
    exact ⟨fun z => ⟨h, z⟩, fun z => z.2⟩
  · rw [if_neg (fun z => h (z.elim (fun z => by rw [hr] at z; cases z) (fun z => z.2)))] at e
    rw [wp_no ((mm_st_eq hc hd).trans e)]
    exact ⟨fun z => z.elim, fun z => h z.1⟩
theorem wi_vret (hc : mm_code j = cc) (hd : decode cc pc = .ok (.return_, 1)) (hr : mm_ret j = none) : wp j pc lo [] M Q ↔ Q none M :=
  wp_end ((mm_st_eq hc hd).trans (by
    show (if 1 = 1 then mm_rtv j [] else none) = _
    rw [if_pos rfl]
    simp only [mm_rtv]
    rw [if_pos hr]))
end WP
end
