/-! THE SMALL MACHINE: the same instructions over a memory of numbers: object o, place k. Its objects and their shape are fixed: they are those that the law's two objects hold once they are made. -/
abbrev mm_V : Type := Int32 ⊕ Nat
abbrev mm_M : Type := Nat → Nat → Int32
abbrev mm_L : Type := List (Option mm_V)
abbrev mm_F : Type := Nat × mm_L × List mm_V × mm_M
abbrev mm_R : Type := Option (mm_F ⊕ ((Nat × List mm_V × List mm_V) ⊕ Option Int32))
/-- a kind of object: its number among the kinds and its fields (none: a number; some r: the object r); or an array: of chars or ints, its length -/
abbrev mm_E : Type := (Nat × List (Option Nat)) ⊕ (Bool × Nat)
def mm_shape : List mm_E := [
  .inl (6, [some 1, some 3, some 5, some 7, some 9, some 15, some 22, some 26, some 29]),
  .inl (2, [none, none, none, some 2]), .inr (false, 120),
  .inl (2, [none, none, none, some 4]), .inr (false, 120),
  .inl (2, [none, none, none, some 6]), .inr (false, 120),
  .inl (1, [none, some 8]), .inr (false, 378),
  .inl (5, [none, none, some 10, some 11, some 12, some 13, some 14]), .inr (false, 48), .inr (false, 48), .inr (false, 48), .inr (false, 48), .inr (false, 48),
  .inl (4, [some 16, some 17, some 18, some 19, some 20, some 21]), .inr (false, 49), .inr (false, 49), .inr (false, 49), .inr (false, 49), .inr (false, 49), .inr (false, 49),
  .inl (0, [some 23, some 24, some 25]), .inr (false, 48), .inr (false, 48), .inr (false, 48),
  .inl (3, [none, none, some 27, some 28]), .inr (false, 120), .inr (false, 7),
  .inr (false, 48)]
def mm_up (M : mm_M) (o k : Nat) (v : Int32) : mm_M := fun o' => if o' = o then upd (M o) k v else M o'
def mm_set (M : mm_M) (o : Nat) (f : Nat → Int32) : mm_M := fun o' => if o' = o then f else M o'
/-- the two rows of units: objects 40 and 41 -/
def mm_ux : Nat → Int32 := fun j => match j with | 0 => 0 | 1 => 1 | 2 => 1 | 3 => 1 | 4 => 0 | 5 => -1 | 6 => -1 | _ => -1
def mm_uy : Nat → Int32 := fun j => match j with | 0 => 1 | 1 => 1 | 2 => 0 | 3 => -1 | 4 => -1 | 5 => -1 | 6 => 0 | _ => 1
abbrev mm_T : Type := ByteArray × MethodName × Nat × Option FieldType × Nat × Nat × Nat × Nat × Nat × Nat
def mm_tab_0 : List mm_T := [(cX0_begin, yX0_begin, 1, none, 0, 0, 1, 23, 504, 24), (cX0_compare, yX0_compare, 9, none, 0, 5, 4, 88, 509, 24), (cX0_alikeBeats, yX0_alikeBeats, 4, (some .int), 0, 1, 0, 0, 533, 24), (cX1_keep, yX1_keep, 4, none, 1, 1, 1, 26, 216, 21), (cX1_restore, yX1_restore, 4, none, 1, 1, 0, 0, 355, 21), (cX2_empty, yX2_empty, 2, none, 2, 1, 0, 0, 223, 20), (cX2_emptyAs, yX2_emptyAs, 2, none, 2, 1, 0, 0, 282, 20), (cX2_become, yX2_become, 2, none, 2, 1, 1, 26, 346, 20)]
def mm_tab_1 : List mm_T := [(cX2_at, yX2_at, 2, (some .int), 2, 1, 0, 0, 367, 20), (cX2_hasRoomFor, yX2_hasRoomFor, 6, (some .boolean), 2, 1, 2, 40, 249, 20), (cX2_put, yX2_put, 3, (some .int), 2, 1, 0, 0, 266, 20), (cX2_takeOut, yX2_takeOut, 3, none, 2, 1, 0, 0, 601, 20), (cX2_endOf, yX2_endOf, 4, (some .int), 2, 1, 2, 40, 376, 20), (cX2_numberCovering, yX2_numberCovering, 5, (some .int), 2, 2, 3, 63, 476, 20), (cX2_fillRow, yX2_fillRow, 6, none, 2, 2, 3, 63, 431, 20), (cX3_append, yX3_append, 2, none, 3, 1, 0, 0, 395, 25)]
def mm_tab_2 : List mm_T := [(cX3_readFor, yX3_readFor, 5, (some .int), 3, 2, 5, 125, 278, 25), (cX3_readItem, yX3_readItem, 8, (some .boolean), 3, 1, 4, 98, 289, 25), (cX3_spanOf, yX3_spanOf, 1, (some .int), 3, 1, 1, 20, 337, 25), (cX3_isTaken, yX3_isTaken, 2, (some .boolean), 3, 2, 1, 22, 341, 25), (cX3_readSign, yX3_readSign, 4, (some .int), 3, 3, 3, 75, 308, 25), (cX3_readMove, yX3_readMove, 6, (some .int), 3, 2, 2, 50, 312, 25), (cX3_readTurn, yX3_readTurn, 7, (some .int), 3, 2, 2, 49, 328, 25), (cX3_levelNamed, yX3_levelNamed, 1, (some .int), 3, 1, 0, 0, 315, 25)]
def mm_tab_3 : List mm_T := [(cX3_readLength, yX3_readLength, 3, (some .int), 3, 0, 1, 22, 319, 25), (cX3_readDigit, yX3_readDigit, 2, (some .int), 3, 0, 1, 22, 293, 25), (cX3_readCharacter, yX3_readCharacter, 2, (some .int), 3, 0, 0, 0, 304, 25), (cX3_digitAt, yX3_digitAt, 3, (some .int), 3, 1, 0, 0, 297, 25), (cX4_move, yX4_move, 5, (some .int), 4, 5, 1, 26, 238, 27), (cX4_hold, yX4_hold, 2, (some .int), 4, 2, 1, 26, 324, 27), (cX4_turn, yX4_turn, 4, (some .int), 4, 4, 1, 26, 331, 27), (cX4_release, yX4_release, 3, (some .int), 4, 3, 1, 26, 334, 27)]
def mm_tab_4 : List mm_T := [(cX4_packed, yX4_packed, 7, (some .int), 4, 7, 0, 0, 241, 27), (cX4_beginOf, yX4_beginOf, 1, (some .int), 4, 1, 0, 0, 252, 27), (cX4_columnOf, yX4_columnOf, 1, (some .int), 4, 1, 0, 0, 262, 27), (cX4_spanOf, yX4_spanOf, 1, (some .int), 4, 1, 0, 0, 259, 27), (cX4_kindOf, yX4_kindOf, 1, (some .int), 4, 1, 0, 0, 370, 27), (cX4_directionOf, yX4_directionOf, 1, (some .int), 4, 1, 0, 0, 381, 27), (cX4_levelOf, yX4_levelOf, 1, (some .int), 4, 1, 0, 0, 384, 27), (cX4_amountOf, yX4_amountOf, 1, (some .int), 4, 1, 0, 0, 387, 27)]
def mm_tab_5 : List mm_T := [(cX4_shortEndOf, yX4_shortEndOf, 1, (some .int), 4, 1, 1, 20, 255, 27), (cX4_lookOf, yX4_lookOf, 1, (some .int), 4, 1, 0, 0, 529, 27), (cX4_movedTo, yX4_movedTo, 2, (some .int), 4, 2, 1, 26, 613, 27), (cX4_turnedBack, yX4_turnedBack, 1, (some .int), 4, 1, 1, 26, 620, 27), (cX4_mirrored, yX4_mirrored, 1, (some .int), 4, 1, 1, 26, 517, 27), (cX4_mirroredColumn, yX4_mirroredColumn, 1, (some .int), 4, 1, 0, 0, 513, 27), (cX4_mirroredDirection, yX4_mirroredDirection, 1, (some .int), 4, 1, 0, 0, 524, 27), (cX5_follow, yX5_follow, 3, none, 5, 1, 3, 64, 541, 23)]
def mm_tab_6 : List mm_T := [(cX5_noteEnd, yX5_noteEnd, 3, none, 5, 1, 2, 42, 547, 23), (cX5_noteStep, yX5_noteStep, 3, none, 5, 2, 1, 20, 554, 23), (cX5_step, yX5_step, 6, none, 5, 3, 1, 22, 562, 23), (cX5_distanceAt, yX5_distanceAt, 2, (some .int), 5, 1, 1, 21, 585, 23), (cX6_weigh, yX6_weigh, 2, none, 6, 1, 5, 112, 422, 22), (cX6_weighSide, yX6_weighSide, 5, none, 6, 2, 4, 88, 427, 22), (cX6_canBear, yX6_canBear, 1, (some .boolean), 6, 1, 1, 20, 439, 22), (cX6_measureFlights, yX6_measureFlights, 3, none, 6, 0, 0, 0, 444, 22)]
def mm_tab_7 : List mm_T := [(cX6_isWrong, yX6_isWrong, 2, (some .boolean), 6, 1, 0, 0, 452, 22), (cX6_wrongBeats, yX6_wrongBeats, 3, (some .int), 6, 0, 1, 21, 448, 22), (cX6_beatsOn, yX6_beatsOn, 4, (some .int), 6, 1, 0, 0, 467, 22), (cX6_longestFlight, yX6_longestFlight, 3, (some .int), 6, 0, 1, 21, 456, 22), (cX6_flightCount, yX6_flightCount, 4, (some .int), 6, 0, 0, 0, 463, 22), (cX6_isAnyLegTold, yX6_isAnyLegTold, 2, (some .boolean), 6, 0, 0, 0, 489, 22), (cX7_reset, yX7_reset, 3, (some .int), 7, 1, 2, 49, 209, 19), (cX7_addMove, yX7_addMove, 6, (some .int), 7, 5, 4, 86, 227, 19)]
def mm_tab_8 : List mm_T := [(cJ9_max_7cf53, yJ9_max_7cf53, 2, (some .int), 10, 2, 0, 0, 459, 28), (cJ9_max_7cf53, yJ9_max_7cf53, 2, (some .int), 10, 2, 0, 0, 459, 28), (cJ9_max_7cf53, yJ9_max_7cf53, 2, (some .int), 10, 2, 0, 0, 459, 28), (cX7_removeSign, yX7_removeSign, 2, (some .int), 7, 1, 2, 49, 597, 19), (cX7_copyPhrase, yX7_copyPhrase, 9, (some .int), 7, 5, 4, 87, 605, 19), (cX7_setLeap, yX7_setLeap, 3, (some .int), 7, 1, 2, 49, 270, 19), (cX7_lay, yX7_lay, 1, (some .int), 7, 0, 6, 149, 274, 19), (cX7_undo, yX7_undo, 1, (some .int), 7, 0, 1, 23, 351, 19)]
def mm_tab_9 : List mm_T := [(cX7_count, yX7_count, 2, (some .int), 7, 1, 0, 0, 359, 19), (cX7_sign, yX7_sign, 5, (some .int), 7, 2, 3, 63, 363, 19), (cX7_signAt, yX7_signAt, 4, (some .int), 7, 2, 4, 87, 471, 19), (cJ9_max_7cf53, yJ9_max_7cf53, 2, (some .int), 10, 2, 0, 0, 459, 28), (cJ9_max_7cf53, yJ9_max_7cf53, 2, (some .int), 10, 2, 0, 0, 459, 28), (cX7_isFaulty, yX7_isFaulty, 2, (some .int), 7, 1, 6, 133, 577, 19), (cX7_nextFault, yX7_nextFault, 3, (some .int), 7, 1, 6, 133, 572, 19), (cX7_beats, yX7_beats, 2, (some .int), 7, 1, 6, 133, 418, 19)]
def mm_tab_10 : List mm_T := [(cX7_leastLeap, yX7_leastLeap, 1, (some .int), 7, 0, 6, 133, 485, 19), (cX7_covered, yX7_covered, 6, (some .int), 7, 2, 4, 88, 480, 19), (cX7_floor, yX7_floor, 3, (some .int), 7, 2, 4, 86, 537, 19), (cJ9_max_7cf53, yJ9_max_7cf53, 2, (some .int), 10, 2, 0, 0, 459, 28), (cX7_farthest, yX7_farthest, 3, (some .int), 7, 0, 4, 86, 581, 19), (cX7_alike, yX7_alike, 6, (some .int), 7, 4, 5, 116, 493, 19), (cX7_type, yX7_type, 2, (some .int), 7, 1, 1, 22, 391, 19), (cX7_clearText, yX7_clearText, 2, (some .int), 7, 0, 0, 0, 411, 19)]
def mm_tab_11 : List mm_T := [(cX7_fault, yX7_fault, 2, (some .int), 7, 0, 6, 149, 399, 19), (cX7_isWithin, yX7_isWithin, 3, (some .boolean), 7, 3, 0, 0, 212, 19), (cX7_isFlag, yX7_isFlag, 1, (some .boolean), 7, 1, 1, 22, 500, 19), (cX7_isColumn, yX7_isColumn, 1, (some .boolean), 7, 1, 1, 22, 300, 19), (cX7_isBeat, yX7_isBeat, 2, (some .boolean), 7, 1, 1, 22, 235, 19), (cX7_isSpan, yX7_isSpan, 3, (some .boolean), 7, 2, 2, 43, 231, 19), (cX7_isPhrase, yX7_isPhrase, 3, (some .boolean), 7, 2, 2, 43, 497, 19), (cX7_addSign, yX7_addSign, 2, (some .int), 7, 1, 3, 65, 245, 19)]
def mm_tab_12 : List mm_T := [(cX7_isInPhrase, yX7_isInPhrase, 3, (some .boolean), 7, 3, 2, 40, 609, 19), (cX7_copyOf, yX7_copyOf, 4, (some .int), 7, 3, 2, 46, 616, 19), (cX7_canTryPhrase, yX7_canTryPhrase, 3, (some .boolean), 7, 0, 3, 65, 624, 19)]
def mm_tab_13 : List mm_T := [(cL_cell, yL_cell, 2, (some .int), 8, 2, 0, 0, 402, 18)]
def mm_tab_14 : List mm_T := [(cL_types, yL_types, 14, (some .int), 8, 3, 7, 170, 407, 18)]
def mm_tab_15 : List mm_T := [(cL_holds, yL_holds, 8, (some .boolean), 8, 1, 7, 155, 414, 18)]
def mm_tab_16 : List mm_T := [(cL_copied, yL_copied, 14, (some .boolean), 8, 3, 8, 182, 593, 18)]
def mm_tab_17 : List mm_T := [(cJ9_max_7cf53, yJ9_max_7cf53, 2, (some .int), 10, 2, 0, 0, 459, 28), (cJ9_max_7cf53, yJ9_max_7cf53, 2, (some .int), 10, 2, 0, 0, 459, 28), (cJ9_max_7cf53, yJ9_max_7cf53, 2, (some .int), 10, 2, 0, 0, 459, 28), (cJ9_max_7cf53, yJ9_max_7cf53, 2, (some .int), 10, 2, 0, 0, 459, 28), (cJ9_max_7cf53, yJ9_max_7cf53, 2, (some .int), 10, 2, 0, 0, 459, 28), (cJ9_max_7cf53, yJ9_max_7cf53, 2, (some .int), 10, 2, 0, 0, 459, 28), (cJ9_max_7cf53, yJ9_max_7cf53, 2, (some .int), 10, 2, 0, 0, 459, 28), (cJ9_max_7cf53, yJ9_max_7cf53, 2, (some .int), 10, 2, 0, 0, 459, 28)]
def mm_tab_18 : List mm_T := [(cJ9_max_7cf53, yJ9_max_7cf53, 2, (some .int), 10, 2, 0, 0, 459, 28), (cJ9_max_7cf53, yJ9_max_7cf53, 2, (some .int), 10, 2, 0, 0, 459, 28), (cJ9_max_7cf53, yJ9_max_7cf53, 2, (some .int), 10, 2, 0, 0, 459, 28), (cJ9_max_7cf53, yJ9_max_7cf53, 2, (some .int), 10, 2, 0, 0, 459, 28), (cJ9_max_7cf53, yJ9_max_7cf53, 2, (some .int), 10, 2, 0, 0, 459, 28), (cJ9_max_7cf53, yJ9_max_7cf53, 2, (some .int), 10, 2, 0, 0, 459, 28), (cJ9_max_7cf53, yJ9_max_7cf53, 2, (some .int), 10, 2, 0, 0, 459, 28), (cJ9_max_7cf53, yJ9_max_7cf53, 2, (some .int), 10, 2, 0, 0, 459, 28)]
def mm_tab_19 : List mm_T := [(cJ9_max_7cf53, yJ9_max_7cf53, 2, (some .int), 10, 2, 0, 0, 459, 28), (cJ9_max_7cf53, yJ9_max_7cf53, 2, (some .int), 10, 2, 0, 0, 459, 28), (cJ9_max_7cf53, yJ9_max_7cf53, 2, (some .int), 10, 2, 0, 0, 459, 28), (cJ9_max_7cf53, yJ9_max_7cf53, 2, (some .int), 10, 2, 0, 0, 459, 28), (cJ9_max_7cf53, yJ9_max_7cf53, 2, (some .int), 10, 2, 0, 0, 459, 28), (cJ9_max_7cf53, yJ9_max_7cf53, 2, (some .int), 10, 2, 0, 0, 459, 28), (cJ9_max_7cf53, yJ9_max_7cf53, 2, (some .int), 10, 2, 0, 0, 459, 28), (cJ9_max_7cf53, yJ9_max_7cf53, 2, (some .int), 10, 2, 0, 0, 459, 28)]
def mm_tab_20 : List mm_T := [(cJ9_max_7cf53, yJ9_max_7cf53, 2, (some .int), 10, 2, 0, 0, 459, 28), (cJ9_max_7cf53, yJ9_max_7cf53, 2, (some .int), 10, 2, 0, 0, 459, 28), (cJ9_max_7cf53, yJ9_max_7cf53, 2, (some .int), 10, 2, 0, 0, 459, 28), (cJ9_max_7cf53, yJ9_max_7cf53, 2, (some .int), 10, 2, 0, 0, 459, 28), (cJ9_max_7cf53, yJ9_max_7cf53, 2, (some .int), 10, 2, 0, 0, 459, 28), (cJ9_max_7cf53, yJ9_max_7cf53, 2, (some .int), 10, 2, 0, 0, 459, 28), (cJ9_max_7cf53, yJ9_max_7cf53, 2, (some .int), 10, 2, 0, 0, 459, 28), (cJ9_max_7cf53, yJ9_max_7cf53, 2, (some .int), 10, 2, 0, 0, 459, 28)]
def mm_tab_21 : List mm_T := [(cJ9_max_7cf53, yJ9_max_7cf53, 2, (some .int), 10, 2, 0, 0, 459, 28), (cJ9_max_7cf53, yJ9_max_7cf53, 2, (some .int), 10, 2, 0, 0, 459, 28), (cJ9_max_7cf53, yJ9_max_7cf53, 2, (some .int), 10, 2, 0, 0, 459, 28), (cJ9_max_7cf53, yJ9_max_7cf53, 2, (some .int), 10, 2, 0, 0, 459, 28), (cJ9_max_7cf53, yJ9_max_7cf53, 2, (some .int), 10, 2, 0, 0, 459, 28), (cJ9_max_7cf53, yJ9_max_7cf53, 2, (some .int), 10, 2, 0, 0, 459, 28), (cJ9_max_7cf53, yJ9_max_7cf53, 2, (some .int), 10, 2, 0, 0, 459, 28), (cJ9_max_7cf53, yJ9_max_7cf53, 2, (some .int), 10, 2, 0, 0, 459, 28)]
def mm_tab_22 : List mm_T := [(cJ9_max_7cf53, yJ9_max_7cf53, 2, (some .int), 10, 2, 0, 0, 459, 28), (cJ9_max_7cf53, yJ9_max_7cf53, 2, (some .int), 10, 2, 0, 0, 459, 28), (cJ9_max_7cf53, yJ9_max_7cf53, 2, (some .int), 10, 2, 0, 0, 459, 28), (cJ9_max_7cf53, yJ9_max_7cf53, 2, (some .int), 10, 2, 0, 0, 459, 28), (cJ9_max_7cf53, yJ9_max_7cf53, 2, (some .int), 10, 2, 0, 0, 459, 28), (cJ9_max_7cf53, yJ9_max_7cf53, 2, (some .int), 10, 2, 0, 0, 459, 28), (cJ9_max_7cf53, yJ9_max_7cf53, 2, (some .int), 10, 2, 0, 0, 459, 28), (cJ9_max_7cf53, yJ9_max_7cf53, 2, (some .int), 10, 2, 0, 0, 459, 28)]
def mm_tab_23 : List mm_T := [(cJ9_max_7cf53, yJ9_max_7cf53, 2, (some .int), 10, 2, 0, 0, 459, 28), (cJ9_max_7cf53, yJ9_max_7cf53, 2, (some .int), 10, 2, 0, 0, 459, 28), (cJ9_max_7cf53, yJ9_max_7cf53, 2, (some .int), 10, 2, 0, 0, 459, 28), (cJ9_max_7cf53, yJ9_max_7cf53, 2, (some .int), 10, 2, 0, 0, 459, 28), (cJ9_max_7cf53, yJ9_max_7cf53, 2, (some .int), 10, 2, 0, 0, 459, 28), (cJ9_max_7cf53, yJ9_max_7cf53, 2, (some .int), 10, 2, 0, 0, 459, 28), (cJ9_max_7cf53, yJ9_max_7cf53, 2, (some .int), 10, 2, 0, 0, 459, 28), (cJ9_max_7cf53, yJ9_max_7cf53, 2, (some .int), 10, 2, 0, 0, 459, 28)]
def mm_tab_24 : List mm_T := [(cJ9_max_7cf53, yJ9_max_7cf53, 2, (some .int), 10, 2, 0, 0, 459, 28), (cJ9_max_7cf53, yJ9_max_7cf53, 2, (some .int), 10, 2, 0, 0, 459, 28), (cJ9_max_7cf53, yJ9_max_7cf53, 2, (some .int), 10, 2, 0, 0, 459, 28), (cJ9_max_7cf53, yJ9_max_7cf53, 2, (some .int), 10, 2, 0, 0, 459, 28), (cJ9_max_7cf53, yJ9_max_7cf53, 2, (some .int), 10, 2, 0, 0, 459, 28), (cJ9_floorMod_7cf53, yJ9_floorMod_7cf53, 3, (some .int), 10, 2, 0, 0, 558, 28), (cJ9_abs_0f7a4, yJ9_abs_0f7a4, 1, (some .int), 10, 1, 0, 0, 588, 28), (cJ9_max_7cf53, yJ9_max_7cf53, 2, (some .int), 10, 2, 0, 0, 459, 28)]
def mm_tab_25 : List mm_T := [(cJ9_min_7cf53, yJ9_min_7cf53, 2, (some .int), 10, 2, 0, 0, 436, 28), (cJ7_fill_53178, yJ7_fill_53178, 4, none, 9, 2, 0, 0, 285, 26)]
def mm_tab : List mm_T := mm_tab_0 ++ mm_tab_1 ++ mm_tab_2 ++ mm_tab_3 ++ mm_tab_4 ++ mm_tab_5 ++ mm_tab_6 ++ mm_tab_7 ++ mm_tab_8 ++ mm_tab_9 ++ mm_tab_10 ++ mm_tab_11 ++ mm_tab_12 ++ mm_tab_13 ++ mm_tab_14 ++ mm_tab_15 ++ mm_tab_16 ++ mm_tab_17 ++ mm_tab_18 ++ mm_tab_19 ++ mm_tab_20 ++ mm_tab_21 ++ mm_tab_22 ++ mm_tab_23 ++ mm_tab_24 ++ mm_tab_25
/-- the law itself: what lies behind the list -/
def mm_d0 : mm_T := (cL_law, yL_law, 12, (some .boolean), 8, 1, 9, 215, 0, 18)
def mm_rec (j : Nat) : mm_T := mm_tab.getD j mm_d0
def mm_code (j : Nat) : ByteArray := (mm_rec j).1
def mm_y (j : Nat) : MethodName := (mm_rec j).2.1
def mm_maxL (j : Nat) : Nat := (mm_rec j).2.2.1
def mm_ret (j : Nat) : Option FieldType := (mm_rec j).2.2.2.1
def mm_cno (j : Nat) : Nat := (mm_rec j).2.2.2.2.1
def mm_np (j : Nat) : Nat := (mm_rec j).2.2.2.2.2.1
def mm_fr (j : Nat) : Nat := (mm_rec j).2.2.2.2.2.2.1
def mm_lo (j : Nat) : Nat := (mm_rec j).2.2.2.2.2.2.2.1
def mm_icode (j : Nat) : Nat := (mm_rec j).2.2.2.2.2.2.2.2.1
def mm_iini (j : Nat) : Nat := (mm_rec j).2.2.2.2.2.2.2.2.2
/-- the names of the method's own kinds, by number -/
def mm_cn (k : Nat) : String := match k with
  | 0 => RX0 | 1 => RX1 | 2 => RX2 | 3 => RX3 | 4 => RX4 | 5 => RX5 | 6 => RX6 | 7 => RX7 | 8 => RL | 9 => RJ7 | _ => RJ9
/-- fields: (owner, entry), (kind, place, by nest, the word's place in the tables) -/
def mm_flds_0 : List ((Nat × Nat) × (Nat × Nat × Bool × Nat)) := [((0, 18), (0, 2, false, 150)), ((0, 9), (0, 0, false, 148)), ((0, 15), (0, 1, false, 149)), ((0, 39), (2, 0, true, 49)), ((1, 11), (1, 0, false, 78)), ((1, 15), (1, 1, false, 80)), ((1, 25), (2, 0, true, 47)), ((1, 30), (2, 1, true, 53)), ((1, 33), (2, 2, true, 57)), ((1, 34), (2, 3, true, 61)), ((2, 9), (2, 0, false, 44)), ((2, 18), (2, 2, false, 55)), ((2, 15), (2, 1, false, 51)), ((2, 21), (2, 3, false, 60)), ((3, 9), (3, 0, false, 164)), ((3, 18), (3, 2, false, 167))]
def mm_flds_1 : List ((Nat × Nat) × (Nat × Nat × Bool × Nat)) := [((3, 22), (3, 3, false, 168)), ((3, 15), (3, 1, false, 166)), ((3, 63), (2, 0, true, 50)), ((3, 73), (2, 2, true, 58)), ((5, 21), (4, 3, false, 126)), ((5, 24), (4, 4, false, 127)), ((5, 27), (4, 5, false, 128)), ((5, 36), (2, 2, true, 56)), ((5, 50), (2, 0, true, 48)), ((5, 18), (4, 2, false, 124)), ((5, 9), (4, 0, false, 120)), ((5, 15), (4, 1, false, 122)), ((6, 34), (2, 0, true, 45)), ((6, 9), (5, 0, false, 92)), ((6, 37), (2, 1, true, 52)), ((6, 15), (5, 1, false, 93))]
def mm_flds_2 : List ((Nat × Nat) × (Nat × Nat × Bool × Nat)) := [((6, 25), (5, 4, false, 96)), ((6, 28), (5, 5, false, 97)), ((6, 18), (5, 2, false, 94)), ((6, 22), (5, 3, false, 95)), ((6, 31), (5, 6, false, 98)), ((7, 10), (6, 0, false, 178)), ((7, 65), (2, 0, true, 46)), ((7, 25), (6, 3, false, 181)), ((7, 110), (2, 2, true, 59)), ((7, 16), (6, 1, false, 179)), ((7, 19), (6, 2, false, 180)), ((7, 153), (2, 1, true, 54)), ((7, 53), (6, 7, false, 185)), ((7, 160), (1, 0, true, 79)), ((7, 164), (3, 0, true, 165)), ((7, 32), (6, 4, false, 182))]
def mm_flds_3 : List ((Nat × Nat) × (Nat × Nat × Bool × Nat)) := [((7, 57), (6, 8, false, 186)), ((7, 39), (6, 5, false, 183)), ((7, 221), (4, 2, true, 125)), ((7, 224), (4, 0, true, 121)), ((7, 227), (4, 1, true, 123)), ((7, 46), (6, 6, false, 184))]
def mm_flds : List ((Nat × Nat) × (Nat × Nat × Bool × Nat)) := mm_flds_0 ++ mm_flds_1 ++ mm_flds_2 ++ mm_flds_3
/-- calls: (owner, entry), (0 virtual, 1 static, 2 static by nest, 3 arraycopy; method, kind of the receiver, places of the words) -/
def mm_calls_0 : List ((Nat × Nat) × (Nat × Nat × Nat × Nat × Nat × Nat × Nat)) := [((0, 21), (1, 168, 0, 505, 284, 26, 0)), ((0, 27), (0, 14, 2, 510, 429, 430, 20)), ((0, 33), (1, 45, 0, 511, 512, 27, 0)), ((0, 43), (1, 166, 0, 514, 458, 28, 0)), ((0, 49), (1, 44, 0, 515, 516, 27, 0)), ((0, 52), (1, 41, 0, 527, 528, 27, 0)), ((1, 19), (3, 0, 0, 217, 219, 218, 29)), ((2, 25), (3, 0, 0, 347, 219, 218, 29)), ((2, 31), (1, 33, 0, 250, 251, 27, 0)), ((2, 37), (1, 40, 0, 253, 254, 27, 0)), ((2, 40), (1, 34, 0, 260, 261, 27, 0)), ((2, 43), (0, 8, 2, 377, 365, 366, 20)), ((2, 46), (1, 36, 0, 378, 369, 27, 0)), ((2, 49), (0, 12, 2, 433, 374, 375, 20)), ((2, 52), (1, 168, 0, 432, 284, 26, 0)), ((2, 58), (1, 167, 0, 434, 435, 28, 0))]
def mm_calls_1 : List ((Nat × Nat) × (Nat × Nat × Nat × Nat × Nat × Nat × Nat)) := [((3, 25), (0, 6, 2, 279, 280, 281, 20)), ((3, 31), (1, 168, 0, 283, 284, 26, 0)), ((3, 37), (0, 17, 3, 286, 288, 3, 25)), ((3, 41), (0, 25, 3, 290, 292, 4, 25)), ((3, 45), (2, 91, 0, 298, 299, 19, 0)), ((3, 49), (0, 26, 3, 301, 303, 6, 25)), ((3, 52), (0, 20, 3, 305, 307, 7, 25)), ((3, 56), (0, 24, 3, 316, 318, 9, 25)), ((3, 59), (1, 18, 0, 335, 336, 25, 0)), ((3, 66), (1, 19, 0, 339, 340, 25, 0)), ((3, 70), (1, 35, 0, 338, 258, 27, 0)), ((3, 74), (0, 10, 2, 342, 264, 265, 20)), ((3, 77), (0, 21, 3, 309, 311, 8, 25)), ((3, 81), (1, 29, 0, 322, 323, 27, 0)), ((3, 84), (0, 22, 3, 325, 327, 10, 25)), ((3, 87), (1, 31, 0, 332, 333, 27, 0))]
def mm_calls_2 : List ((Nat × Nat) × (Nat × Nat × Nat × Nat × Nat × Nat × Nat)) := [((3, 90), (1, 23, 0, 313, 314, 25, 0)), ((3, 93), (2, 89, 0, 320, 211, 19, 0)), ((3, 97), (1, 28, 0, 321, 237, 27, 0)), ((3, 101), (1, 30, 0, 329, 330, 27, 0)), ((3, 105), (0, 27, 3, 294, 296, 5, 25)), ((4, 11), (1, 32, 0, 239, 240, 27, 0)), ((4, 15), (1, 33, 0, 256, 251, 27, 0)), ((4, 19), (1, 35, 0, 257, 258, 27, 0)), ((4, 22), (1, 34, 0, 518, 261, 27, 0)), ((4, 25), (1, 36, 0, 520, 369, 27, 0)), ((4, 28), (1, 37, 0, 521, 380, 27, 0)), ((4, 31), (1, 38, 0, 525, 383, 27, 0)), ((4, 34), (1, 39, 0, 526, 386, 27, 0)), ((4, 37), (1, 45, 0, 519, 512, 27, 0)), ((4, 40), (1, 46, 0, 522, 523, 27, 0)), ((5, 30), (1, 168, 0, 542, 284, 26, 0))]
def mm_calls_3 : List ((Nat × Nat) × (Nat × Nat × Nat × Nat × Nat × Nat × Nat)) := [((5, 42), (0, 8, 2, 543, 365, 366, 20)), ((5, 46), (0, 48, 4, 544, 546, 14, 23)), ((5, 53), (1, 164, 0, 556, 557, 28, 0)), ((5, 59), (0, 50, 4, 559, 561, 16, 23)), ((5, 63), (1, 40, 0, 548, 254, 27, 0)), ((5, 68), (1, 36, 0, 549, 369, 27, 0)), ((5, 71), (1, 39, 0, 550, 386, 27, 0)), ((5, 74), (0, 49, 4, 551, 553, 15, 23)), ((5, 78), (1, 34, 0, 555, 261, 27, 0)), ((5, 81), (1, 37, 0, 563, 380, 27, 0)), ((5, 84), (1, 33, 0, 564, 251, 27, 0)), ((5, 93), (1, 165, 0, 586, 587, 28, 0)), ((5, 96), (1, 166, 0, 589, 458, 28, 0)), ((6, 38), (1, 168, 0, 423, 284, 26, 0)), ((6, 44), (0, 53, 5, 424, 426, 11, 22)), ((6, 48), (0, 55, 5, 441, 443, 12, 22))]
def mm_calls_4 : List ((Nat × Nat) × (Nat × Nat × Nat × Nat × Nat × Nat × Nat)) := [((6, 51), (0, 14, 2, 428, 429, 430, 20)), ((6, 55), (1, 54, 0, 437, 438, 22, 0)), ((6, 59), (1, 36, 0, 440, 369, 27, 0)), ((6, 65), (0, 56, 5, 449, 450, 451, 22)), ((6, 68), (1, 166, 0, 457, 458, 28, 0)), ((7, 61), (1, 89, 0, 210, 211, 19, 0)), ((7, 69), (0, 3, 1, 213, 214, 215, 21)), ((7, 73), (0, 5, 2, 220, 221, 222, 20)), ((7, 77), (0, 93, 6, 228, 230, 0, 19)), ((7, 81), (1, 28, 0, 236, 237, 27, 0)), ((7, 87), (0, 95, 6, 242, 244, 2, 19)), ((7, 113), (0, 11, 2, 598, 599, 600, 20)), ((7, 116), (0, 94, 6, 494, 496, 13, 19)), ((7, 95), (0, 92, 6, 232, 234, 1, 19)), ((7, 119), (1, 90, 0, 498, 499, 19, 0)), ((7, 122), (0, 6, 2, 606, 280, 281, 20))]
def mm_calls_5 : List ((Nat × Nat) × (Nat × Nat × Nat × Nat × Nat × Nat × Nat)) := [((7, 125), (0, 8, 2, 364, 365, 366, 20)), ((7, 128), (1, 96, 0, 607, 608, 19, 0)), ((7, 131), (1, 40, 0, 610, 254, 27, 0)), ((7, 134), (1, 33, 0, 372, 251, 27, 0)), ((7, 137), (1, 42, 0, 611, 612, 27, 0)), ((7, 140), (1, 97, 0, 614, 615, 19, 0)), ((7, 143), (0, 10, 2, 263, 264, 265, 20)), ((7, 146), (0, 98, 6, 621, 623, 17, 19)), ((7, 150), (0, 7, 2, 343, 344, 345, 20)), ((7, 156), (0, 16, 3, 275, 276, 277, 25)), ((7, 161), (0, 4, 1, 352, 353, 354, 21)), ((7, 165), (1, 36, 0, 368, 369, 27, 0)), ((7, 168), (1, 34, 0, 371, 261, 27, 0)), ((7, 171), (0, 12, 2, 373, 374, 375, 20)), ((7, 174), (1, 37, 0, 379, 380, 27, 0)), ((7, 177), (1, 38, 0, 382, 383, 27, 0))]
def mm_calls_6 : List ((Nat × Nat) × (Nat × Nat × Nat × Nat × Nat × Nat × Nat)) := [((7, 180), (1, 39, 0, 385, 386, 27, 0)), ((7, 91), (1, 91, 0, 472, 299, 19, 0)), ((7, 183), (0, 13, 2, 473, 474, 475, 20)), ((7, 186), (0, 52, 5, 419, 420, 421, 22)), ((7, 195), (0, 56, 5, 573, 450, 451, 22)), ((7, 198), (0, 57, 5, 445, 446, 447, 22)), ((7, 202), (0, 59, 5, 453, 454, 455, 22)), ((7, 205), (0, 60, 5, 460, 461, 462, 22)), ((7, 208), (0, 58, 5, 464, 465, 466, 22)), ((7, 211), (0, 61, 5, 486, 487, 488, 22)), ((7, 214), (0, 14, 2, 481, 429, 430, 20)), ((7, 218), (0, 47, 4, 538, 539, 540, 23)), ((7, 230), (0, 51, 4, 582, 583, 584, 23)), ((7, 233), (1, 166, 0, 590, 458, 28, 0)), ((7, 238), (0, 0, 0, 501, 502, 503, 24)), ((7, 241), (0, 1, 0, 506, 507, 508, 24))]
def mm_calls_7 : List ((Nat × Nat) × (Nat × Nat × Nat × Nat × Nat × Nat × Nat)) := [((7, 245), (0, 2, 0, 530, 531, 532, 24)), ((7, 248), (0, 15, 3, 392, 393, 394, 25)), ((7, 251), (0, 9, 2, 246, 247, 248, 20)), ((7, 254), (1, 44, 0, 617, 516, 27, 0)), ((7, 257), (1, 43, 0, 618, 619, 27, 0)), ((8, 9), (0, 87, 6, 408, 409, 410, 19)), ((8, 15), (1, 99, 0, 400, 401, 18, 0)), ((8, 21), (0, 72, 6, 356, 357, 358, 19)), ((8, 25), (0, 86, 6, 388, 389, 390, 19)), ((8, 28), (0, 88, 6, 396, 397, 398, 19)), ((8, 31), (0, 79, 6, 415, 416, 417, 19)), ((8, 34), (0, 73, 6, 360, 361, 362, 19)), ((8, 38), (0, 74, 6, 468, 469, 470, 19)), ((8, 41), (0, 81, 6, 477, 478, 479, 19)), ((8, 44), (0, 80, 6, 482, 483, 484, 19)), ((8, 47), (0, 85, 6, 490, 491, 492, 19))]
def mm_calls_8 : List ((Nat × Nat) × (Nat × Nat × Nat × Nat × Nat × Nat × Nat)) := [((8, 51), (0, 82, 6, 534, 535, 536, 19)), ((8, 54), (0, 78, 6, 569, 570, 571, 19)), ((8, 57), (0, 77, 6, 574, 575, 576, 19)), ((8, 60), (0, 84, 6, 578, 579, 580, 19)), ((8, 63), (0, 67, 6, 594, 595, 596, 19)), ((8, 66), (0, 68, 6, 602, 603, 604, 19)), ((8, 70), (1, 101, 0, 412, 413, 18, 0)), ((8, 74), (0, 71, 6, 348, 349, 350, 19)), ((8, 78), (0, 70, 6, 271, 272, 273, 19)), ((8, 81), (0, 62, 6, 206, 207, 208, 19)), ((8, 84), (0, 69, 6, 267, 268, 269, 19)), ((8, 87), (1, 100, 0, 405, 406, 18, 0)), ((8, 91), (0, 63, 6, 224, 225, 226, 19)), ((8, 94), (1, 102, 0, 591, 592, 18, 0))]
def mm_calls : List ((Nat × Nat) × (Nat × Nat × Nat × Nat × Nat × Nat × Nat)) := mm_calls_0 ++ mm_calls_1 ++ mm_calls_2 ++ mm_calls_3 ++ mm_calls_4 ++ mm_calls_5 ++ mm_calls_6 ++ mm_calls_7 ++ mm_calls_8
/-- statics: (owner, entry), (the first row?, the word's place) -/
def mm_stats_0 : List ((Nat × Nat) × (Bool × Nat)) := [((5, 87), (true, 565)), ((5, 90), (false, 567))]
def mm_stats : List ((Nat × Nat) × (Bool × Nat)) := mm_stats_0
def mm_fld (c i : Nat) : Option ((Nat × Nat) × (Nat × Nat × Bool × Nat)) := mm_flds.find? (fun e => Nat.beq e.1.1 c && Nat.beq e.1.2 i)
def mm_cll (c i : Nat) : Option ((Nat × Nat) × (Nat × Nat × Nat × Nat × Nat × Nat × Nat)) := mm_calls.find? (fun e => Nat.beq e.1.1 c && Nat.beq e.1.2 i)
/-- constants: (owner, entry), (the number, the word's place) -/
def mm_csts_0 : List ((Nat × Nat) × (Int32 × Nat)) := [((8, 7), (15485959, 403)), ((8, 8), (2147483647, 404))]
def mm_csts : List ((Nat × Nat) × (Int32 × Nat)) := mm_csts_0
def mm_cst (c i : Nat) : Option ((Nat × Nat) × (Int32 × Nat)) := mm_csts.find? (fun e => Nat.beq e.1.1 c && Nat.beq e.1.2 i)
def mm_stt (c i : Nat) : Option ((Nat × Nat) × (Bool × Nat)) := mm_stats.find? (fun e => Nat.beq e.1.1 c && Nat.beq e.1.2 i)
-- steps
def mm_nx (pc : Nat) (lo : mm_L) (st : List mm_V) (M : mm_M) : mm_R := some (.inl (pc, lo, st, M))
def mm_jmp (pc : Nat) (off : Int) (lo : mm_L) (st : List mm_V) (M : mm_M) : mm_R := if 0 ≤ (pc : Int) + off then mm_nx ((pc : Int) + off).toNat lo st M else none
def mm_bin (f : Int32 → Int32 → Int32) (pc : Nat) (lo : mm_L) (st : List mm_V) (M : mm_M) : mm_R := match st with
  | .inl y :: .inl x :: r => mm_nx (pc + 1) lo (.inl (f x y) :: r) M
  | _ => none
def mm_un (f : Int32 → Int32) (pc : Nat) (lo : mm_L) (st : List mm_V) (M : mm_M) : mm_R := match st with
  | .inl x :: r => mm_nx (pc + 1) lo (.inl (f x) :: r) M
  | _ => none
def mm_ldi (k pc' : Nat) (lo : mm_L) (st : List mm_V) (M : mm_M) : mm_R := match lo[k]? with
  | some (some (.inl x)) => mm_nx pc' lo (.inl x :: st) M
  | _ => none
def mm_lda (k pc' : Nat) (lo : mm_L) (st : List mm_V) (M : mm_M) : mm_R := match lo[k]? with
  | some (some (.inr x)) => mm_nx pc' lo (.inr x :: st) M
  | _ => none
def mm_sti (k pc' : Nat) (lo : mm_L) (st : List mm_V) (M : mm_M) : mm_R := match st with
  | .inl x :: r => if k < lo.length then mm_nx pc' (lo.set k (some (.inl x))) r M else none
  | _ => none
def mm_inc (k : Nat) (n : Int) (pc' : Nat) (lo : mm_L) (st : List mm_V) (M : mm_M) : mm_R := match lo[k]? with
  | some (some (.inl x)) => mm_nx pc' (lo.set k (some (.inl (x + Int32.ofInt n)))) st M
  | _ => none
def mm_if (c : ClassFile.Cond) (x y : Int32) : Bool := match c with
  | .eq => decide (x = y) | .ne => decide (¬ x = y) | .lt => decide (x < y) | .ge => decide (y ≤ x) | .gt => decide (y < x) | .le => decide (x ≤ y)
def mm_br (b : Bool) (pc : Nat) (off : Int) (lo : mm_L) (st : List mm_V) (M : mm_M) : mm_R := if 0 ≤ (pc : Int) + off then mm_nx (if b = true then ((pc : Int) + off).toNat else pc + 3) lo st M else none
def mm_if1 (c : ClassFile.Cond) (pc : Nat) (off : Int) (lo : mm_L) (st : List mm_V) (M : mm_M) : mm_R := match st with
  | .inl x :: r => mm_br (mm_if c x 0) pc off lo r M
  | _ => none
def mm_if2 (c : ClassFile.Cond) (pc : Nat) (off : Int) (lo : mm_L) (st : List mm_V) (M : mm_M) : mm_R := match st with
  | .inl y :: .inl x :: r => mm_br (mm_if c x y) pc off lo r M
  | _ => none
def mm_tsw (d lo' hi : Int) (offs : Array Int) (pc : Nat) (lo : mm_L) (st : List mm_V) (M : mm_M) : mm_R := match st with
  | .inl x :: r => if x.toInt < lo' ∨ hi < x.toInt then mm_jmp pc d lo r M else match offs[(x.toInt - lo').toNat]? with
    | some off => mm_jmp pc off lo r M
    | none => none
  | _ => none
def mm_lsw (d : Int) (ps : Array (Int × Int)) (pc : Nat) (lo : mm_L) (st : List mm_V) (M : mm_M) : mm_R := match st with
  | .inl x :: r => if (ps.toList.zip (ps.toList.drop 1)).all (fun (a, next) => a.1 < next.1) = true then mm_jmp pc (Op.lookupswitch.offset ps.toList d x.toInt) lo r M else none
  | _ => none
def mm_get (e : (Nat × Nat) × (Nat × Nat × Bool × Nat)) (pc : Nat) (lo : mm_L) (st : List mm_V) (M : mm_M) : mm_R := match st with
  | .inr o :: r => match mm_shape[o]? with
    | some (.inl (ci, fs)) => if ci = e.2.1 then match fs[e.2.2.1]? with
        | some none => mm_nx (pc + 3) lo (.inl (M o e.2.2.1) :: r) M
        | some (some q) => mm_nx (pc + 3) lo (.inr q :: r) M
        | none => none
      else none
    | _ => none
  | _ => none
def mm_put (e : (Nat × Nat) × (Nat × Nat × Bool × Nat)) (pc : Nat) (lo : mm_L) (st : List mm_V) (M : mm_M) : mm_R := match st with
  | .inl v :: .inr o :: r => match mm_shape[o]? with
    | some (.inl (ci, fs)) => if ci = e.2.1 then match fs[e.2.2.1]? with
        | some none => mm_nx (pc + 3) lo r (mm_up M o e.2.2.1 v)
        | _ => none
      else none
    | _ => none
  | _ => none
def mm_ald (ch : Bool) (pc : Nat) (lo : mm_L) (st : List mm_V) (M : mm_M) : mm_R := match st with
  | .inl i :: .inr o :: r => match mm_shape[o]? with
    | some (.inr (c, n)) => if c = ch ∧ ¬ (i < 0 ∨ n ≤ i.toNatClampNeg) then mm_nx (pc + 1) lo (.inl (M o i.toNatClampNeg) :: r) M else none
    | some (.inl _) => none
    | none => if o = 42 then (if ch = false ∧ ¬ (i < 0 ∨ (M 43 0).toNatClampNeg ≤ i.toNatClampNeg) then mm_nx (pc + 1) lo (.inl (M 42 i.toNatClampNeg) :: r) M else none) else if ch = false ∧ (o = 40 ∨ o = 41) ∧ ¬ (i < 0 ∨ 8 ≤ i.toNatClampNeg) then mm_nx (pc + 1) lo (.inl ((if o = 40 then mm_ux else mm_uy) i.toNatClampNeg) :: r) M else none
  | _ => none
def mm_ast (ch : Bool) (pc : Nat) (lo : mm_L) (st : List mm_V) (M : mm_M) : mm_R := match st with
  | .inl v :: .inl i :: .inr o :: r => match mm_shape[o]? with
    | some (.inr (c, n)) => if c = ch ∧ ¬ (i < 0 ∨ n ≤ i.toNatClampNeg) then mm_nx (pc + 1) lo r (mm_up M o i.toNatClampNeg (if ch = true then vp_nar .char v else v)) else none
    | _ => none
  | _ => none
def mm_len (pc : Nat) (lo : mm_L) (st : List mm_V) (M : mm_M) : mm_R := match st with
  | .inr o :: r => match mm_shape[o]? with
    | some (.inr (false, n)) => mm_nx (pc + 1) lo (.inl (Int32.ofNat n) :: r) M
    | some (.inr (true, _)) => none
    | some (.inl _) => none
    | none => if o = 42 then mm_nx (pc + 1) lo (.inl (M 43 0) :: r) M else none
  | _ => none
def mm_gst (e : (Nat × Nat) × (Bool × Nat)) (pc : Nat) (lo : mm_L) (st : List mm_V) (M : mm_M) : mm_R := mm_nx (pc + 3) lo (.inr (if e.2.1 = true then 40 else 41) :: st) M
def mm_roomy (j k na : Nat) (r : List mm_V) : Bool := Nat.ble (mm_fr k + 1) (mm_fr j) && Nat.ble (8 + (mm_maxL k + 11) + mm_lo k) (mm_lo j) && Nat.ble r.length 8 && Nat.ble na (mm_maxL k)
def mm_cpy (j pc : Nat) (lo : mm_L) (st : List mm_V) (M : mm_M) : mm_R := match st with
  | .inl n :: .inl dp :: .inr a :: .inl sp :: .inr b :: r => match mm_shape[a]?, mm_shape[b]? with
    | some (.inr (false, na)), some (.inr (false, nb)) =>
      if (¬ sp < 0 ∧ ¬ dp < 0 ∧ ¬ n < 0 ∧ sp.toNatClampNeg + n.toNatClampNeg ≤ nb ∧ dp.toNatClampNeg + n.toNatClampNeg ≤ na) ∧ 1 ≤ mm_fr j ∧ 26 ≤ mm_lo j ∧ r.length ≤ 8 then mm_nx (pc + 3) lo r (mm_set M a (va_cpy (M b) (M a) sp.toNatClampNeg dp.toNatClampNeg n.toNatClampNeg)) else none
    | _, _ => none
  | _ => none
def mm_inv (j : Nat) (e : (Nat × Nat) × (Nat × Nat × Nat × Nat × Nat × Nat × Nat)) (st : List mm_V) : mm_R :=
  match st.drop (mm_np e.2.2.1) with
  | .inr o :: r => match mm_shape[o]? with
    | some (.inl (ci, _)) => if e.2.1 = 0 ∧ ci = e.2.2.2.1 ∧ mm_roomy j e.2.2.1 (mm_np e.2.2.1 + 1) r = true then some (.inr (.inl (e.2.2.1, .inr o :: (st.take (mm_np e.2.2.1)).reverse, r))) else none
    | _ => none
  | _ => none
def mm_ins (j : Nat) (e : (Nat × Nat) × (Nat × Nat × Nat × Nat × Nat × Nat × Nat)) (pc : Nat) (lo : mm_L) (st : List mm_V) (M : mm_M) : mm_R :=
  if e.2.1 = 3 then mm_cpy j pc lo st M
  else if (e.2.1 = 1 ∨ e.2.1 = 2) ∧ mm_np e.2.2.1 ≤ st.length ∧ mm_roomy j e.2.2.1 (mm_np e.2.2.1) (st.drop (mm_np e.2.2.1)) = true then some (.inr (.inl (e.2.2.1, (st.take (mm_np e.2.2.1)).reverse, st.drop (mm_np e.2.2.1)))) else none
def mm_rti (j : Nat) (st : List mm_V) : mm_R := match st with
  | [.inl v] => if mm_ret j = some .int ∨ (mm_ret j = some .boolean ∧ (v = 0 ∨ v = 1)) then some (.inr (.inr (some v))) else none
  | _ => none
def mm_rtv (j : Nat) (st : List mm_V) : mm_R := match st with
  | [] => if mm_ret j = none then some (.inr (.inr none)) else none
  | _ => none
/-- one instruction -/
def mm_do (j pc : Nat) (i : Instr) (n : Nat) (lo : mm_L) (st : List mm_V) (M : mm_M) : mm_R := match i with
  | .iconst v => if n = 1 then mm_nx (pc + 1) lo (.inl (Int32.ofInt v) :: st) M else none
  | .bipush v => if n = 2 then mm_nx (pc + 2) lo (.inl (Int8.ofInt v).toInt32 :: st) M else none
  | .sipush v => if n = 3 then mm_nx (pc + 3) lo (.inl (Int16.ofInt v).toInt32 :: st) M else none
  | .iload_n k => if n = 1 then mm_ldi k.val (pc + 1) lo st M else none
  | .iload k => if n = 2 then mm_ldi k (pc + 2) lo st M else none
  | .aload_n k => if n = 1 then mm_lda k.val (pc + 1) lo st M else none
  | .aload k => if n = 2 then mm_lda k (pc + 2) lo st M else none
  | .istore_n k => if n = 1 then mm_sti k.val (pc + 1) lo st M else none
  | .istore k => if n = 2 then mm_sti k (pc + 2) lo st M else none
  | .iinc k v => if n = 3 then mm_inc k v (pc + 3) lo st M else none
  | .iadd => if n = 1 then mm_bin (fun x y => x + y) pc lo st M else none
  | .isub => if n = 1 then mm_bin (fun x y => x - y) pc lo st M else none
  | .imul => if n = 1 then mm_bin (fun x y => x * y) pc lo st M else none
  | .iand => if n = 1 then mm_bin (fun x y => x &&& y) pc lo st M else none
  | .ior => if n = 1 then mm_bin (fun x y => x ||| y) pc lo st M else none
  | .ixor => if n = 1 then mm_bin (fun x y => x ^^^ y) pc lo st M else none
  | .ishl => if n = 1 then mm_bin (fun x y => x <<< (y &&& 31)) pc lo st M else none
  | .ishr => if n = 1 then mm_bin (fun x y => x >>> (y &&& 31)) pc lo st M else none
  | .idiv => if n = 1 ∧ st.head? ≠ some (.inl 0) then mm_bin (fun x y => x / y) pc lo st M else none
  | .ldc k => if n = 2 then (match mm_cst (mm_cno j) k with | some e => mm_nx (pc + 2) lo (.inl e.2.1 :: st) M | none => none) else none
  | .irem => if n = 1 ∧ st.head? ≠ some (.inl 0) then mm_bin (fun x y => x - x / y * y) pc lo st M else none
  | .ineg => if n = 1 then mm_un (fun x => -x) pc lo st M else none
  | .i2c => if n = 1 then mm_un (fun x => (x.toUInt32 % 65536).toInt32) pc lo st M else none
  | .dup => if n = 1 then (match st with | v :: r => mm_nx (pc + 1) lo (v :: v :: r) M | _ => none) else none
  | .dup2 => if n = 1 then (match st with | v :: w :: r => mm_nx (pc + 1) lo (v :: w :: v :: w :: r) M | _ => none) else none
  | .pop => if n = 1 then (match st with | _ :: r => mm_nx (pc + 1) lo r M | _ => none) else none
  | .goto off => if n = 3 then mm_jmp pc off lo st M else none
  | .ifCond c off => if n = 3 then mm_if1 c pc off lo st M else none
  | .if_icmp c off => if n = 3 then mm_if2 c pc off lo st M else none
  | .tableswitch d l h offs => mm_tsw d l h offs pc lo st M
  | .lookupswitch d ps => mm_lsw d ps pc lo st M
  | .getfield k => if n = 3 then (match mm_fld (mm_cno j) k with | some e => mm_get e pc lo st M | none => none) else none
  | .putfield k => if n = 3 then (match mm_fld (mm_cno j) k with | some e => mm_put e pc lo st M | none => none) else none
  | .getstatic k => if n = 3 then (match mm_stt (mm_cno j) k with | some e => mm_gst e pc lo st M | none => none) else none
  | .iaload => if n = 1 then mm_ald false pc lo st M else none
  | .iastore => if n = 1 then mm_ast false pc lo st M else none
  | .arraylength => if n = 1 then mm_len pc lo st M else none
  | .invokevirtual k => if n = 3 then (match mm_cll (mm_cno j) k with | some e => mm_inv j e st | none => none) else none
  | .invokestatic k => if n = 3 then (match mm_cll (mm_cno j) k with | some e => mm_ins j e pc lo st M | none => none) else none
  | .ireturn => if n = 1 then mm_rti j st else none
  | .return_ => if n = 1 then mm_rtv j st else none
  | _ => none
def mm_step (j pc : Nat) (lo : mm_L) (st : List mm_V) (M : mm_M) : mm_R := match decode (mm_code j) pc with
  | .ok q => mm_do j pc q.1 q.2 lo st M
  | .error _ => none
def mm_ent (k : Nat) (as : List mm_V) : mm_L := as.map some ++ List.replicate (mm_maxL k - as.length) none
def mm_rv (r : Option Int32) : List mm_V := match r with | some v => [.inl v] | none => []
def mm_run : Nat → Nat → Nat → mm_L → List mm_V → mm_M → Option (Option Int32 × mm_M)
  | 0, _, _, _, _, _ => none
  | n + 1, j, pc, lo, st, M => match mm_step j pc lo st M with
    | some (.inl q) => mm_run n j q.1 q.2.1 q.2.2.1 q.2.2.2
    | some (.inr (.inl q)) => match mm_run n q.1 0 (mm_ent q.1 q.2.1) [] M with
      | some a => mm_run n j (pc + 3) lo (mm_rv a.1 ++ q.2.2) a.2
      | none => none
    | some (.inr (.inr r)) => some (r, M)
    | none => none
