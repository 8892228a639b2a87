/-! THE SMALL MACHINE: the same instructions over a memory of numbers: object o, place k. Its objects and their shape are fixed: they are those that the law's two objects hold once they are made. -/
abbrev mm_V : Type := Int32 ⊕ Nat
abbrev mm_M : Type := Nat → Nat → Int32
abbrev mm_L : Type := List (Option mm_V)
abbrev mm_F : Type := Nat × mm_L × List mm_V × mm_M
abbrev mm_R : Type := Option (mm_F ⊕ ((Nat × List mm_V × List mm_V) ⊕ Option Int32))
/-- a kind of object: its number among the kinds and its fields (none: a number; some r: the object r); or an array: of chars or ints, its length -/
abbrev mm_E : Type := (Nat × List (Option Nat)) ⊕ (Bool × Nat)
def mm_shape : List mm_E := [
  .inl (6, [some 1, some 3, some 5, some 7, some 9, some 15, some 22, some 26, some 29]),
  .inl (2, [none, none, none, some 2]), .inr (false, 120),
  .inl (2, [none, none, none, some 4]), .inr (false, 120),
  .inl (2, [none, none, none, some 6]), .inr (false, 120),
  .inl (1, [none, some 8]), .inr (false, 378),
  .inl (5, [none, none, some 10, some 11, some 12, some 13, some 14]), .inr (false, 48), .inr (false, 48), .inr (false, 48), .inr (false, 48), .inr (false, 48),
  .inl (4, [some 16, some 17, some 18, some 19, some 20, some 21]), .inr (false, 49), .inr (false, 49), .inr (false, 49), .inr (false, 49), .inr (false, 49), .inr (false, 49),
  .inl (0, [some 23, some 24, some 25]), .inr (false, 48), .inr (false, 48), .inr (false, 48),
  .inl (3, [none, none, some 27, some 28]), .inr (false, 120), .inr (false, 7),
  .inr (false, 48),
  .inl (7, [some 31, some 32, none, some 33, some 34, none, none, some 35, some 36, some 37]), .inr (false, 723), .inr (false, 4338), .inr (false, 723), .inr (true, 120), .inr (false, 7), .inr (false, 360), .inr (false, 336)]
def mm_up (M : mm_M) (o k : Nat) (v : Int32) : mm_M := fun o' => if o' = o then upd (M o) k v else M o'
def mm_set (M : mm_M) (o : Nat) (f : Nat → Int32) : mm_M := fun o' => if o' = o then f else M o'
/-- the two rows of units: objects 40 and 41 -/
def mm_ux : Nat → Int32 := fun j => match j with | 0 => 0 | 1 => 1 | 2 => 1 | 3 => 1 | 4 => 0 | 5 => -1 | 6 => -1 | _ => -1
def mm_uy : Nat → Int32 := fun j => match j with | 0 => 1 | 1 => 1 | 2 => 0 | 3 => -1 | 4 => -1 | 5 => -1 | 6 => 0 | _ => 1
abbrev mm_T : Type := ByteArray × MethodName × Nat × Option FieldType × Nat × Nat × Nat × Nat × Nat × Nat
def mm_tab_0 : List mm_T := [(cX0_begin, yX0_begin, 1, none, 0, 0, 1, 23, 640, 56), (cX0_compare, yX0_compare, 9, none, 0, 5, 4, 88, 645, 56), (cX0_alikeBeats, yX0_alikeBeats, 4, (some .int), 0, 1, 0, 0, 656, 56), (cX1_keep, yX1_keep, 4, none, 1, 1, 1, 26, 251, 53), (cX1_restore, yX1_restore, 4, none, 1, 1, 0, 0, 470, 53), (cX2_empty, yX2_empty, 2, none, 2, 1, 0, 0, 258, 52), (cX2_emptyAs, yX2_emptyAs, 2, none, 2, 1, 0, 0, 348, 52), (cX2_become, yX2_become, 2, none, 2, 1, 1, 26, 396, 52)]
def mm_tab_1 : List mm_T := [(cX2_at, yX2_at, 2, (some .int), 2, 1, 0, 0, 352, 52), (cX2_hasRoomFor, yX2_hasRoomFor, 6, (some .boolean), 2, 1, 2, 40, 284, 52), (cX2_put, yX2_put, 3, (some .int), 2, 1, 0, 0, 301, 52), (cX2_takeOut, yX2_takeOut, 3, none, 2, 1, 0, 0, 333, 52), (cX2_endOf, yX2_endOf, 4, (some .int), 2, 1, 2, 40, 484, 52), (cX2_numberCovering, yX2_numberCovering, 5, (some .int), 2, 2, 3, 63, 497, 52), (cX2_fillRow, yX2_fillRow, 6, none, 2, 2, 3, 63, 515, 52), (cX3_append, yX3_append, 2, none, 3, 1, 0, 0, 664, 57)]
def mm_tab_2 : List mm_T := [(cX3_readFor, yX3_readFor, 5, (some .int), 3, 2, 5, 125, 409, 57), (cX3_readItem, yX3_readItem, 8, (some .boolean), 3, 1, 4, 98, 417, 57), (cX3_spanOf, yX3_spanOf, 1, (some .int), 3, 1, 1, 20, 457, 57), (cX3_isTaken, yX3_isTaken, 2, (some .boolean), 3, 2, 1, 22, 461, 57), (cX3_readSign, yX3_readSign, 4, (some .int), 3, 3, 3, 75, 434, 57), (cX3_readMove, yX3_readMove, 6, (some .int), 3, 2, 2, 50, 438, 57), (cX3_readTurn, yX3_readTurn, 7, (some .int), 3, 2, 2, 49, 452, 57), (cX3_levelNamed, yX3_levelNamed, 1, (some .int), 3, 1, 0, 0, 441, 57)]
def mm_tab_3 : List mm_T := [(cX3_readLength, yX3_readLength, 3, (some .int), 3, 0, 1, 22, 445, 57), (cX3_readDigit, yX3_readDigit, 2, (some .int), 3, 0, 1, 22, 421, 57), (cX3_readCharacter, yX3_readCharacter, 2, (some .int), 3, 0, 0, 0, 430, 57), (cX3_digitAt, yX3_digitAt, 3, (some .int), 3, 1, 0, 0, 425, 57), (cX4_move, yX4_move, 5, (some .int), 4, 5, 1, 26, 273, 60), (cX4_hold, yX4_hold, 2, (some .int), 4, 2, 1, 26, 311, 60), (cX4_turn, yX4_turn, 4, (some .int), 4, 4, 1, 26, 318, 60), (cX4_release, yX4_release, 3, (some .int), 4, 3, 1, 26, 325, 60)]
def mm_tab_4 : List mm_T := [(cX4_packed, yX4_packed, 7, (some .int), 4, 7, 0, 0, 276, 60), (cX4_beginOf, yX4_beginOf, 1, (some .int), 4, 1, 0, 0, 287, 60), (cX4_columnOf, yX4_columnOf, 1, (some .int), 4, 1, 0, 0, 297, 60), (cX4_spanOf, yX4_spanOf, 1, (some .int), 4, 1, 0, 0, 294, 60), (cX4_kindOf, yX4_kindOf, 1, (some .int), 4, 1, 0, 0, 364, 60), (cX4_directionOf, yX4_directionOf, 1, (some .int), 4, 1, 0, 0, 367, 60), (cX4_levelOf, yX4_levelOf, 1, (some .int), 4, 1, 0, 0, 370, 60), (cX4_amountOf, yX4_amountOf, 1, (some .int), 4, 1, 0, 0, 373, 60)]
def mm_tab_5 : List mm_T := [(cX4_shortEndOf, yX4_shortEndOf, 1, (some .int), 4, 1, 1, 20, 290, 60), (cX4_lookOf, yX4_lookOf, 1, (some .int), 4, 1, 0, 0, 652, 60), (cX4_movedTo, yX4_movedTo, 2, (some .int), 4, 2, 1, 26, 360, 60), (cX4_turnedBack, yX4_turnedBack, 1, (some .int), 4, 1, 1, 26, 388, 60), (cX4_mirrored, yX4_mirrored, 1, (some .int), 4, 1, 1, 26, 379, 60), (cX4_mirroredColumn, yX4_mirroredColumn, 1, (some .int), 4, 1, 0, 0, 382, 60), (cX4_mirroredDirection, yX4_mirroredDirection, 1, (some .int), 4, 1, 0, 0, 385, 60), (cX5_follow, yX5_follow, 3, none, 5, 1, 3, 64, 588, 55)]
def mm_tab_6 : List mm_T := [(cX5_noteEnd, yX5_noteEnd, 3, none, 5, 1, 2, 42, 594, 55), (cX5_noteStep, yX5_noteStep, 3, none, 5, 2, 1, 20, 601, 55), (cX5_step, yX5_step, 6, none, 5, 3, 1, 22, 609, 55), (cX5_distanceAt, yX5_distanceAt, 2, (some .int), 5, 1, 1, 21, 623, 55), (cX6_weigh, yX6_weigh, 2, none, 6, 1, 5, 112, 506, 54), (cX6_weighSide, yX6_weighSide, 5, none, 6, 2, 4, 88, 511, 54), (cX6_canBear, yX6_canBear, 1, (some .boolean), 6, 1, 1, 20, 522, 54), (cX6_measureFlights, yX6_measureFlights, 3, none, 6, 0, 0, 0, 527, 54)]
def mm_tab_7 : List mm_T := [(cX6_isWrong, yX6_isWrong, 2, (some .boolean), 6, 1, 0, 0, 539, 54), (cX6_wrongBeats, yX6_wrongBeats, 3, (some .int), 6, 0, 1, 21, 551, 54), (cX6_beatsOn, yX6_beatsOn, 4, (some .int), 6, 1, 0, 0, 567, 54), (cX6_longestFlight, yX6_longestFlight, 3, (some .int), 6, 0, 1, 21, 556, 54), (cX6_flightCount, yX6_flightCount, 4, (some .int), 6, 0, 0, 0, 563, 54), (cX6_isAnyLegTold, yX6_isAnyLegTold, 2, (some .boolean), 6, 0, 0, 0, 575, 54), (cX7_reset, yX7_reset, 3, (some .int), 7, 1, 2, 49, 244, 51), (cX7_addMove, yX7_addMove, 6, (some .int), 7, 5, 4, 86, 262, 51)]
def mm_tab_8 : List mm_T := [(cX7_addHold, yX7_addHold, 3, (some .int), 7, 2, 4, 86, 305, 51), (cX7_addTurn, yX7_addTurn, 4, (some .int), 7, 3, 4, 86, 315, 51), (cX7_addRelease, yX7_addRelease, 4, (some .int), 7, 3, 4, 86, 322, 51), (cX7_removeSign, yX7_removeSign, 2, (some .int), 7, 1, 2, 49, 329, 51), (cX7_copyPhrase, yX7_copyPhrase, 9, (some .int), 7, 5, 4, 87, 337, 51), (cX7_setLeap, yX7_setLeap, 3, (some .int), 7, 1, 2, 49, 401, 51), (cX7_lay, yX7_lay, 1, (some .int), 7, 0, 6, 149, 405, 51), (cX7_undo, yX7_undo, 1, (some .int), 7, 0, 1, 23, 466, 51)]
def mm_tab_9 : List mm_T := [(cX7_count, yX7_count, 2, (some .int), 7, 1, 0, 0, 474, 51), (cX7_sign, yX7_sign, 5, (some .int), 7, 2, 3, 63, 478, 51), (cX7_signAt, yX7_signAt, 4, (some .int), 7, 2, 4, 87, 493, 51), (cX7_bears, yX7_bears, 2, (some .int), 7, 1, 6, 133, 502, 51), (cX7_toldTwice, yX7_toldTwice, 2, (some .int), 7, 1, 6, 133, 531, 51), (cX7_isFaulty, yX7_isFaulty, 2, (some .int), 7, 1, 6, 133, 535, 51), (cX7_nextFault, yX7_nextFault, 3, (some .int), 7, 1, 6, 133, 543, 51), (cX7_beats, yX7_beats, 2, (some .int), 7, 1, 6, 133, 547, 51)]
def mm_tab_10 : List mm_T := [(cX7_leastLeap, yX7_leastLeap, 1, (some .int), 7, 0, 6, 133, 571, 51), (cX7_covered, yX7_covered, 6, (some .int), 7, 2, 4, 88, 579, 51), (cX7_floor, yX7_floor, 3, (some .int), 7, 2, 4, 86, 584, 51), (cX7_home, yX7_home, 3, (some .int), 7, 0, 4, 86, 619, 51), (cX7_farthest, yX7_farthest, 3, (some .int), 7, 0, 4, 86, 631, 51), (cX7_alike, yX7_alike, 6, (some .int), 7, 4, 5, 116, 636, 51), (cX7_type, yX7_type, 2, (some .int), 7, 1, 1, 22, 660, 51), (cX7_clearText, yX7_clearText, 2, (some .int), 7, 0, 0, 0, 668, 51)]
def mm_tab_11 : List mm_T := [(cX7_fault, yX7_fault, 2, (some .int), 7, 0, 6, 149, 672, 51), (cX7_isWithin, yX7_isWithin, 3, (some .boolean), 7, 3, 0, 0, 247, 51), (cX7_isFlag, yX7_isFlag, 1, (some .boolean), 7, 1, 1, 22, 344, 51), (cX7_isColumn, yX7_isColumn, 1, (some .boolean), 7, 1, 1, 22, 308, 51), (cX7_isBeat, yX7_isBeat, 2, (some .boolean), 7, 1, 1, 22, 270, 51), (cX7_isSpan, yX7_isSpan, 3, (some .boolean), 7, 2, 2, 43, 266, 51), (cX7_isPhrase, yX7_isPhrase, 3, (some .boolean), 7, 2, 2, 43, 341, 51), (cX7_addSign, yX7_addSign, 2, (some .int), 7, 1, 3, 65, 280, 51)]
def mm_tab_12 : List mm_T := [(cX7_isInPhrase, yX7_isInPhrase, 3, (some .boolean), 7, 3, 2, 40, 355, 51), (cX7_copyOf, yX7_copyOf, 4, (some .int), 7, 3, 2, 46, 376, 51), (cX7_canTryPhrase, yX7_canTryPhrase, 3, (some .boolean), 7, 0, 3, 65, 392, 51), (cX8_in, yX8_in, 3, (some .boolean), 8, 3, 0, 0, 717, 58), (cX8_isBeat, yX8_isBeat, 2, (some .boolean), 8, 1, 1, 22, 733, 58), (cX8_isColumn, yX8_isColumn, 1, (some .boolean), 8, 1, 1, 22, 760, 58), (cX8_isSign, yX8_isSign, 2, (some .boolean), 8, 1, 1, 22, 776, 58), (cX8_records, yX8_records, 2, none, 8, 0, 0, 0, 721, 58)]
def mm_tab_13 : List mm_T := [(cX8_endOf, yX8_endOf, 3, (some .int), 8, 1, 0, 0, 788, 58), (cX8_fills, yX8_fills, 4, none, 8, 0, 0, 0, 745, 58), (cX8_covering, yX8_covering, 3, (some .int), 8, 2, 0, 0, 749, 58), (cX8_isFree, yX8_isFree, 7, (some .boolean), 8, 3, 1, 23, 741, 58), (cX8_puts, yX8_puts, 9, (some .int), 8, 6, 0, 0, 753, 58), (cX8_adds, yX8_adds, 7, (some .int), 8, 6, 2, 49, 737, 58), (cX8_isSpan, yX8_isSpan, 3, (some .boolean), 8, 2, 2, 43, 729, 58), (cX8_reset, yX8_reset, 3, (some .int), 8, 1, 1, 22, 714, 58)]
def mm_tab_14 : List mm_T := [(cX8_addMove, yX8_addMove, 6, (some .int), 8, 5, 3, 75, 725, 58), (cX8_addHold, yX8_addHold, 3, (some .int), 8, 2, 3, 75, 757, 58), (cX8_addTurn, yX8_addTurn, 4, (some .int), 8, 3, 3, 75, 764, 58), (cX8_addRelease, yX8_addRelease, 4, (some .int), 8, 3, 3, 75, 768, 58), (cX8_removeSign, yX8_removeSign, 4, (some .int), 8, 1, 2, 43, 772, 58), (cX8_turnedColumn, yX8_turnedColumn, 1, (some .int), 8, 1, 0, 0, 791, 58), (cX8_turnedWay, yX8_turnedWay, 2, (some .int), 8, 2, 0, 0, 794, 58), (cX8_collects, yX8_collects, 15, (some .int), 8, 5, 1, 22, 784, 58)]
def mm_tab_15 : List mm_T := [(cX8_copyPhrase, yX8_copyPhrase, 11, (some .int), 8, 5, 2, 56, 780, 58), (cX8_setLeap, yX8_setLeap, 3, (some .int), 8, 1, 1, 22, 798, 58), (cX8_undo, yX8_undo, 2, (some .int), 8, 0, 0, 0, 802, 58), (cX8_count, yX8_count, 2, (some .int), 8, 1, 0, 0, 806, 58), (cX8_sign, yX8_sign, 4, (some .int), 8, 2, 2, 43, 810, 58), (cX8_signAt, yX8_signAt, 4, (some .int), 8, 2, 2, 43, 814, 58), (cX8_isBearing, yX8_isBearing, 4, (some .boolean), 8, 2, 1, 22, 826, 58), (cX8_feet, yX8_feet, 2, (some .int), 8, 1, 2, 45, 822, 58)]
def mm_tab_16 : List mm_T := [(cX8_isTwice, yX8_isTwice, 4, (some .boolean), 8, 2, 2, 45, 838, 58), (cX8_twice, yX8_twice, 2, (some .int), 8, 1, 3, 68, 834, 58), (cX8_flight, yX8_flight, 4, (some .int), 8, 1, 3, 66, 850, 58), (cX8_isWrong, yX8_isWrong, 2, (some .boolean), 8, 1, 4, 89, 846, 58), (cX8_bears, yX8_bears, 2, (some .int), 8, 1, 3, 66, 818, 58), (cX8_toldTwice, yX8_toldTwice, 2, (some .int), 8, 1, 4, 89, 830, 58), (cX8_isFaulty, yX8_isFaulty, 2, (some .int), 8, 1, 5, 110, 842, 58), (cX8_nextFault, yX8_nextFault, 3, (some .int), 8, 1, 5, 110, 854, 58)]
def mm_tab_17 : List mm_T := [(cX8_beats, yX8_beats, 9, (some .int), 8, 1, 5, 110, 858, 58), (cX8_leastLeap, yX8_leastLeap, 2, (some .int), 8, 0, 6, 138, 862, 58), (cX8_covered, yX8_covered, 6, (some .int), 8, 2, 2, 42, 867, 58), (cX8_facing, yX8_facing, 4, (some .int), 8, 1, 1, 22, 875, 58), (cX8_unit, yX8_unit, 3, (some .int), 8, 2, 0, 0, 882, 58), (cX8_isTogether, yX8_isTogether, 4, (some .boolean), 8, 1, 1, 22, 886, 58), (cX8_place, yX8_place, 6, (some .int), 8, 2, 2, 45, 879, 58), (cX8_floor, yX8_floor, 3, (some .int), 8, 2, 3, 70, 871, 58)]
def mm_tab_18 : List mm_T := [(cX8_home, yX8_home, 4, (some .int), 8, 0, 3, 70, 890, 58), (cX8_size, yX8_size, 1, (some .int), 8, 1, 0, 0, 897, 58), (cX8_farthest, yX8_farthest, 5, (some .int), 8, 0, 3, 70, 894, 58), (cX8_isLike, yX8_isLike, 9, (some .boolean), 8, 4, 1, 22, 905, 58), (cX8_alike, yX8_alike, 9, (some .int), 8, 4, 2, 50, 901, 58), (cX8_type, yX8_type, 2, (some .int), 8, 1, 1, 22, 909, 58), (cX8_clearText, yX8_clearText, 2, (some .int), 8, 0, 0, 0, 913, 58), (cX8_here, yX8_here, 1, (some .int), 8, 0, 0, 0, 937, 58)]
def mm_tab_19 : List mm_T := [(cX8_passes, yX8_passes, 3, (some .boolean), 8, 1, 1, 20, 941, 58), (cX8_digit, yX8_digit, 4, (some .int), 8, 2, 1, 22, 933, 58), (cX8_length, yX8_length, 3, (some .int), 8, 0, 2, 45, 949, 58), (cX8_lays, yX8_lays, 8, (some .boolean), 8, 5, 1, 28, 953, 58), (cX8_readsMove, yX8_readsMove, 4, (some .boolean), 8, 1, 3, 67, 945, 58), (cX8_readsTurn, yX8_readsTurn, 4, (some .boolean), 8, 1, 3, 67, 957, 58), (cX8_readsItem, yX8_readsItem, 3, (some .boolean), 8, 0, 4, 90, 929, 58), (cX8_reads, yX8_reads, 2, (some .int), 8, 0, 5, 112, 925, 58)]
def mm_tab_20 : List mm_T := [(cX8_keeps, yX8_keeps, 2, none, 8, 0, 0, 0, 921, 58), (cX8_swaps, yX8_swaps, 3, none, 8, 0, 0, 0, 961, 58), (cX8_fault, yX8_fault, 2, (some .int), 8, 0, 6, 133, 917, 58), (cX8_lay, yX8_lay, 1, (some .int), 8, 0, 7, 154, 965, 58), (cJ9_floorMod_7cf53, yJ9_floorMod_7cf53, 3, (some .int), 10, 2, 0, 0, 605, 62), (cJ9_abs_0f7a4, yJ9_abs_0f7a4, 1, (some .int), 10, 1, 0, 0, 626, 62), (cJ9_max_7cf53, yJ9_max_7cf53, 2, (some .int), 10, 2, 0, 0, 559, 62), (cJ9_min_7cf53, yJ9_min_7cf53, 2, (some .int), 10, 2, 0, 0, 519, 62)]
def mm_tab_21 : List mm_T := [(cJ7_fill_53178, yJ7_fill_53178, 4, none, 9, 2, 0, 0, 413, 61)]
def mm_tab : List mm_T := mm_tab_0 ++ mm_tab_1 ++ mm_tab_2 ++ mm_tab_3 ++ mm_tab_4 ++ mm_tab_5 ++ mm_tab_6 ++ mm_tab_7 ++ mm_tab_8 ++ mm_tab_9 ++ mm_tab_10 ++ mm_tab_11 ++ mm_tab_12 ++ mm_tab_13 ++ mm_tab_14 ++ mm_tab_15 ++ mm_tab_16 ++ mm_tab_17 ++ mm_tab_18 ++ mm_tab_19 ++ mm_tab_20 ++ mm_tab_21
def mm_d0 : mm_T := (⟨#[]⟩, ⟨"", "", ""⟩, 0, none, 0, 0, 0, 0, 0, 0)
def mm_rec (j : Nat) : mm_T := mm_tab.getD j mm_d0
def mm_code (j : Nat) : ByteArray := (mm_rec j).1
def mm_y (j : Nat) : MethodName := (mm_rec j).2.1
def mm_maxL (j : Nat) : Nat := (mm_rec j).2.2.1
def mm_ret (j : Nat) : Option FieldType := (mm_rec j).2.2.2.1
def mm_cno (j : Nat) : Nat := (mm_rec j).2.2.2.2.1
def mm_np (j : Nat) : Nat := (mm_rec j).2.2.2.2.2.1
def mm_fr (j : Nat) : Nat := (mm_rec j).2.2.2.2.2.2.1
def mm_lo (j : Nat) : Nat := (mm_rec j).2.2.2.2.2.2.2.1
def mm_icode (j : Nat) : Nat := (mm_rec j).2.2.2.2.2.2.2.2.1
def mm_iini (j : Nat) : Nat := (mm_rec j).2.2.2.2.2.2.2.2.2
/-- the names of the method's own kinds, by number -/
def mm_cn (k : Nat) : String := match k with
  | 0 => RX0 | 1 => RX1 | 2 => RX2 | 3 => RX3 | 4 => RX4 | 5 => RX5 | 6 => RX6 | 7 => RX7 | 8 => RX8 | 9 => RJ7 | _ => RJ9
/-- fields: (owner, entry), (kind, place, by nest, the word's place in the tables) -/
def mm_flds_0 : List ((Nat × Nat) × (Nat × Nat × Bool × Nat)) := [((0, 18), (0, 2, false, 185)), ((0, 9), (0, 0, false, 183)), ((0, 15), (0, 1, false, 184)), ((0, 39), (2, 0, true, 82)), ((1, 11), (1, 0, false, 111)), ((1, 15), (1, 1, false, 113)), ((1, 25), (2, 0, true, 80)), ((1, 30), (2, 1, true, 86)), ((1, 33), (2, 2, true, 90)), ((1, 34), (2, 3, true, 94)), ((2, 9), (2, 0, false, 77)), ((2, 18), (2, 2, false, 88)), ((2, 15), (2, 1, false, 84)), ((2, 21), (2, 3, false, 93)), ((3, 9), (3, 0, false, 199)), ((3, 18), (3, 2, false, 202))]
def mm_flds_1 : List ((Nat × Nat) × (Nat × Nat × Bool × Nat)) := [((3, 22), (3, 3, false, 203)), ((3, 15), (3, 1, false, 201)), ((3, 63), (2, 0, true, 83)), ((3, 73), (2, 2, true, 91)), ((5, 21), (4, 3, false, 161)), ((5, 24), (4, 4, false, 162)), ((5, 27), (4, 5, false, 163)), ((5, 36), (2, 2, true, 89)), ((5, 50), (2, 0, true, 81)), ((5, 18), (4, 2, false, 159)), ((5, 9), (4, 0, false, 155)), ((5, 15), (4, 1, false, 157)), ((6, 34), (2, 0, true, 78)), ((6, 9), (5, 0, false, 125)), ((6, 37), (2, 1, true, 85)), ((6, 15), (5, 1, false, 126))]
def mm_flds_2 : List ((Nat × Nat) × (Nat × Nat × Bool × Nat)) := [((6, 25), (5, 4, false, 129)), ((6, 28), (5, 5, false, 131)), ((6, 18), (5, 2, false, 127)), ((6, 22), (5, 3, false, 128)), ((6, 31), (5, 6, false, 133)), ((7, 10), (6, 0, false, 213)), ((7, 65), (2, 0, true, 79)), ((7, 25), (6, 3, false, 216)), ((7, 110), (2, 2, true, 92)), ((7, 16), (6, 1, false, 214)), ((7, 19), (6, 2, false, 215)), ((7, 153), (2, 1, true, 87)), ((7, 53), (6, 7, false, 220)), ((7, 160), (1, 0, true, 112)), ((7, 164), (3, 0, true, 200)), ((7, 32), (6, 4, false, 217))]
def mm_flds_3 : List ((Nat × Nat) × (Nat × Nat × Bool × Nat)) := [((7, 189), (5, 4, true, 130)), ((7, 192), (5, 5, true, 132)), ((7, 57), (6, 8, false, 221)), ((7, 39), (6, 5, false, 218)), ((7, 221), (4, 2, true, 160)), ((7, 224), (4, 0, true, 156)), ((7, 227), (4, 1, true, 158)), ((7, 46), (6, 6, false, 219)), ((8, 7), (7, 0, false, 679)), ((8, 36), (7, 2, false, 681)), ((8, 13), (7, 1, false, 680)), ((8, 29), (7, 9, false, 688)), ((8, 26), (7, 8, false, 687)), ((8, 16), (7, 3, false, 682)), ((8, 88), (7, 5, false, 684)), ((8, 19), (7, 4, false, 683))]
def mm_flds_4 : List ((Nat × Nat) × (Nat × Nat × Bool × Nat)) := [((8, 132), (7, 6, false, 685)), ((8, 23), (7, 7, false, 686))]
def mm_flds : List ((Nat × Nat) × (Nat × Nat × Bool × Nat)) := mm_flds_0 ++ mm_flds_1 ++ mm_flds_2 ++ mm_flds_3 ++ mm_flds_4
/-- calls: (owner, entry), (0 virtual, 1 static, 2 static by nest, 3 arraycopy; method, kind of the receiver, places of the words) -/
def mm_calls_0 : List ((Nat × Nat) × (Nat × Nat × Nat × Nat × Nat × Nat × Nat)) := [((0, 21), (1, 168, 0, 641, 412, 61, 0)), ((0, 27), (0, 14, 2, 646, 513, 514, 52)), ((0, 33), (1, 45, 0, 647, 381, 60, 0)), ((0, 43), (1, 166, 0, 648, 558, 62, 0)), ((0, 49), (1, 44, 0, 649, 378, 60, 0)), ((0, 52), (1, 41, 0, 650, 651, 60, 0)), ((1, 19), (3, 0, 0, 252, 254, 253, 59)), ((2, 25), (3, 0, 0, 397, 254, 253, 59)), ((2, 31), (1, 33, 0, 285, 286, 60, 0)), ((2, 37), (1, 40, 0, 288, 289, 60, 0)), ((2, 40), (1, 34, 0, 295, 296, 60, 0)), ((2, 43), (0, 8, 2, 485, 350, 351, 52)), ((2, 46), (1, 36, 0, 486, 363, 60, 0)), ((2, 49), (0, 12, 2, 498, 482, 483, 52)), ((2, 52), (1, 168, 0, 516, 412, 61, 0)), ((2, 58), (1, 167, 0, 517, 518, 62, 0))]
def mm_calls_1 : List ((Nat × Nat) × (Nat × Nat × Nat × Nat × Nat × Nat × Nat)) := [((3, 25), (0, 6, 2, 410, 346, 347, 52)), ((3, 31), (1, 168, 0, 411, 412, 61, 0)), ((3, 37), (0, 17, 3, 414, 416, 5, 57)), ((3, 41), (0, 25, 3, 418, 420, 6, 57)), ((3, 45), (2, 91, 0, 426, 307, 51, 0)), ((3, 49), (0, 26, 3, 427, 429, 8, 57)), ((3, 52), (0, 20, 3, 431, 433, 9, 57)), ((3, 56), (0, 24, 3, 442, 444, 11, 57)), ((3, 59), (1, 18, 0, 455, 456, 57, 0)), ((3, 66), (1, 19, 0, 459, 460, 57, 0)), ((3, 70), (1, 35, 0, 458, 293, 60, 0)), ((3, 74), (0, 10, 2, 462, 299, 300, 52)), ((3, 77), (0, 21, 3, 435, 437, 10, 57)), ((3, 81), (1, 29, 0, 448, 310, 60, 0)), ((3, 84), (0, 22, 3, 449, 451, 12, 57)), ((3, 87), (1, 31, 0, 454, 324, 60, 0))]
def mm_calls_2 : List ((Nat × Nat) × (Nat × Nat × Nat × Nat × Nat × Nat × Nat)) := [((3, 90), (1, 23, 0, 439, 440, 57, 0)), ((3, 93), (2, 89, 0, 446, 246, 51, 0)), ((3, 97), (1, 28, 0, 447, 272, 60, 0)), ((3, 101), (1, 30, 0, 453, 317, 60, 0)), ((3, 105), (0, 27, 3, 422, 424, 7, 57)), ((4, 11), (1, 32, 0, 274, 275, 60, 0)), ((4, 15), (1, 33, 0, 291, 286, 60, 0)), ((4, 19), (1, 35, 0, 292, 293, 60, 0)), ((4, 22), (1, 34, 0, 361, 296, 60, 0)), ((4, 25), (1, 36, 0, 362, 363, 60, 0)), ((4, 28), (1, 37, 0, 365, 366, 60, 0)), ((4, 31), (1, 38, 0, 368, 369, 60, 0)), ((4, 34), (1, 39, 0, 371, 372, 60, 0)), ((4, 37), (1, 45, 0, 380, 381, 60, 0)), ((4, 40), (1, 46, 0, 383, 384, 60, 0)), ((5, 30), (1, 168, 0, 589, 412, 61, 0))]
def mm_calls_3 : List ((Nat × Nat) × (Nat × Nat × Nat × Nat × Nat × Nat × Nat)) := [((5, 42), (0, 8, 2, 590, 350, 351, 52)), ((5, 46), (0, 48, 4, 591, 593, 15, 55)), ((5, 53), (1, 164, 0, 603, 604, 62, 0)), ((5, 59), (0, 50, 4, 606, 608, 17, 55)), ((5, 63), (1, 40, 0, 595, 289, 60, 0)), ((5, 68), (1, 36, 0, 596, 363, 60, 0)), ((5, 71), (1, 39, 0, 597, 372, 60, 0)), ((5, 74), (0, 49, 4, 598, 600, 16, 55)), ((5, 78), (1, 34, 0, 602, 296, 60, 0)), ((5, 81), (1, 37, 0, 610, 366, 60, 0)), ((5, 84), (1, 33, 0, 611, 286, 60, 0)), ((5, 93), (1, 165, 0, 624, 625, 62, 0)), ((5, 96), (1, 166, 0, 627, 558, 62, 0)), ((6, 38), (1, 168, 0, 507, 412, 61, 0)), ((6, 44), (0, 53, 5, 508, 510, 13, 54)), ((6, 48), (0, 55, 5, 524, 526, 14, 54))]
def mm_calls_4 : List ((Nat × Nat) × (Nat × Nat × Nat × Nat × Nat × Nat × Nat)) := [((6, 51), (0, 14, 2, 512, 513, 514, 52)), ((6, 55), (1, 54, 0, 520, 521, 54, 0)), ((6, 59), (1, 36, 0, 523, 363, 60, 0)), ((6, 65), (0, 56, 5, 552, 537, 538, 54)), ((6, 68), (1, 166, 0, 557, 558, 62, 0)), ((7, 61), (1, 89, 0, 245, 246, 51, 0)), ((7, 69), (0, 3, 1, 248, 249, 250, 53)), ((7, 73), (0, 5, 2, 255, 256, 257, 52)), ((7, 77), (0, 93, 6, 263, 265, 0, 51)), ((7, 81), (1, 28, 0, 271, 272, 60, 0)), ((7, 87), (0, 95, 6, 277, 279, 2, 51)), ((7, 91), (1, 91, 0, 306, 307, 51, 0)), ((7, 95), (0, 92, 6, 267, 269, 1, 51)), ((7, 98), (1, 29, 0, 309, 310, 60, 0)), ((7, 102), (1, 30, 0, 316, 317, 60, 0)), ((7, 106), (1, 31, 0, 323, 324, 60, 0))]
def mm_calls_5 : List ((Nat × Nat) × (Nat × Nat × Nat × Nat × Nat × Nat × Nat)) := [((7, 113), (0, 11, 2, 330, 331, 332, 52)), ((7, 116), (0, 94, 6, 338, 340, 3, 51)), ((7, 119), (1, 90, 0, 342, 343, 51, 0)), ((7, 122), (0, 6, 2, 345, 346, 347, 52)), ((7, 125), (0, 8, 2, 349, 350, 351, 52)), ((7, 128), (1, 96, 0, 353, 354, 51, 0)), ((7, 131), (1, 40, 0, 357, 289, 60, 0)), ((7, 134), (1, 33, 0, 356, 286, 60, 0)), ((7, 137), (1, 42, 0, 358, 359, 60, 0)), ((7, 140), (1, 97, 0, 374, 375, 51, 0)), ((7, 143), (0, 10, 2, 298, 299, 300, 52)), ((7, 146), (0, 98, 6, 389, 391, 4, 51)), ((7, 150), (0, 7, 2, 393, 394, 395, 52)), ((7, 156), (0, 16, 3, 406, 407, 408, 57)), ((7, 161), (0, 4, 1, 467, 468, 469, 53)), ((7, 165), (1, 36, 0, 479, 363, 60, 0))]
def mm_calls_6 : List ((Nat × Nat) × (Nat × Nat × Nat × Nat × Nat × Nat × Nat)) := [((7, 168), (1, 34, 0, 480, 296, 60, 0)), ((7, 171), (0, 12, 2, 481, 482, 483, 52)), ((7, 174), (1, 37, 0, 487, 366, 60, 0)), ((7, 177), (1, 38, 0, 488, 369, 60, 0)), ((7, 180), (1, 39, 0, 489, 372, 60, 0)), ((7, 183), (0, 13, 2, 494, 495, 496, 52)), ((7, 186), (0, 52, 5, 503, 504, 505, 54)), ((7, 195), (0, 56, 5, 536, 537, 538, 54)), ((7, 198), (0, 57, 5, 548, 549, 550, 54)), ((7, 202), (0, 59, 5, 553, 554, 555, 54)), ((7, 205), (0, 60, 5, 560, 561, 562, 54)), ((7, 208), (0, 58, 5, 564, 565, 566, 54)), ((7, 211), (0, 61, 5, 572, 573, 574, 54)), ((7, 214), (0, 14, 2, 580, 513, 514, 52)), ((7, 218), (0, 47, 4, 585, 586, 587, 55)), ((7, 230), (0, 51, 4, 620, 621, 622, 55))]
def mm_calls_7 : List ((Nat × Nat) × (Nat × Nat × Nat × Nat × Nat × Nat × Nat)) := [((7, 233), (1, 166, 0, 632, 558, 62, 0)), ((7, 238), (0, 0, 0, 637, 638, 639, 56)), ((7, 241), (0, 1, 0, 642, 643, 644, 56)), ((7, 245), (0, 2, 0, 653, 654, 655, 56)), ((7, 248), (0, 15, 3, 661, 662, 663, 57)), ((7, 251), (0, 9, 2, 281, 282, 283, 52)), ((7, 254), (1, 44, 0, 377, 378, 60, 0)), ((7, 257), (1, 43, 0, 386, 387, 60, 0)), ((8, 32), (1, 99, 0, 715, 716, 58, 0)), ((8, 40), (0, 105, 7, 742, 744, 23, 58)), ((8, 43), (0, 106, 7, 746, 748, 24, 58)), ((8, 47), (0, 107, 7, 738, 740, 22, 58)), ((8, 50), (0, 103, 7, 718, 720, 18, 58)), ((8, 53), (0, 108, 7, 750, 752, 25, 58)), ((8, 57), (0, 100, 7, 730, 732, 20, 58)), ((8, 61), (0, 110, 7, 726, 728, 19, 58))]
def mm_calls_8 : List ((Nat × Nat) × (Nat × Nat × Nat × Nat × Nat × Nat × Nat)) := [((8, 65), (0, 109, 7, 734, 736, 21, 58)), ((8, 68), (1, 101, 0, 758, 759, 58, 0)), ((8, 71), (0, 102, 7, 773, 775, 26, 58)), ((8, 74), (0, 104, 7, 785, 787, 28, 58)), ((8, 78), (1, 117, 0, 789, 790, 58, 0)), ((8, 81), (1, 118, 0, 792, 793, 58, 0)), ((8, 84), (0, 119, 7, 781, 783, 27, 58)), ((8, 91), (0, 126, 7, 823, 825, 30, 58)), ((8, 94), (0, 128, 7, 835, 837, 32, 58)), ((8, 97), (0, 127, 7, 819, 821, 29, 58)), ((8, 100), (0, 129, 7, 831, 833, 31, 58)), ((8, 103), (0, 130, 7, 847, 849, 34, 58)), ((8, 106), (0, 131, 7, 843, 845, 33, 58)), ((8, 109), (0, 136, 7, 863, 856, 857, 58)), ((8, 112), (0, 139, 7, 872, 874, 35, 58)), ((8, 115), (1, 140, 0, 880, 881, 58, 0))]
def mm_calls_9 : List ((Nat × Nat) × (Nat × Nat × Nat × Nat × Nat × Nat × Nat)) := [((8, 119), (0, 141, 7, 883, 885, 37, 58)), ((8, 122), (0, 142, 7, 876, 878, 36, 58)), ((8, 125), (1, 145, 0, 895, 896, 58, 0)), ((8, 128), (0, 147, 7, 902, 904, 38, 58)), ((8, 135), (0, 151, 7, 934, 936, 43, 58)), ((8, 139), (0, 153, 7, 930, 932, 42, 58)), ((8, 142), (0, 154, 7, 946, 948, 46, 58)), ((8, 145), (0, 155, 7, 950, 952, 47, 58)), ((8, 149), (0, 152, 7, 938, 940, 44, 58)), ((8, 152), (0, 156, 7, 942, 944, 45, 58)), ((8, 155), (0, 157, 7, 954, 956, 48, 58)), ((8, 158), (0, 158, 7, 926, 928, 41, 58)), ((8, 162), (0, 160, 7, 918, 920, 39, 58)), ((8, 165), (0, 159, 7, 922, 924, 40, 58)), ((8, 168), (0, 161, 7, 958, 960, 49, 58)), ((8, 171), (0, 162, 7, 966, 915, 916, 58))]
def mm_calls : List ((Nat × Nat) × (Nat × Nat × Nat × Nat × Nat × Nat × Nat)) := mm_calls_0 ++ mm_calls_1 ++ mm_calls_2 ++ mm_calls_3 ++ mm_calls_4 ++ mm_calls_5 ++ mm_calls_6 ++ mm_calls_7 ++ mm_calls_8 ++ mm_calls_9
/-- statics: (owner, entry), (the first row?, the word's place) -/
def mm_stats_0 : List ((Nat × Nat) × (Bool × Nat)) := [((5, 87), (true, 612)), ((5, 90), (false, 614))]
def mm_stats : List ((Nat × Nat) × (Bool × Nat)) := mm_stats_0
def mm_fld (c i : Nat) : Option ((Nat × Nat) × (Nat × Nat × Bool × Nat)) := mm_flds.find? (fun e => Nat.beq e.1.1 c && Nat.beq e.1.2 i)
def mm_cll (c i : Nat) : Option ((Nat × Nat) × (Nat × Nat × Nat × Nat × Nat × Nat × Nat)) := mm_calls.find? (fun e => Nat.beq e.1.1 c && Nat.beq e.1.2 i)
def mm_stt (c i : Nat) : Option ((Nat × Nat) × (Bool × Nat)) := mm_stats.find? (fun e => Nat.beq e.1.1 c && Nat.beq e.1.2 i)
-- steps
def mm_nx (pc : Nat) (lo : mm_L) (st : List mm_V) (M : mm_M) : mm_R := some (.inl (pc, lo, st, M))
def mm_jmp (pc : Nat) (off : Int) (lo : mm_L) (st : List mm_V) (M : mm_M) : mm_R := if 0 ≤ (pc : Int) + off then mm_nx ((pc : Int) + off).toNat lo st M else none
def mm_bin (f : Int32 → Int32 → Int32) (pc : Nat) (lo : mm_L) (st : List mm_V) (M : mm_M) : mm_R := match st with
  | .inl y :: .inl x :: r => mm_nx (pc + 1) lo (.inl (f x y) :: r) M
  | _ => none
def mm_un (f : Int32 → Int32) (pc : Nat) (lo : mm_L) (st : List mm_V) (M : mm_M) : mm_R := match st with
  | .inl x :: r => mm_nx (pc + 1) lo (.inl (f x) :: r) M
  | _ => none
def mm_ldi (k pc' : Nat) (lo : mm_L) (st : List mm_V) (M : mm_M) : mm_R := match lo[k]? with
  | some (some (.inl x)) => mm_nx pc' lo (.inl x :: st) M
  | _ => none
def mm_lda (k pc' : Nat) (lo : mm_L) (st : List mm_V) (M : mm_M) : mm_R := match lo[k]? with
  | some (some (.inr x)) => mm_nx pc' lo (.inr x :: st) M
  | _ => none
def mm_sti (k pc' : Nat) (lo : mm_L) (st : List mm_V) (M : mm_M) : mm_R := match st with
  | .inl x :: r => if k < lo.length then mm_nx pc' (lo.set k (some (.inl x))) r M else none
  | _ => none
def mm_inc (k : Nat) (n : Int) (pc' : Nat) (lo : mm_L) (st : List mm_V) (M : mm_M) : mm_R := match lo[k]? with
  | some (some (.inl x)) => mm_nx pc' (lo.set k (some (.inl (x + Int32.ofInt n)))) st M
  | _ => none
def mm_if (c : ClassFile.Cond) (x y : Int32) : Bool := match c with
  | .eq => decide (x = y) | .ne => decide (¬ x = y) | .lt => decide (x < y) | .ge => decide (y ≤ x) | .gt => decide (y < x) | .le => decide (x ≤ y)
def mm_br (b : Bool) (pc : Nat) (off : Int) (lo : mm_L) (st : List mm_V) (M : mm_M) : mm_R := if 0 ≤ (pc : Int) + off then mm_nx (if b = true then ((pc : Int) + off).toNat else pc + 3) lo st M else none
def mm_if1 (c : ClassFile.Cond) (pc : Nat) (off : Int) (lo : mm_L) (st : List mm_V) (M : mm_M) : mm_R := match st with
  | .inl x :: r => mm_br (mm_if c x 0) pc off lo r M
  | _ => none
def mm_if2 (c : ClassFile.Cond) (pc : Nat) (off : Int) (lo : mm_L) (st : List mm_V) (M : mm_M) : mm_R := match st with
  | .inl y :: .inl x :: r => mm_br (mm_if c x y) pc off lo r M
  | _ => none
def mm_tsw (d lo' hi : Int) (offs : Array Int) (pc : Nat) (lo : mm_L) (st : List mm_V) (M : mm_M) : mm_R := match st with
  | .inl x :: r => if x.toInt < lo' ∨ hi < x.toInt then mm_jmp pc d lo r M else match offs[(x.toInt - lo').toNat]? with
    | some off => mm_jmp pc off lo r M
    | none => none
  | _ => none
def mm_lsw (d : Int) (ps : Array (Int × Int)) (pc : Nat) (lo : mm_L) (st : List mm_V) (M : mm_M) : mm_R := match st with
  | .inl x :: r => if (ps.toList.zip (ps.toList.drop 1)).all (fun (a, next) => a.1 < next.1) = true then mm_jmp pc (Op.lookupswitch.offset ps.toList d x.toInt) lo r M else none
  | _ => none
def mm_get (e : (Nat × Nat) × (Nat × Nat × Bool × Nat)) (pc : Nat) (lo : mm_L) (st : List mm_V) (M : mm_M) : mm_R := match st with
  | .inr o :: r => match mm_shape[o]? with
    | some (.inl (ci, fs)) => if ci = e.2.1 then match fs[e.2.2.1]? with
        | some none => mm_nx (pc + 3) lo (.inl (M o e.2.2.1) :: r) M
        | some (some q) => mm_nx (pc + 3) lo (.inr q :: r) M
        | none => none
      else none
    | _ => none
  | _ => none
def mm_put (e : (Nat × Nat) × (Nat × Nat × Bool × Nat)) (pc : Nat) (lo : mm_L) (st : List mm_V) (M : mm_M) : mm_R := match st with
  | .inl v :: .inr o :: r => match mm_shape[o]? with
    | some (.inl (ci, fs)) => if ci = e.2.1 then match fs[e.2.2.1]? with
        | some none => mm_nx (pc + 3) lo r (mm_up M o e.2.2.1 v)
        | _ => none
      else none
    | _ => none
  | _ => none
def mm_ald (ch : Bool) (pc : Nat) (lo : mm_L) (st : List mm_V) (M : mm_M) : mm_R := match st with
  | .inl i :: .inr o :: r => match mm_shape[o]? with
    | some (.inr (c, n)) => if c = ch ∧ ¬ (i < 0 ∨ n ≤ i.toNatClampNeg) then mm_nx (pc + 1) lo (.inl (M o i.toNatClampNeg) :: r) M else none
    | some (.inl _) => none
    | none => if ch = false ∧ (o = 40 ∨ o = 41) ∧ ¬ (i < 0 ∨ 8 ≤ i.toNatClampNeg) then mm_nx (pc + 1) lo (.inl ((if o = 40 then mm_ux else mm_uy) i.toNatClampNeg) :: r) M else none
  | _ => none
def mm_ast (ch : Bool) (pc : Nat) (lo : mm_L) (st : List mm_V) (M : mm_M) : mm_R := match st with
  | .inl v :: .inl i :: .inr o :: r => match mm_shape[o]? with
    | some (.inr (c, n)) => if c = ch ∧ ¬ (i < 0 ∨ n ≤ i.toNatClampNeg) then mm_nx (pc + 1) lo r (mm_up M o i.toNatClampNeg (if ch = true then vp_nar .char v else v)) else none
    | _ => none
  | _ => none
def mm_len (pc : Nat) (lo : mm_L) (st : List mm_V) (M : mm_M) : mm_R := match st with
  | .inr o :: r => match mm_shape[o]? with
    | some (.inr (_, n)) => mm_nx (pc + 1) lo (.inl (Int32.ofNat n) :: r) M
    | _ => none
  | _ => none
def mm_gst (e : (Nat × Nat) × (Bool × Nat)) (pc : Nat) (lo : mm_L) (st : List mm_V) (M : mm_M) : mm_R := mm_nx (pc + 3) lo (.inr (if e.2.1 = true then 40 else 41) :: st) M
def mm_roomy (j k na : Nat) (r : List mm_V) : Bool := Nat.ble (mm_fr k + 1) (mm_fr j) && Nat.ble (8 + (mm_maxL k + 11) + mm_lo k) (mm_lo j) && Nat.ble r.length 8 && Nat.ble na (mm_maxL k)
def mm_cpy (j pc : Nat) (lo : mm_L) (st : List mm_V) (M : mm_M) : mm_R := match st with
  | .inl n :: .inl dp :: .inr a :: .inl sp :: .inr b :: r => match mm_shape[a]?, mm_shape[b]? with
    | some (.inr (false, na)), some (.inr (false, nb)) =>
      if (¬ sp < 0 ∧ ¬ dp < 0 ∧ ¬ n < 0 ∧ sp.toNatClampNeg + n.toNatClampNeg ≤ nb ∧ dp.toNatClampNeg + n.toNatClampNeg ≤ na) ∧ 1 ≤ mm_fr j ∧ 26 ≤ mm_lo j ∧ r.length ≤ 8 then mm_nx (pc + 3) lo r (mm_set M a (va_cpy (M b) (M a) sp.toNatClampNeg dp.toNatClampNeg n.toNatClampNeg)) else none
    | _, _ => none
  | _ => none
def mm_inv (j : Nat) (e : (Nat × Nat) × (Nat × Nat × Nat × Nat × Nat × Nat × Nat)) (st : List mm_V) : mm_R :=
  match st.drop (mm_np e.2.2.1) with
  | .inr o :: r => match mm_shape[o]? with
    | some (.inl (ci, _)) => if e.2.1 = 0 ∧ ci = e.2.2.2.1 ∧ mm_roomy j e.2.2.1 (mm_np e.2.2.1 + 1) r = true then some (.inr (.inl (e.2.2.1, .inr o :: (st.take (mm_np e.2.2.1)).reverse, r))) else none
    | _ => none
  | _ => none
def mm_ins (j : Nat) (e : (Nat × Nat) × (Nat × Nat × Nat × Nat × Nat × Nat × Nat)) (pc : Nat) (lo : mm_L) (st : List mm_V) (M : mm_M) : mm_R :=
  if e.2.1 = 3 then mm_cpy j pc lo st M
  else if (e.2.1 = 1 ∨ e.2.1 = 2) ∧ mm_np e.2.2.1 ≤ st.length ∧ mm_roomy j e.2.2.1 (mm_np e.2.2.1) (st.drop (mm_np e.2.2.1)) = true then some (.inr (.inl (e.2.2.1, (st.take (mm_np e.2.2.1)).reverse, st.drop (mm_np e.2.2.1)))) else none
def mm_rti (j : Nat) (st : List mm_V) : mm_R := match st with
  | [.inl v] => if mm_ret j = some .int ∨ (mm_ret j = some .boolean ∧ (v = 0 ∨ v = 1)) then some (.inr (.inr (some v))) else none
  | _ => none
def mm_rtv (j : Nat) (st : List mm_V) : mm_R := match st with
  | [] => if mm_ret j = none then some (.inr (.inr none)) else none
  | _ => none
/-- one instruction -/
def mm_do (j pc : Nat) (i : Instr) (n : Nat) (lo : mm_L) (st : List mm_V) (M : mm_M) : mm_R := match i with
  | .iconst v => if n = 1 then mm_nx (pc + 1) lo (.inl (Int32.ofInt v) :: st) M else none
  | .bipush v => if n = 2 then mm_nx (pc + 2) lo (.inl (Int8.ofInt v).toInt32 :: st) M else none
  | .sipush v => if n = 3 then mm_nx (pc + 3) lo (.inl (Int16.ofInt v).toInt32 :: st) M else none
  | .iload_n k => if n = 1 then mm_ldi k.val (pc + 1) lo st M else none
  | .iload k => if n = 2 then mm_ldi k (pc + 2) lo st M else none
  | .aload_n k => if n = 1 then mm_lda k.val (pc + 1) lo st M else none
  | .aload k => if n = 2 then mm_lda k (pc + 2) lo st M else none
  | .istore_n k => if n = 1 then mm_sti k.val (pc + 1) lo st M else none
  | .istore k => if n = 2 then mm_sti k (pc + 2) lo st M else none
  | .iinc k v => if n = 3 then mm_inc k v (pc + 3) lo st M else none
  | .iadd => if n = 1 then mm_bin (fun x y => x + y) pc lo st M else none
  | .isub => if n = 1 then mm_bin (fun x y => x - y) pc lo st M else none
  | .imul => if n = 1 then mm_bin (fun x y => x * y) pc lo st M else none
  | .iand => if n = 1 then mm_bin (fun x y => x &&& y) pc lo st M else none
  | .ior => if n = 1 then mm_bin (fun x y => x ||| y) pc lo st M else none
  | .ixor => if n = 1 then mm_bin (fun x y => x ^^^ y) pc lo st M else none
  | .ishl => if n = 1 then mm_bin (fun x y => x <<< (y &&& 31)) pc lo st M else none
  | .ishr => if n = 1 then mm_bin (fun x y => x >>> (y &&& 31)) pc lo st M else none
  | .irem => if n = 1 ∧ st.head? ≠ some (.inl 0) then mm_bin (fun x y => x - x / y * y) pc lo st M else none
  | .ineg => if n = 1 then mm_un (fun x => -x) pc lo st M else none
  | .i2c => if n = 1 then mm_un (fun x => (x.toUInt32 % 65536).toInt32) pc lo st M else none
  | .dup => if n = 1 then (match st with | v :: r => mm_nx (pc + 1) lo (v :: v :: r) M | _ => none) else none
  | .dup2 => if n = 1 then (match st with | v :: w :: r => mm_nx (pc + 1) lo (v :: w :: v :: w :: r) M | _ => none) else none
  | .pop => if n = 1 then (match st with | _ :: r => mm_nx (pc + 1) lo r M | _ => none) else none
  | .goto off => if n = 3 then mm_jmp pc off lo st M else none
  | .ifCond c off => if n = 3 then mm_if1 c pc off lo st M else none
  | .if_icmp c off => if n = 3 then mm_if2 c pc off lo st M else none
  | .tableswitch d l h offs => mm_tsw d l h offs pc lo st M
  | .lookupswitch d ps => mm_lsw d ps pc lo st M
  | .getfield k => if n = 3 then (match mm_fld (mm_cno j) k with | some e => mm_get e pc lo st M | none => none) else none
  | .putfield k => if n = 3 then (match mm_fld (mm_cno j) k with | some e => mm_put e pc lo st M | none => none) else none
  | .getstatic k => if n = 3 then (match mm_stt (mm_cno j) k with | some e => mm_gst e pc lo st M | none => none) else none
  | .iaload => if n = 1 then mm_ald false pc lo st M else none
  | .caload => if n = 1 then mm_ald true pc lo st M else none
  | .iastore => if n = 1 then mm_ast false pc lo st M else none
  | .castore => if n = 1 then mm_ast true pc lo st M else none
  | .arraylength => if n = 1 then mm_len pc lo st M else none
  | .invokevirtual k => if n = 3 then (match mm_cll (mm_cno j) k with | some e => mm_inv j e st | none => none) else none
  | .invokestatic k => if n = 3 then (match mm_cll (mm_cno j) k with | some e => mm_ins j e pc lo st M | none => none) else none
  | .ireturn => if n = 1 then mm_rti j st else none
  | .return_ => if n = 1 then mm_rtv j st else none
  | _ => none
def mm_step (j pc : Nat) (lo : mm_L) (st : List mm_V) (M : mm_M) : mm_R := match decode (mm_code j) pc with
  | .ok q => mm_do j pc q.1 q.2 lo st M
  | .error _ => none
def mm_ent (k : Nat) (as : List mm_V) : mm_L := as.map some ++ List.replicate (mm_maxL k - as.length) none
def mm_rv (r : Option Int32) : List mm_V := match r with | some v => [.inl v] | none => []
def mm_run : Nat → Nat → Nat → mm_L → List mm_V → mm_M → Option (Option Int32 × mm_M)
  | 0, _, _, _, _, _ => none
  | n + 1, j, pc, lo, st, M => match mm_step j pc lo st M with
    | some (.inl q) => mm_run n j q.1 q.2.1 q.2.2.1 q.2.2.2
    | some (.inr (.inl q)) => match mm_run n q.1 0 (mm_ent q.1 q.2.1) [] M with
      | some a => mm_run n j (pc + 3) lo (mm_rv a.1 ++ q.2.2) a.2
      | none => none
    | some (.inr (.inr r)) => some (r, M)
    | none => none
