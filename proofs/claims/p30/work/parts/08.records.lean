/-! THE RECORDS BY NAME -/
theorem kX0_begin : mm_rec 0 = (cX0_begin, yX0_begin, 1, none, 0, 0, 1, 23, 504, 24) := rfl
theorem kyX0_begin : mm_y 0 = yX0_begin := by unfold mm_y; rw [kX0_begin]
theorem kcX0_begin : mm_code 0 = cX0_begin := by unfold mm_code; rw [kX0_begin]
theorem kmX0_begin : mm_maxL 0 = 1 := by unfold mm_maxL; rw [kX0_begin]
theorem krX0_begin : mm_ret 0 = none := by unfold mm_ret; rw [kX0_begin]
theorem knX0_begin : mm_cno 0 = 0 := by unfold mm_cno; rw [kX0_begin]
theorem kpX0_begin : mm_np 0 = 0 := by unfold mm_np; rw [kX0_begin]
theorem kfX0_begin : mm_fr 0 = 1 := by unfold mm_fr; rw [kX0_begin]
theorem klX0_begin : mm_lo 0 = 23 := by unfold mm_lo; rw [kX0_begin]

theorem kX0_compare : mm_rec 1 = (cX0_compare, yX0_compare, 9, none, 0, 5, 4, 88, 509, 24) := rfl
theorem kyX0_compare : mm_y 1 = yX0_compare := by unfold mm_y; rw [kX0_compare]
theorem kcX0_compare : mm_code 1 = cX0_compare := by unfold mm_code; rw [kX0_compare]
theorem kmX0_compare : mm_maxL 1 = 9 := by unfold mm_maxL; rw [kX0_compare]
theorem krX0_compare : mm_ret 1 = none := by unfold mm_ret; rw [kX0_compare]
theorem knX0_compare : mm_cno 1 = 0 := by unfold mm_cno; rw [kX0_compare]
theorem kpX0_compare : mm_np 1 = 5 := by unfold mm_np; rw [kX0_compare]
theorem kfX0_compare : mm_fr 1 = 4 := by unfold mm_fr; rw [kX0_compare]
theorem klX0_compare : mm_lo 1 = 88 := by unfold mm_lo; rw [kX0_compare]

theorem kX0_alikeBeats : mm_rec 2 = (cX0_alikeBeats, yX0_alikeBeats, 4, (some .int), 0, 1, 0, 0, 533, 24) := rfl
theorem kyX0_alikeBeats : mm_y 2 = yX0_alikeBeats := by unfold mm_y; rw [kX0_alikeBeats]
theorem kcX0_alikeBeats : mm_code 2 = cX0_alikeBeats := by unfold mm_code; rw [kX0_alikeBeats]
theorem kmX0_alikeBeats : mm_maxL 2 = 4 := by unfold mm_maxL; rw [kX0_alikeBeats]
theorem krX0_alikeBeats : mm_ret 2 = (some .int) := by unfold mm_ret; rw [kX0_alikeBeats]
theorem knX0_alikeBeats : mm_cno 2 = 0 := by unfold mm_cno; rw [kX0_alikeBeats]
theorem kpX0_alikeBeats : mm_np 2 = 1 := by unfold mm_np; rw [kX0_alikeBeats]
theorem kfX0_alikeBeats : mm_fr 2 = 0 := by unfold mm_fr; rw [kX0_alikeBeats]
theorem klX0_alikeBeats : mm_lo 2 = 0 := by unfold mm_lo; rw [kX0_alikeBeats]

theorem kX1_keep : mm_rec 3 = (cX1_keep, yX1_keep, 4, none, 1, 1, 1, 26, 216, 21) := rfl
theorem kyX1_keep : mm_y 3 = yX1_keep := by unfold mm_y; rw [kX1_keep]
theorem kcX1_keep : mm_code 3 = cX1_keep := by unfold mm_code; rw [kX1_keep]
theorem kmX1_keep : mm_maxL 3 = 4 := by unfold mm_maxL; rw [kX1_keep]
theorem krX1_keep : mm_ret 3 = none := by unfold mm_ret; rw [kX1_keep]
theorem knX1_keep : mm_cno 3 = 1 := by unfold mm_cno; rw [kX1_keep]
theorem kpX1_keep : mm_np 3 = 1 := by unfold mm_np; rw [kX1_keep]
theorem kfX1_keep : mm_fr 3 = 1 := by unfold mm_fr; rw [kX1_keep]
theorem klX1_keep : mm_lo 3 = 26 := by unfold mm_lo; rw [kX1_keep]

theorem kX1_restore : mm_rec 4 = (cX1_restore, yX1_restore, 4, none, 1, 1, 0, 0, 355, 21) := rfl
theorem kyX1_restore : mm_y 4 = yX1_restore := by unfold mm_y; rw [kX1_restore]
theorem kcX1_restore : mm_code 4 = cX1_restore := by unfold mm_code; rw [kX1_restore]
theorem kmX1_restore : mm_maxL 4 = 4 := by unfold mm_maxL; rw [kX1_restore]
theorem krX1_restore : mm_ret 4 = none := by unfold mm_ret; rw [kX1_restore]
theorem knX1_restore : mm_cno 4 = 1 := by unfold mm_cno; rw [kX1_restore]
theorem kpX1_restore : mm_np 4 = 1 := by unfold mm_np; rw [kX1_restore]
theorem kfX1_restore : mm_fr 4 = 0 := by unfold mm_fr; rw [kX1_restore]
theorem klX1_restore : mm_lo 4 = 0 := by unfold mm_lo; rw [kX1_restore]

theorem kX2_empty : mm_rec 5 = (cX2_empty, yX2_empty, 2, none, 2, 1, 0, 0, 223, 20) := rfl
theorem kyX2_empty : mm_y 5 = yX2_empty := by unfold mm_y; rw [kX2_empty]
theorem kcX2_empty : mm_code 5 = cX2_empty := by unfold mm_code; rw [kX2_empty]
theorem kmX2_empty : mm_maxL 5 = 2 := by unfold mm_maxL; rw [kX2_empty]
theorem krX2_empty : mm_ret 5 = none := by unfold mm_ret; rw [kX2_empty]
theorem knX2_empty : mm_cno 5 = 2 := by unfold mm_cno; rw [kX2_empty]
theorem kpX2_empty : mm_np 5 = 1 := by unfold mm_np; rw [kX2_empty]
theorem kfX2_empty : mm_fr 5 = 0 := by unfold mm_fr; rw [kX2_empty]
theorem klX2_empty : mm_lo 5 = 0 := by unfold mm_lo; rw [kX2_empty]

theorem kX2_emptyAs : mm_rec 6 = (cX2_emptyAs, yX2_emptyAs, 2, none, 2, 1, 0, 0, 282, 20) := rfl
theorem kyX2_emptyAs : mm_y 6 = yX2_emptyAs := by unfold mm_y; rw [kX2_emptyAs]
theorem kcX2_emptyAs : mm_code 6 = cX2_emptyAs := by unfold mm_code; rw [kX2_emptyAs]
theorem kmX2_emptyAs : mm_maxL 6 = 2 := by unfold mm_maxL; rw [kX2_emptyAs]
theorem krX2_emptyAs : mm_ret 6 = none := by unfold mm_ret; rw [kX2_emptyAs]
theorem knX2_emptyAs : mm_cno 6 = 2 := by unfold mm_cno; rw [kX2_emptyAs]
theorem kpX2_emptyAs : mm_np 6 = 1 := by unfold mm_np; rw [kX2_emptyAs]
theorem kfX2_emptyAs : mm_fr 6 = 0 := by unfold mm_fr; rw [kX2_emptyAs]
theorem klX2_emptyAs : mm_lo 6 = 0 := by unfold mm_lo; rw [kX2_emptyAs]

theorem kX2_become : mm_rec 7 = (cX2_become, yX2_become, 2, none, 2, 1, 1, 26, 346, 20) := rfl
theorem kyX2_become : mm_y 7 = yX2_become := by unfold mm_y; rw [kX2_become]
theorem kcX2_become : mm_code 7 = cX2_become := by unfold mm_code; rw [kX2_become]
theorem kmX2_become : mm_maxL 7 = 2 := by unfold mm_maxL; rw [kX2_become]
theorem krX2_become : mm_ret 7 = none := by unfold mm_ret; rw [kX2_become]
theorem knX2_become : mm_cno 7 = 2 := by unfold mm_cno; rw [kX2_become]
theorem kpX2_become : mm_np 7 = 1 := by unfold mm_np; rw [kX2_become]
theorem kfX2_become : mm_fr 7 = 1 := by unfold mm_fr; rw [kX2_become]
theorem klX2_become : mm_lo 7 = 26 := by unfold mm_lo; rw [kX2_become]

theorem kX2_at : mm_rec 8 = (cX2_at, yX2_at, 2, (some .int), 2, 1, 0, 0, 367, 20) := rfl
theorem kyX2_at : mm_y 8 = yX2_at := by unfold mm_y; rw [kX2_at]
theorem kcX2_at : mm_code 8 = cX2_at := by unfold mm_code; rw [kX2_at]
theorem kmX2_at : mm_maxL 8 = 2 := by unfold mm_maxL; rw [kX2_at]
theorem krX2_at : mm_ret 8 = (some .int) := by unfold mm_ret; rw [kX2_at]
theorem knX2_at : mm_cno 8 = 2 := by unfold mm_cno; rw [kX2_at]
theorem kpX2_at : mm_np 8 = 1 := by unfold mm_np; rw [kX2_at]
theorem kfX2_at : mm_fr 8 = 0 := by unfold mm_fr; rw [kX2_at]
theorem klX2_at : mm_lo 8 = 0 := by unfold mm_lo; rw [kX2_at]

theorem kX2_hasRoomFor : mm_rec 9 = (cX2_hasRoomFor, yX2_hasRoomFor, 6, (some .boolean), 2, 1, 2, 40, 249, 20) := rfl
theorem kyX2_hasRoomFor : mm_y 9 = yX2_hasRoomFor := by unfold mm_y; rw [kX2_hasRoomFor]
theorem kcX2_hasRoomFor : mm_code 9 = cX2_hasRoomFor := by unfold mm_code; rw [kX2_hasRoomFor]
theorem kmX2_hasRoomFor : mm_maxL 9 = 6 := by unfold mm_maxL; rw [kX2_hasRoomFor]
theorem krX2_hasRoomFor : mm_ret 9 = (some .boolean) := by unfold mm_ret; rw [kX2_hasRoomFor]
theorem knX2_hasRoomFor : mm_cno 9 = 2 := by unfold mm_cno; rw [kX2_hasRoomFor]
theorem kpX2_hasRoomFor : mm_np 9 = 1 := by unfold mm_np; rw [kX2_hasRoomFor]
theorem kfX2_hasRoomFor : mm_fr 9 = 2 := by unfold mm_fr; rw [kX2_hasRoomFor]
theorem klX2_hasRoomFor : mm_lo 9 = 40 := by unfold mm_lo; rw [kX2_hasRoomFor]

theorem kX2_put : mm_rec 10 = (cX2_put, yX2_put, 3, (some .int), 2, 1, 0, 0, 266, 20) := rfl
theorem kyX2_put : mm_y 10 = yX2_put := by unfold mm_y; rw [kX2_put]
theorem kcX2_put : mm_code 10 = cX2_put := by unfold mm_code; rw [kX2_put]
theorem kmX2_put : mm_maxL 10 = 3 := by unfold mm_maxL; rw [kX2_put]
theorem krX2_put : mm_ret 10 = (some .int) := by unfold mm_ret; rw [kX2_put]
theorem knX2_put : mm_cno 10 = 2 := by unfold mm_cno; rw [kX2_put]
theorem kpX2_put : mm_np 10 = 1 := by unfold mm_np; rw [kX2_put]
theorem kfX2_put : mm_fr 10 = 0 := by unfold mm_fr; rw [kX2_put]
theorem klX2_put : mm_lo 10 = 0 := by unfold mm_lo; rw [kX2_put]

theorem kX2_takeOut : mm_rec 11 = (cX2_takeOut, yX2_takeOut, 3, none, 2, 1, 0, 0, 601, 20) := rfl
theorem kyX2_takeOut : mm_y 11 = yX2_takeOut := by unfold mm_y; rw [kX2_takeOut]
theorem kcX2_takeOut : mm_code 11 = cX2_takeOut := by unfold mm_code; rw [kX2_takeOut]
theorem kmX2_takeOut : mm_maxL 11 = 3 := by unfold mm_maxL; rw [kX2_takeOut]
theorem krX2_takeOut : mm_ret 11 = none := by unfold mm_ret; rw [kX2_takeOut]
theorem knX2_takeOut : mm_cno 11 = 2 := by unfold mm_cno; rw [kX2_takeOut]
theorem kpX2_takeOut : mm_np 11 = 1 := by unfold mm_np; rw [kX2_takeOut]
theorem kfX2_takeOut : mm_fr 11 = 0 := by unfold mm_fr; rw [kX2_takeOut]
theorem klX2_takeOut : mm_lo 11 = 0 := by unfold mm_lo; rw [kX2_takeOut]

theorem kX2_endOf : mm_rec 12 = (cX2_endOf, yX2_endOf, 4, (some .int), 2, 1, 2, 40, 376, 20) := rfl
theorem kyX2_endOf : mm_y 12 = yX2_endOf := by unfold mm_y; rw [kX2_endOf]
theorem kcX2_endOf : mm_code 12 = cX2_endOf := by unfold mm_code; rw [kX2_endOf]
theorem kmX2_endOf : mm_maxL 12 = 4 := by unfold mm_maxL; rw [kX2_endOf]
theorem krX2_endOf : mm_ret 12 = (some .int) := by unfold mm_ret; rw [kX2_endOf]
theorem knX2_endOf : mm_cno 12 = 2 := by unfold mm_cno; rw [kX2_endOf]
theorem kpX2_endOf : mm_np 12 = 1 := by unfold mm_np; rw [kX2_endOf]
theorem kfX2_endOf : mm_fr 12 = 2 := by unfold mm_fr; rw [kX2_endOf]
theorem klX2_endOf : mm_lo 12 = 40 := by unfold mm_lo; rw [kX2_endOf]

theorem kX2_numberCovering : mm_rec 13 = (cX2_numberCovering, yX2_numberCovering, 5, (some .int), 2, 2, 3, 63, 476, 20) := rfl
theorem kyX2_numberCovering : mm_y 13 = yX2_numberCovering := by unfold mm_y; rw [kX2_numberCovering]
theorem kcX2_numberCovering : mm_code 13 = cX2_numberCovering := by unfold mm_code; rw [kX2_numberCovering]
theorem kmX2_numberCovering : mm_maxL 13 = 5 := by unfold mm_maxL; rw [kX2_numberCovering]
theorem krX2_numberCovering : mm_ret 13 = (some .int) := by unfold mm_ret; rw [kX2_numberCovering]
theorem knX2_numberCovering : mm_cno 13 = 2 := by unfold mm_cno; rw [kX2_numberCovering]
theorem kpX2_numberCovering : mm_np 13 = 2 := by unfold mm_np; rw [kX2_numberCovering]
theorem kfX2_numberCovering : mm_fr 13 = 3 := by unfold mm_fr; rw [kX2_numberCovering]
theorem klX2_numberCovering : mm_lo 13 = 63 := by unfold mm_lo; rw [kX2_numberCovering]

theorem kX2_fillRow : mm_rec 14 = (cX2_fillRow, yX2_fillRow, 6, none, 2, 2, 3, 63, 431, 20) := rfl
theorem kyX2_fillRow : mm_y 14 = yX2_fillRow := by unfold mm_y; rw [kX2_fillRow]
theorem kcX2_fillRow : mm_code 14 = cX2_fillRow := by unfold mm_code; rw [kX2_fillRow]
theorem kmX2_fillRow : mm_maxL 14 = 6 := by unfold mm_maxL; rw [kX2_fillRow]
theorem krX2_fillRow : mm_ret 14 = none := by unfold mm_ret; rw [kX2_fillRow]
theorem knX2_fillRow : mm_cno 14 = 2 := by unfold mm_cno; rw [kX2_fillRow]
theorem kpX2_fillRow : mm_np 14 = 2 := by unfold mm_np; rw [kX2_fillRow]
theorem kfX2_fillRow : mm_fr 14 = 3 := by unfold mm_fr; rw [kX2_fillRow]
theorem klX2_fillRow : mm_lo 14 = 63 := by unfold mm_lo; rw [kX2_fillRow]

theorem kX3_append : mm_rec 15 = (cX3_append, yX3_append, 2, none, 3, 1, 0, 0, 395, 25) := rfl
theorem kyX3_append : mm_y 15 = yX3_append := by unfold mm_y; rw [kX3_append]
theorem kcX3_append : mm_code 15 = cX3_append := by unfold mm_code; rw [kX3_append]
theorem kmX3_append : mm_maxL 15 = 2 := by unfold mm_maxL; rw [kX3_append]
theorem krX3_append : mm_ret 15 = none := by unfold mm_ret; rw [kX3_append]
theorem knX3_append : mm_cno 15 = 3 := by unfold mm_cno; rw [kX3_append]
theorem kpX3_append : mm_np 15 = 1 := by unfold mm_np; rw [kX3_append]
theorem kfX3_append : mm_fr 15 = 0 := by unfold mm_fr; rw [kX3_append]
theorem klX3_append : mm_lo 15 = 0 := by unfold mm_lo; rw [kX3_append]

theorem kX3_readFor : mm_rec 16 = (cX3_readFor, yX3_readFor, 5, (some .int), 3, 2, 5, 125, 278, 25) := rfl
theorem kyX3_readFor : mm_y 16 = yX3_readFor := by unfold mm_y; rw [kX3_readFor]
theorem kcX3_readFor : mm_code 16 = cX3_readFor := by unfold mm_code; rw [kX3_readFor]
theorem kmX3_readFor : mm_maxL 16 = 5 := by unfold mm_maxL; rw [kX3_readFor]
theorem krX3_readFor : mm_ret 16 = (some .int) := by unfold mm_ret; rw [kX3_readFor]
theorem knX3_readFor : mm_cno 16 = 3 := by unfold mm_cno; rw [kX3_readFor]
theorem kpX3_readFor : mm_np 16 = 2 := by unfold mm_np; rw [kX3_readFor]
theorem kfX3_readFor : mm_fr 16 = 5 := by unfold mm_fr; rw [kX3_readFor]
theorem klX3_readFor : mm_lo 16 = 125 := by unfold mm_lo; rw [kX3_readFor]

theorem kX3_readItem : mm_rec 17 = (cX3_readItem, yX3_readItem, 8, (some .boolean), 3, 1, 4, 98, 289, 25) := rfl
theorem kyX3_readItem : mm_y 17 = yX3_readItem := by unfold mm_y; rw [kX3_readItem]
theorem kcX3_readItem : mm_code 17 = cX3_readItem := by unfold mm_code; rw [kX3_readItem]
theorem kmX3_readItem : mm_maxL 17 = 8 := by unfold mm_maxL; rw [kX3_readItem]
theorem krX3_readItem : mm_ret 17 = (some .boolean) := by unfold mm_ret; rw [kX3_readItem]
theorem knX3_readItem : mm_cno 17 = 3 := by unfold mm_cno; rw [kX3_readItem]
theorem kpX3_readItem : mm_np 17 = 1 := by unfold mm_np; rw [kX3_readItem]
theorem kfX3_readItem : mm_fr 17 = 4 := by unfold mm_fr; rw [kX3_readItem]
theorem klX3_readItem : mm_lo 17 = 98 := by unfold mm_lo; rw [kX3_readItem]

theorem kX3_spanOf : mm_rec 18 = (cX3_spanOf, yX3_spanOf, 1, (some .int), 3, 1, 1, 20, 337, 25) := rfl
theorem kyX3_spanOf : mm_y 18 = yX3_spanOf := by unfold mm_y; rw [kX3_spanOf]
theorem kcX3_spanOf : mm_code 18 = cX3_spanOf := by unfold mm_code; rw [kX3_spanOf]
theorem kmX3_spanOf : mm_maxL 18 = 1 := by unfold mm_maxL; rw [kX3_spanOf]
theorem krX3_spanOf : mm_ret 18 = (some .int) := by unfold mm_ret; rw [kX3_spanOf]
theorem knX3_spanOf : mm_cno 18 = 3 := by unfold mm_cno; rw [kX3_spanOf]
theorem kpX3_spanOf : mm_np 18 = 1 := by unfold mm_np; rw [kX3_spanOf]
theorem kfX3_spanOf : mm_fr 18 = 1 := by unfold mm_fr; rw [kX3_spanOf]
theorem klX3_spanOf : mm_lo 18 = 20 := by unfold mm_lo; rw [kX3_spanOf]

theorem kX3_isTaken : mm_rec 19 = (cX3_isTaken, yX3_isTaken, 2, (some .boolean), 3, 2, 1, 22, 341, 25) := rfl
theorem kyX3_isTaken : mm_y 19 = yX3_isTaken := by unfold mm_y; rw [kX3_isTaken]
theorem kcX3_isTaken : mm_code 19 = cX3_isTaken := by unfold mm_code; rw [kX3_isTaken]
theorem kmX3_isTaken : mm_maxL 19 = 2 := by unfold mm_maxL; rw [kX3_isTaken]
theorem krX3_isTaken : mm_ret 19 = (some .boolean) := by unfold mm_ret; rw [kX3_isTaken]
theorem knX3_isTaken : mm_cno 19 = 3 := by unfold mm_cno; rw [kX3_isTaken]
theorem kpX3_isTaken : mm_np 19 = 2 := by unfold mm_np; rw [kX3_isTaken]
theorem kfX3_isTaken : mm_fr 19 = 1 := by unfold mm_fr; rw [kX3_isTaken]
theorem klX3_isTaken : mm_lo 19 = 22 := by unfold mm_lo; rw [kX3_isTaken]

theorem kX3_readSign : mm_rec 20 = (cX3_readSign, yX3_readSign, 4, (some .int), 3, 3, 3, 75, 308, 25) := rfl
theorem kyX3_readSign : mm_y 20 = yX3_readSign := by unfold mm_y; rw [kX3_readSign]
theorem kcX3_readSign : mm_code 20 = cX3_readSign := by unfold mm_code; rw [kX3_readSign]
theorem kmX3_readSign : mm_maxL 20 = 4 := by unfold mm_maxL; rw [kX3_readSign]
theorem krX3_readSign : mm_ret 20 = (some .int) := by unfold mm_ret; rw [kX3_readSign]
theorem knX3_readSign : mm_cno 20 = 3 := by unfold mm_cno; rw [kX3_readSign]
theorem kpX3_readSign : mm_np 20 = 3 := by unfold mm_np; rw [kX3_readSign]
theorem kfX3_readSign : mm_fr 20 = 3 := by unfold mm_fr; rw [kX3_readSign]
theorem klX3_readSign : mm_lo 20 = 75 := by unfold mm_lo; rw [kX3_readSign]

theorem kX3_readMove : mm_rec 21 = (cX3_readMove, yX3_readMove, 6, (some .int), 3, 2, 2, 50, 312, 25) := rfl
theorem kyX3_readMove : mm_y 21 = yX3_readMove := by unfold mm_y; rw [kX3_readMove]
theorem kcX3_readMove : mm_code 21 = cX3_readMove := by unfold mm_code; rw [kX3_readMove]
theorem kmX3_readMove : mm_maxL 21 = 6 := by unfold mm_maxL; rw [kX3_readMove]
theorem krX3_readMove : mm_ret 21 = (some .int) := by unfold mm_ret; rw [kX3_readMove]
theorem knX3_readMove : mm_cno 21 = 3 := by unfold mm_cno; rw [kX3_readMove]
theorem kpX3_readMove : mm_np 21 = 2 := by unfold mm_np; rw [kX3_readMove]
theorem kfX3_readMove : mm_fr 21 = 2 := by unfold mm_fr; rw [kX3_readMove]
theorem klX3_readMove : mm_lo 21 = 50 := by unfold mm_lo; rw [kX3_readMove]

theorem kX3_readTurn : mm_rec 22 = (cX3_readTurn, yX3_readTurn, 7, (some .int), 3, 2, 2, 49, 328, 25) := rfl
theorem kyX3_readTurn : mm_y 22 = yX3_readTurn := by unfold mm_y; rw [kX3_readTurn]
theorem kcX3_readTurn : mm_code 22 = cX3_readTurn := by unfold mm_code; rw [kX3_readTurn]
theorem kmX3_readTurn : mm_maxL 22 = 7 := by unfold mm_maxL; rw [kX3_readTurn]
theorem krX3_readTurn : mm_ret 22 = (some .int) := by unfold mm_ret; rw [kX3_readTurn]
theorem knX3_readTurn : mm_cno 22 = 3 := by unfold mm_cno; rw [kX3_readTurn]
theorem kpX3_readTurn : mm_np 22 = 2 := by unfold mm_np; rw [kX3_readTurn]
theorem kfX3_readTurn : mm_fr 22 = 2 := by unfold mm_fr; rw [kX3_readTurn]
theorem klX3_readTurn : mm_lo 22 = 49 := by unfold mm_lo; rw [kX3_readTurn]

theorem kX3_levelNamed : mm_rec 23 = (cX3_levelNamed, yX3_levelNamed, 1, (some .int), 3, 1, 0, 0, 315, 25) := rfl
theorem kyX3_levelNamed : mm_y 23 = yX3_levelNamed := by unfold mm_y; rw [kX3_levelNamed]
theorem kcX3_levelNamed : mm_code 23 = cX3_levelNamed := by unfold mm_code; rw [kX3_levelNamed]
theorem kmX3_levelNamed : mm_maxL 23 = 1 := by unfold mm_maxL; rw [kX3_levelNamed]
theorem krX3_levelNamed : mm_ret 23 = (some .int) := by unfold mm_ret; rw [kX3_levelNamed]
theorem knX3_levelNamed : mm_cno 23 = 3 := by unfold mm_cno; rw [kX3_levelNamed]
theorem kpX3_levelNamed : mm_np 23 = 1 := by unfold mm_np; rw [kX3_levelNamed]
theorem kfX3_levelNamed : mm_fr 23 = 0 := by unfold mm_fr; rw [kX3_levelNamed]
theorem klX3_levelNamed : mm_lo 23 = 0 := by unfold mm_lo; rw [kX3_levelNamed]

theorem kX3_readLength : mm_rec 24 = (cX3_readLength, yX3_readLength, 3, (some .int), 3, 0, 1, 22, 319, 25) := rfl
theorem kyX3_readLength : mm_y 24 = yX3_readLength := by unfold mm_y; rw [kX3_readLength]
theorem kcX3_readLength : mm_code 24 = cX3_readLength := by unfold mm_code; rw [kX3_readLength]
theorem kmX3_readLength : mm_maxL 24 = 3 := by unfold mm_maxL; rw [kX3_readLength]
theorem krX3_readLength : mm_ret 24 = (some .int) := by unfold mm_ret; rw [kX3_readLength]
theorem knX3_readLength : mm_cno 24 = 3 := by unfold mm_cno; rw [kX3_readLength]
theorem kpX3_readLength : mm_np 24 = 0 := by unfold mm_np; rw [kX3_readLength]
theorem kfX3_readLength : mm_fr 24 = 1 := by unfold mm_fr; rw [kX3_readLength]
theorem klX3_readLength : mm_lo 24 = 22 := by unfold mm_lo; rw [kX3_readLength]

theorem kX3_readDigit : mm_rec 25 = (cX3_readDigit, yX3_readDigit, 2, (some .int), 3, 0, 1, 22, 293, 25) := rfl
theorem kyX3_readDigit : mm_y 25 = yX3_readDigit := by unfold mm_y; rw [kX3_readDigit]
theorem kcX3_readDigit : mm_code 25 = cX3_readDigit := by unfold mm_code; rw [kX3_readDigit]
theorem kmX3_readDigit : mm_maxL 25 = 2 := by unfold mm_maxL; rw [kX3_readDigit]
theorem krX3_readDigit : mm_ret 25 = (some .int) := by unfold mm_ret; rw [kX3_readDigit]
theorem knX3_readDigit : mm_cno 25 = 3 := by unfold mm_cno; rw [kX3_readDigit]
theorem kpX3_readDigit : mm_np 25 = 0 := by unfold mm_np; rw [kX3_readDigit]
theorem kfX3_readDigit : mm_fr 25 = 1 := by unfold mm_fr; rw [kX3_readDigit]
theorem klX3_readDigit : mm_lo 25 = 22 := by unfold mm_lo; rw [kX3_readDigit]

theorem kX3_readCharacter : mm_rec 26 = (cX3_readCharacter, yX3_readCharacter, 2, (some .int), 3, 0, 0, 0, 304, 25) := rfl
theorem kyX3_readCharacter : mm_y 26 = yX3_readCharacter := by unfold mm_y; rw [kX3_readCharacter]
theorem kcX3_readCharacter : mm_code 26 = cX3_readCharacter := by unfold mm_code; rw [kX3_readCharacter]
theorem kmX3_readCharacter : mm_maxL 26 = 2 := by unfold mm_maxL; rw [kX3_readCharacter]
theorem krX3_readCharacter : mm_ret 26 = (some .int) := by unfold mm_ret; rw [kX3_readCharacter]
theorem knX3_readCharacter : mm_cno 26 = 3 := by unfold mm_cno; rw [kX3_readCharacter]
theorem kpX3_readCharacter : mm_np 26 = 0 := by unfold mm_np; rw [kX3_readCharacter]
theorem kfX3_readCharacter : mm_fr 26 = 0 := by unfold mm_fr; rw [kX3_readCharacter]
theorem klX3_readCharacter : mm_lo 26 = 0 := by unfold mm_lo; rw [kX3_readCharacter]

theorem kX3_digitAt : mm_rec 27 = (cX3_digitAt, yX3_digitAt, 3, (some .int), 3, 1, 0, 0, 297, 25) := rfl
theorem kyX3_digitAt : mm_y 27 = yX3_digitAt := by unfold mm_y; rw [kX3_digitAt]
theorem kcX3_digitAt : mm_code 27 = cX3_digitAt := by unfold mm_code; rw [kX3_digitAt]
theorem kmX3_digitAt : mm_maxL 27 = 3 := by unfold mm_maxL; rw [kX3_digitAt]
theorem krX3_digitAt : mm_ret 27 = (some .int) := by unfold mm_ret; rw [kX3_digitAt]
theorem knX3_digitAt : mm_cno 27 = 3 := by unfold mm_cno; rw [kX3_digitAt]
theorem kpX3_digitAt : mm_np 27 = 1 := by unfold mm_np; rw [kX3_digitAt]
theorem kfX3_digitAt : mm_fr 27 = 0 := by unfold mm_fr; rw [kX3_digitAt]
theorem klX3_digitAt : mm_lo 27 = 0 := by unfold mm_lo; rw [kX3_digitAt]

theorem kX4_move : mm_rec 28 = (cX4_move, yX4_move, 5, (some .int), 4, 5, 1, 26, 238, 27) := rfl
theorem kyX4_move : mm_y 28 = yX4_move := by unfold mm_y; rw [kX4_move]
theorem kcX4_move : mm_code 28 = cX4_move := by unfold mm_code; rw [kX4_move]
theorem kmX4_move : mm_maxL 28 = 5 := by unfold mm_maxL; rw [kX4_move]
theorem krX4_move : mm_ret 28 = (some .int) := by unfold mm_ret; rw [kX4_move]
theorem knX4_move : mm_cno 28 = 4 := by unfold mm_cno; rw [kX4_move]
theorem kpX4_move : mm_np 28 = 5 := by unfold mm_np; rw [kX4_move]
theorem kfX4_move : mm_fr 28 = 1 := by unfold mm_fr; rw [kX4_move]
theorem klX4_move : mm_lo 28 = 26 := by unfold mm_lo; rw [kX4_move]

theorem kX4_hold : mm_rec 29 = (cX4_hold, yX4_hold, 2, (some .int), 4, 2, 1, 26, 324, 27) := rfl
theorem kyX4_hold : mm_y 29 = yX4_hold := by unfold mm_y; rw [kX4_hold]
theorem kcX4_hold : mm_code 29 = cX4_hold := by unfold mm_code; rw [kX4_hold]
theorem kmX4_hold : mm_maxL 29 = 2 := by unfold mm_maxL; rw [kX4_hold]
theorem krX4_hold : mm_ret 29 = (some .int) := by unfold mm_ret; rw [kX4_hold]
theorem knX4_hold : mm_cno 29 = 4 := by unfold mm_cno; rw [kX4_hold]
theorem kpX4_hold : mm_np 29 = 2 := by unfold mm_np; rw [kX4_hold]
theorem kfX4_hold : mm_fr 29 = 1 := by unfold mm_fr; rw [kX4_hold]
theorem klX4_hold : mm_lo 29 = 26 := by unfold mm_lo; rw [kX4_hold]

theorem kX4_turn : mm_rec 30 = (cX4_turn, yX4_turn, 4, (some .int), 4, 4, 1, 26, 331, 27) := rfl
theorem kyX4_turn : mm_y 30 = yX4_turn := by unfold mm_y; rw [kX4_turn]
theorem kcX4_turn : mm_code 30 = cX4_turn := by unfold mm_code; rw [kX4_turn]
theorem kmX4_turn : mm_maxL 30 = 4 := by unfold mm_maxL; rw [kX4_turn]
theorem krX4_turn : mm_ret 30 = (some .int) := by unfold mm_ret; rw [kX4_turn]
theorem knX4_turn : mm_cno 30 = 4 := by unfold mm_cno; rw [kX4_turn]
theorem kpX4_turn : mm_np 30 = 4 := by unfold mm_np; rw [kX4_turn]
theorem kfX4_turn : mm_fr 30 = 1 := by unfold mm_fr; rw [kX4_turn]
theorem klX4_turn : mm_lo 30 = 26 := by unfold mm_lo; rw [kX4_turn]

theorem kX4_release : mm_rec 31 = (cX4_release, yX4_release, 3, (some .int), 4, 3, 1, 26, 334, 27) := rfl
theorem kyX4_release : mm_y 31 = yX4_release := by unfold mm_y; rw [kX4_release]
theorem kcX4_release : mm_code 31 = cX4_release := by unfold mm_code; rw [kX4_release]
theorem kmX4_release : mm_maxL 31 = 3 := by unfold mm_maxL; rw [kX4_release]
theorem krX4_release : mm_ret 31 = (some .int) := by unfold mm_ret; rw [kX4_release]
theorem knX4_release : mm_cno 31 = 4 := by unfold mm_cno; rw [kX4_release]
theorem kpX4_release : mm_np 31 = 3 := by unfold mm_np; rw [kX4_release]
theorem kfX4_release : mm_fr 31 = 1 := by unfold mm_fr; rw [kX4_release]
theorem klX4_release : mm_lo 31 = 26 := by unfold mm_lo; rw [kX4_release]

theorem kX4_packed : mm_rec 32 = (cX4_packed, yX4_packed, 7, (some .int), 4, 7, 0, 0, 241, 27) := rfl
theorem kyX4_packed : mm_y 32 = yX4_packed := by unfold mm_y; rw [kX4_packed]
theorem kcX4_packed : mm_code 32 = cX4_packed := by unfold mm_code; rw [kX4_packed]
theorem kmX4_packed : mm_maxL 32 = 7 := by unfold mm_maxL; rw [kX4_packed]
theorem krX4_packed : mm_ret 32 = (some .int) := by unfold mm_ret; rw [kX4_packed]
theorem knX4_packed : mm_cno 32 = 4 := by unfold mm_cno; rw [kX4_packed]
theorem kpX4_packed : mm_np 32 = 7 := by unfold mm_np; rw [kX4_packed]
theorem kfX4_packed : mm_fr 32 = 0 := by unfold mm_fr; rw [kX4_packed]
theorem klX4_packed : mm_lo 32 = 0 := by unfold mm_lo; rw [kX4_packed]

theorem kX4_beginOf : mm_rec 33 = (cX4_beginOf, yX4_beginOf, 1, (some .int), 4, 1, 0, 0, 252, 27) := rfl
theorem kyX4_beginOf : mm_y 33 = yX4_beginOf := by unfold mm_y; rw [kX4_beginOf]
theorem kcX4_beginOf : mm_code 33 = cX4_beginOf := by unfold mm_code; rw [kX4_beginOf]
theorem kmX4_beginOf : mm_maxL 33 = 1 := by unfold mm_maxL; rw [kX4_beginOf]
theorem krX4_beginOf : mm_ret 33 = (some .int) := by unfold mm_ret; rw [kX4_beginOf]
theorem knX4_beginOf : mm_cno 33 = 4 := by unfold mm_cno; rw [kX4_beginOf]
theorem kpX4_beginOf : mm_np 33 = 1 := by unfold mm_np; rw [kX4_beginOf]
theorem kfX4_beginOf : mm_fr 33 = 0 := by unfold mm_fr; rw [kX4_beginOf]
theorem klX4_beginOf : mm_lo 33 = 0 := by unfold mm_lo; rw [kX4_beginOf]

theorem kX4_columnOf : mm_rec 34 = (cX4_columnOf, yX4_columnOf, 1, (some .int), 4, 1, 0, 0, 262, 27) := rfl
theorem kyX4_columnOf : mm_y 34 = yX4_columnOf := by unfold mm_y; rw [kX4_columnOf]
theorem kcX4_columnOf : mm_code 34 = cX4_columnOf := by unfold mm_code; rw [kX4_columnOf]
theorem kmX4_columnOf : mm_maxL 34 = 1 := by unfold mm_maxL; rw [kX4_columnOf]
theorem krX4_columnOf : mm_ret 34 = (some .int) := by unfold mm_ret; rw [kX4_columnOf]
theorem knX4_columnOf : mm_cno 34 = 4 := by unfold mm_cno; rw [kX4_columnOf]
theorem kpX4_columnOf : mm_np 34 = 1 := by unfold mm_np; rw [kX4_columnOf]
theorem kfX4_columnOf : mm_fr 34 = 0 := by unfold mm_fr; rw [kX4_columnOf]
theorem klX4_columnOf : mm_lo 34 = 0 := by unfold mm_lo; rw [kX4_columnOf]

theorem kX4_spanOf : mm_rec 35 = (cX4_spanOf, yX4_spanOf, 1, (some .int), 4, 1, 0, 0, 259, 27) := rfl
theorem kyX4_spanOf : mm_y 35 = yX4_spanOf := by unfold mm_y; rw [kX4_spanOf]
theorem kcX4_spanOf : mm_code 35 = cX4_spanOf := by unfold mm_code; rw [kX4_spanOf]
theorem kmX4_spanOf : mm_maxL 35 = 1 := by unfold mm_maxL; rw [kX4_spanOf]
theorem krX4_spanOf : mm_ret 35 = (some .int) := by unfold mm_ret; rw [kX4_spanOf]
theorem knX4_spanOf : mm_cno 35 = 4 := by unfold mm_cno; rw [kX4_spanOf]
theorem kpX4_spanOf : mm_np 35 = 1 := by unfold mm_np; rw [kX4_spanOf]
theorem kfX4_spanOf : mm_fr 35 = 0 := by unfold mm_fr; rw [kX4_spanOf]
theorem klX4_spanOf : mm_lo 35 = 0 := by unfold mm_lo; rw [kX4_spanOf]

theorem kX4_kindOf : mm_rec 36 = (cX4_kindOf, yX4_kindOf, 1, (some .int), 4, 1, 0, 0, 370, 27) := rfl
theorem kyX4_kindOf : mm_y 36 = yX4_kindOf := by unfold mm_y; rw [kX4_kindOf]
theorem kcX4_kindOf : mm_code 36 = cX4_kindOf := by unfold mm_code; rw [kX4_kindOf]
theorem kmX4_kindOf : mm_maxL 36 = 1 := by unfold mm_maxL; rw [kX4_kindOf]
theorem krX4_kindOf : mm_ret 36 = (some .int) := by unfold mm_ret; rw [kX4_kindOf]
theorem knX4_kindOf : mm_cno 36 = 4 := by unfold mm_cno; rw [kX4_kindOf]
theorem kpX4_kindOf : mm_np 36 = 1 := by unfold mm_np; rw [kX4_kindOf]
theorem kfX4_kindOf : mm_fr 36 = 0 := by unfold mm_fr; rw [kX4_kindOf]
theorem klX4_kindOf : mm_lo 36 = 0 := by unfold mm_lo; rw [kX4_kindOf]

theorem kX4_directionOf : mm_rec 37 = (cX4_directionOf, yX4_directionOf, 1, (some .int), 4, 1, 0, 0, 381, 27) := rfl
theorem kyX4_directionOf : mm_y 37 = yX4_directionOf := by unfold mm_y; rw [kX4_directionOf]
theorem kcX4_directionOf : mm_code 37 = cX4_directionOf := by unfold mm_code; rw [kX4_directionOf]
theorem kmX4_directionOf : mm_maxL 37 = 1 := by unfold mm_maxL; rw [kX4_directionOf]
theorem krX4_directionOf : mm_ret 37 = (some .int) := by unfold mm_ret; rw [kX4_directionOf]
theorem knX4_directionOf : mm_cno 37 = 4 := by unfold mm_cno; rw [kX4_directionOf]
theorem kpX4_directionOf : mm_np 37 = 1 := by unfold mm_np; rw [kX4_directionOf]
theorem kfX4_directionOf : mm_fr 37 = 0 := by unfold mm_fr; rw [kX4_directionOf]
theorem klX4_directionOf : mm_lo 37 = 0 := by unfold mm_lo; rw [kX4_directionOf]

theorem kX4_levelOf : mm_rec 38 = (cX4_levelOf, yX4_levelOf, 1, (some .int), 4, 1, 0, 0, 384, 27) := rfl
theorem kyX4_levelOf : mm_y 38 = yX4_levelOf := by unfold mm_y; rw [kX4_levelOf]
theorem kcX4_levelOf : mm_code 38 = cX4_levelOf := by unfold mm_code; rw [kX4_levelOf]
theorem kmX4_levelOf : mm_maxL 38 = 1 := by unfold mm_maxL; rw [kX4_levelOf]
theorem krX4_levelOf : mm_ret 38 = (some .int) := by unfold mm_ret; rw [kX4_levelOf]
theorem knX4_levelOf : mm_cno 38 = 4 := by unfold mm_cno; rw [kX4_levelOf]
theorem kpX4_levelOf : mm_np 38 = 1 := by unfold mm_np; rw [kX4_levelOf]
theorem kfX4_levelOf : mm_fr 38 = 0 := by unfold mm_fr; rw [kX4_levelOf]
theorem klX4_levelOf : mm_lo 38 = 0 := by unfold mm_lo; rw [kX4_levelOf]

theorem kX4_amountOf : mm_rec 39 = (cX4_amountOf, yX4_amountOf, 1, (some .int), 4, 1, 0, 0, 387, 27) := rfl
theorem kyX4_amountOf : mm_y 39 = yX4_amountOf := by unfold mm_y; rw [kX4_amountOf]
theorem kcX4_amountOf : mm_code 39 = cX4_amountOf := by unfold mm_code; rw [kX4_amountOf]
theorem kmX4_amountOf : mm_maxL 39 = 1 := by unfold mm_maxL; rw [kX4_amountOf]
theorem krX4_amountOf : mm_ret 39 = (some .int) := by unfold mm_ret; rw [kX4_amountOf]
theorem knX4_amountOf : mm_cno 39 = 4 := by unfold mm_cno; rw [kX4_amountOf]
theorem kpX4_amountOf : mm_np 39 = 1 := by unfold mm_np; rw [kX4_amountOf]
theorem kfX4_amountOf : mm_fr 39 = 0 := by unfold mm_fr; rw [kX4_amountOf]
theorem klX4_amountOf : mm_lo 39 = 0 := by unfold mm_lo; rw [kX4_amountOf]

theorem kX4_shortEndOf : mm_rec 40 = (cX4_shortEndOf, yX4_shortEndOf, 1, (some .int), 4, 1, 1, 20, 255, 27) := rfl
theorem kyX4_shortEndOf : mm_y 40 = yX4_shortEndOf := by unfold mm_y; rw [kX4_shortEndOf]
theorem kcX4_shortEndOf : mm_code 40 = cX4_shortEndOf := by unfold mm_code; rw [kX4_shortEndOf]
theorem kmX4_shortEndOf : mm_maxL 40 = 1 := by unfold mm_maxL; rw [kX4_shortEndOf]
theorem krX4_shortEndOf : mm_ret 40 = (some .int) := by unfold mm_ret; rw [kX4_shortEndOf]
theorem knX4_shortEndOf : mm_cno 40 = 4 := by unfold mm_cno; rw [kX4_shortEndOf]
theorem kpX4_shortEndOf : mm_np 40 = 1 := by unfold mm_np; rw [kX4_shortEndOf]
theorem kfX4_shortEndOf : mm_fr 40 = 1 := by unfold mm_fr; rw [kX4_shortEndOf]
theorem klX4_shortEndOf : mm_lo 40 = 20 := by unfold mm_lo; rw [kX4_shortEndOf]

theorem kX4_lookOf : mm_rec 41 = (cX4_lookOf, yX4_lookOf, 1, (some .int), 4, 1, 0, 0, 529, 27) := rfl
theorem kyX4_lookOf : mm_y 41 = yX4_lookOf := by unfold mm_y; rw [kX4_lookOf]
theorem kcX4_lookOf : mm_code 41 = cX4_lookOf := by unfold mm_code; rw [kX4_lookOf]
theorem kmX4_lookOf : mm_maxL 41 = 1 := by unfold mm_maxL; rw [kX4_lookOf]
theorem krX4_lookOf : mm_ret 41 = (some .int) := by unfold mm_ret; rw [kX4_lookOf]
theorem knX4_lookOf : mm_cno 41 = 4 := by unfold mm_cno; rw [kX4_lookOf]
theorem kpX4_lookOf : mm_np 41 = 1 := by unfold mm_np; rw [kX4_lookOf]
theorem kfX4_lookOf : mm_fr 41 = 0 := by unfold mm_fr; rw [kX4_lookOf]
theorem klX4_lookOf : mm_lo 41 = 0 := by unfold mm_lo; rw [kX4_lookOf]

theorem kX4_movedTo : mm_rec 42 = (cX4_movedTo, yX4_movedTo, 2, (some .int), 4, 2, 1, 26, 613, 27) := rfl
theorem kyX4_movedTo : mm_y 42 = yX4_movedTo := by unfold mm_y; rw [kX4_movedTo]
theorem kcX4_movedTo : mm_code 42 = cX4_movedTo := by unfold mm_code; rw [kX4_movedTo]
theorem kmX4_movedTo : mm_maxL 42 = 2 := by unfold mm_maxL; rw [kX4_movedTo]
theorem krX4_movedTo : mm_ret 42 = (some .int) := by unfold mm_ret; rw [kX4_movedTo]
theorem knX4_movedTo : mm_cno 42 = 4 := by unfold mm_cno; rw [kX4_movedTo]
theorem kpX4_movedTo : mm_np 42 = 2 := by unfold mm_np; rw [kX4_movedTo]
theorem kfX4_movedTo : mm_fr 42 = 1 := by unfold mm_fr; rw [kX4_movedTo]
theorem klX4_movedTo : mm_lo 42 = 26 := by unfold mm_lo; rw [kX4_movedTo]

theorem kX4_turnedBack : mm_rec 43 = (cX4_turnedBack, yX4_turnedBack, 1, (some .int), 4, 1, 1, 26, 620, 27) := rfl
theorem kyX4_turnedBack : mm_y 43 = yX4_turnedBack := by unfold mm_y; rw [kX4_turnedBack]
theorem kcX4_turnedBack : mm_code 43 = cX4_turnedBack := by unfold mm_code; rw [kX4_turnedBack]
theorem kmX4_turnedBack : mm_maxL 43 = 1 := by unfold mm_maxL; rw [kX4_turnedBack]
theorem krX4_turnedBack : mm_ret 43 = (some .int) := by unfold mm_ret; rw [kX4_turnedBack]
theorem knX4_turnedBack : mm_cno 43 = 4 := by unfold mm_cno; rw [kX4_turnedBack]
theorem kpX4_turnedBack : mm_np 43 = 1 := by unfold mm_np; rw [kX4_turnedBack]
theorem kfX4_turnedBack : mm_fr 43 = 1 := by unfold mm_fr; rw [kX4_turnedBack]
theorem klX4_turnedBack : mm_lo 43 = 26 := by unfold mm_lo; rw [kX4_turnedBack]

theorem kX4_mirrored : mm_rec 44 = (cX4_mirrored, yX4_mirrored, 1, (some .int), 4, 1, 1, 26, 517, 27) := rfl
theorem kyX4_mirrored : mm_y 44 = yX4_mirrored := by unfold mm_y; rw [kX4_mirrored]
theorem kcX4_mirrored : mm_code 44 = cX4_mirrored := by unfold mm_code; rw [kX4_mirrored]
theorem kmX4_mirrored : mm_maxL 44 = 1 := by unfold mm_maxL; rw [kX4_mirrored]
theorem krX4_mirrored : mm_ret 44 = (some .int) := by unfold mm_ret; rw [kX4_mirrored]
theorem knX4_mirrored : mm_cno 44 = 4 := by unfold mm_cno; rw [kX4_mirrored]
theorem kpX4_mirrored : mm_np 44 = 1 := by unfold mm_np; rw [kX4_mirrored]
theorem kfX4_mirrored : mm_fr 44 = 1 := by unfold mm_fr; rw [kX4_mirrored]
theorem klX4_mirrored : mm_lo 44 = 26 := by unfold mm_lo; rw [kX4_mirrored]

theorem kX4_mirroredColumn : mm_rec 45 = (cX4_mirroredColumn, yX4_mirroredColumn, 1, (some .int), 4, 1, 0, 0, 513, 27) := rfl
theorem kyX4_mirroredColumn : mm_y 45 = yX4_mirroredColumn := by unfold mm_y; rw [kX4_mirroredColumn]
theorem kcX4_mirroredColumn : mm_code 45 = cX4_mirroredColumn := by unfold mm_code; rw [kX4_mirroredColumn]
theorem kmX4_mirroredColumn : mm_maxL 45 = 1 := by unfold mm_maxL; rw [kX4_mirroredColumn]
theorem krX4_mirroredColumn : mm_ret 45 = (some .int) := by unfold mm_ret; rw [kX4_mirroredColumn]
theorem knX4_mirroredColumn : mm_cno 45 = 4 := by unfold mm_cno; rw [kX4_mirroredColumn]
theorem kpX4_mirroredColumn : mm_np 45 = 1 := by unfold mm_np; rw [kX4_mirroredColumn]
theorem kfX4_mirroredColumn : mm_fr 45 = 0 := by unfold mm_fr; rw [kX4_mirroredColumn]
theorem klX4_mirroredColumn : mm_lo 45 = 0 := by unfold mm_lo; rw [kX4_mirroredColumn]

theorem kX4_mirroredDirection : mm_rec 46 = (cX4_mirroredDirection, yX4_mirroredDirection, 1, (some .int), 4, 1, 0, 0, 524, 27) := rfl
theorem kyX4_mirroredDirection : mm_y 46 = yX4_mirroredDirection := by unfold mm_y; rw [kX4_mirroredDirection]
theorem kcX4_mirroredDirection : mm_code 46 = cX4_mirroredDirection := by unfold mm_code; rw [kX4_mirroredDirection]
theorem kmX4_mirroredDirection : mm_maxL 46 = 1 := by unfold mm_maxL; rw [kX4_mirroredDirection]
theorem krX4_mirroredDirection : mm_ret 46 = (some .int) := by unfold mm_ret; rw [kX4_mirroredDirection]
theorem knX4_mirroredDirection : mm_cno 46 = 4 := by unfold mm_cno; rw [kX4_mirroredDirection]
theorem kpX4_mirroredDirection : mm_np 46 = 1 := by unfold mm_np; rw [kX4_mirroredDirection]
theorem kfX4_mirroredDirection : mm_fr 46 = 0 := by unfold mm_fr; rw [kX4_mirroredDirection]
theorem klX4_mirroredDirection : mm_lo 46 = 0 := by unfold mm_lo; rw [kX4_mirroredDirection]

theorem kX5_follow : mm_rec 47 = (cX5_follow, yX5_follow, 3, none, 5, 1, 3, 64, 541, 23) := rfl
theorem kyX5_follow : mm_y 47 = yX5_follow := by unfold mm_y; rw [kX5_follow]
theorem kcX5_follow : mm_code 47 = cX5_follow := by unfold mm_code; rw [kX5_follow]
theorem kmX5_follow : mm_maxL 47 = 3 := by unfold mm_maxL; rw [kX5_follow]
theorem krX5_follow : mm_ret 47 = none := by unfold mm_ret; rw [kX5_follow]
theorem knX5_follow : mm_cno 47 = 5 := by unfold mm_cno; rw [kX5_follow]
theorem kpX5_follow : mm_np 47 = 1 := by unfold mm_np; rw [kX5_follow]
theorem kfX5_follow : mm_fr 47 = 3 := by unfold mm_fr; rw [kX5_follow]
theorem klX5_follow : mm_lo 47 = 64 := by unfold mm_lo; rw [kX5_follow]

theorem kX5_noteEnd : mm_rec 48 = (cX5_noteEnd, yX5_noteEnd, 3, none, 5, 1, 2, 42, 547, 23) := rfl
theorem kyX5_noteEnd : mm_y 48 = yX5_noteEnd := by unfold mm_y; rw [kX5_noteEnd]
theorem kcX5_noteEnd : mm_code 48 = cX5_noteEnd := by unfold mm_code; rw [kX5_noteEnd]
theorem kmX5_noteEnd : mm_maxL 48 = 3 := by unfold mm_maxL; rw [kX5_noteEnd]
theorem krX5_noteEnd : mm_ret 48 = none := by unfold mm_ret; rw [kX5_noteEnd]
theorem knX5_noteEnd : mm_cno 48 = 5 := by unfold mm_cno; rw [kX5_noteEnd]
theorem kpX5_noteEnd : mm_np 48 = 1 := by unfold mm_np; rw [kX5_noteEnd]
theorem kfX5_noteEnd : mm_fr 48 = 2 := by unfold mm_fr; rw [kX5_noteEnd]
theorem klX5_noteEnd : mm_lo 48 = 42 := by unfold mm_lo; rw [kX5_noteEnd]

theorem kX5_noteStep : mm_rec 49 = (cX5_noteStep, yX5_noteStep, 3, none, 5, 2, 1, 20, 554, 23) := rfl
theorem kyX5_noteStep : mm_y 49 = yX5_noteStep := by unfold mm_y; rw [kX5_noteStep]
theorem kcX5_noteStep : mm_code 49 = cX5_noteStep := by unfold mm_code; rw [kX5_noteStep]
theorem kmX5_noteStep : mm_maxL 49 = 3 := by unfold mm_maxL; rw [kX5_noteStep]
theorem krX5_noteStep : mm_ret 49 = none := by unfold mm_ret; rw [kX5_noteStep]
theorem knX5_noteStep : mm_cno 49 = 5 := by unfold mm_cno; rw [kX5_noteStep]
theorem kpX5_noteStep : mm_np 49 = 2 := by unfold mm_np; rw [kX5_noteStep]
theorem kfX5_noteStep : mm_fr 49 = 1 := by unfold mm_fr; rw [kX5_noteStep]
theorem klX5_noteStep : mm_lo 49 = 20 := by unfold mm_lo; rw [kX5_noteStep]

theorem kX5_step : mm_rec 50 = (cX5_step, yX5_step, 6, none, 5, 3, 1, 22, 562, 23) := rfl
theorem kyX5_step : mm_y 50 = yX5_step := by unfold mm_y; rw [kX5_step]
theorem kcX5_step : mm_code 50 = cX5_step := by unfold mm_code; rw [kX5_step]
theorem kmX5_step : mm_maxL 50 = 6 := by unfold mm_maxL; rw [kX5_step]
theorem krX5_step : mm_ret 50 = none := by unfold mm_ret; rw [kX5_step]
theorem knX5_step : mm_cno 50 = 5 := by unfold mm_cno; rw [kX5_step]
theorem kpX5_step : mm_np 50 = 3 := by unfold mm_np; rw [kX5_step]
theorem kfX5_step : mm_fr 50 = 1 := by unfold mm_fr; rw [kX5_step]
theorem klX5_step : mm_lo 50 = 22 := by unfold mm_lo; rw [kX5_step]

theorem kX5_distanceAt : mm_rec 51 = (cX5_distanceAt, yX5_distanceAt, 2, (some .int), 5, 1, 1, 21, 585, 23) := rfl
theorem kyX5_distanceAt : mm_y 51 = yX5_distanceAt := by unfold mm_y; rw [kX5_distanceAt]
theorem kcX5_distanceAt : mm_code 51 = cX5_distanceAt := by unfold mm_code; rw [kX5_distanceAt]
theorem kmX5_distanceAt : mm_maxL 51 = 2 := by unfold mm_maxL; rw [kX5_distanceAt]
theorem krX5_distanceAt : mm_ret 51 = (some .int) := by unfold mm_ret; rw [kX5_distanceAt]
theorem knX5_distanceAt : mm_cno 51 = 5 := by unfold mm_cno; rw [kX5_distanceAt]
theorem kpX5_distanceAt : mm_np 51 = 1 := by unfold mm_np; rw [kX5_distanceAt]
theorem kfX5_distanceAt : mm_fr 51 = 1 := by unfold mm_fr; rw [kX5_distanceAt]
theorem klX5_distanceAt : mm_lo 51 = 21 := by unfold mm_lo; rw [kX5_distanceAt]

theorem kX6_weigh : mm_rec 52 = (cX6_weigh, yX6_weigh, 2, none, 6, 1, 5, 112, 422, 22) := rfl
theorem kyX6_weigh : mm_y 52 = yX6_weigh := by unfold mm_y; rw [kX6_weigh]
theorem kcX6_weigh : mm_code 52 = cX6_weigh := by unfold mm_code; rw [kX6_weigh]
theorem kmX6_weigh : mm_maxL 52 = 2 := by unfold mm_maxL; rw [kX6_weigh]
theorem krX6_weigh : mm_ret 52 = none := by unfold mm_ret; rw [kX6_weigh]
theorem knX6_weigh : mm_cno 52 = 6 := by unfold mm_cno; rw [kX6_weigh]
theorem kpX6_weigh : mm_np 52 = 1 := by unfold mm_np; rw [kX6_weigh]
theorem kfX6_weigh : mm_fr 52 = 5 := by unfold mm_fr; rw [kX6_weigh]
theorem klX6_weigh : mm_lo 52 = 112 := by unfold mm_lo; rw [kX6_weigh]

theorem kX6_weighSide : mm_rec 53 = (cX6_weighSide, yX6_weighSide, 5, none, 6, 2, 4, 88, 427, 22) := rfl
theorem kyX6_weighSide : mm_y 53 = yX6_weighSide := by unfold mm_y; rw [kX6_weighSide]
theorem kcX6_weighSide : mm_code 53 = cX6_weighSide := by unfold mm_code; rw [kX6_weighSide]
theorem kmX6_weighSide : mm_maxL 53 = 5 := by unfold mm_maxL; rw [kX6_weighSide]
theorem krX6_weighSide : mm_ret 53 = none := by unfold mm_ret; rw [kX6_weighSide]
theorem knX6_weighSide : mm_cno 53 = 6 := by unfold mm_cno; rw [kX6_weighSide]
theorem kpX6_weighSide : mm_np 53 = 2 := by unfold mm_np; rw [kX6_weighSide]
theorem kfX6_weighSide : mm_fr 53 = 4 := by unfold mm_fr; rw [kX6_weighSide]
theorem klX6_weighSide : mm_lo 53 = 88 := by unfold mm_lo; rw [kX6_weighSide]

theorem kX6_canBear : mm_rec 54 = (cX6_canBear, yX6_canBear, 1, (some .boolean), 6, 1, 1, 20, 439, 22) := rfl
theorem kyX6_canBear : mm_y 54 = yX6_canBear := by unfold mm_y; rw [kX6_canBear]
theorem kcX6_canBear : mm_code 54 = cX6_canBear := by unfold mm_code; rw [kX6_canBear]
theorem kmX6_canBear : mm_maxL 54 = 1 := by unfold mm_maxL; rw [kX6_canBear]
theorem krX6_canBear : mm_ret 54 = (some .boolean) := by unfold mm_ret; rw [kX6_canBear]
theorem knX6_canBear : mm_cno 54 = 6 := by unfold mm_cno; rw [kX6_canBear]
theorem kpX6_canBear : mm_np 54 = 1 := by unfold mm_np; rw [kX6_canBear]
theorem kfX6_canBear : mm_fr 54 = 1 := by unfold mm_fr; rw [kX6_canBear]
theorem klX6_canBear : mm_lo 54 = 20 := by unfold mm_lo; rw [kX6_canBear]

theorem kX6_measureFlights : mm_rec 55 = (cX6_measureFlights, yX6_measureFlights, 3, none, 6, 0, 0, 0, 444, 22) := rfl
theorem kyX6_measureFlights : mm_y 55 = yX6_measureFlights := by unfold mm_y; rw [kX6_measureFlights]
theorem kcX6_measureFlights : mm_code 55 = cX6_measureFlights := by unfold mm_code; rw [kX6_measureFlights]
theorem kmX6_measureFlights : mm_maxL 55 = 3 := by unfold mm_maxL; rw [kX6_measureFlights]
theorem krX6_measureFlights : mm_ret 55 = none := by unfold mm_ret; rw [kX6_measureFlights]
theorem knX6_measureFlights : mm_cno 55 = 6 := by unfold mm_cno; rw [kX6_measureFlights]
theorem kpX6_measureFlights : mm_np 55 = 0 := by unfold mm_np; rw [kX6_measureFlights]
theorem kfX6_measureFlights : mm_fr 55 = 0 := by unfold mm_fr; rw [kX6_measureFlights]
theorem klX6_measureFlights : mm_lo 55 = 0 := by unfold mm_lo; rw [kX6_measureFlights]

theorem kX6_isWrong : mm_rec 56 = (cX6_isWrong, yX6_isWrong, 2, (some .boolean), 6, 1, 0, 0, 452, 22) := rfl
theorem kyX6_isWrong : mm_y 56 = yX6_isWrong := by unfold mm_y; rw [kX6_isWrong]
theorem kcX6_isWrong : mm_code 56 = cX6_isWrong := by unfold mm_code; rw [kX6_isWrong]
theorem kmX6_isWrong : mm_maxL 56 = 2 := by unfold mm_maxL; rw [kX6_isWrong]
theorem krX6_isWrong : mm_ret 56 = (some .boolean) := by unfold mm_ret; rw [kX6_isWrong]
theorem knX6_isWrong : mm_cno 56 = 6 := by unfold mm_cno; rw [kX6_isWrong]
theorem kpX6_isWrong : mm_np 56 = 1 := by unfold mm_np; rw [kX6_isWrong]
theorem kfX6_isWrong : mm_fr 56 = 0 := by unfold mm_fr; rw [kX6_isWrong]
theorem klX6_isWrong : mm_lo 56 = 0 := by unfold mm_lo; rw [kX6_isWrong]

theorem kX6_wrongBeats : mm_rec 57 = (cX6_wrongBeats, yX6_wrongBeats, 3, (some .int), 6, 0, 1, 21, 448, 22) := rfl
theorem kyX6_wrongBeats : mm_y 57 = yX6_wrongBeats := by unfold mm_y; rw [kX6_wrongBeats]
theorem kcX6_wrongBeats : mm_code 57 = cX6_wrongBeats := by unfold mm_code; rw [kX6_wrongBeats]
theorem kmX6_wrongBeats : mm_maxL 57 = 3 := by unfold mm_maxL; rw [kX6_wrongBeats]
theorem krX6_wrongBeats : mm_ret 57 = (some .int) := by unfold mm_ret; rw [kX6_wrongBeats]
theorem knX6_wrongBeats : mm_cno 57 = 6 := by unfold mm_cno; rw [kX6_wrongBeats]
theorem kpX6_wrongBeats : mm_np 57 = 0 := by unfold mm_np; rw [kX6_wrongBeats]
theorem kfX6_wrongBeats : mm_fr 57 = 1 := by unfold mm_fr; rw [kX6_wrongBeats]
theorem klX6_wrongBeats : mm_lo 57 = 21 := by unfold mm_lo; rw [kX6_wrongBeats]

theorem kX6_beatsOn : mm_rec 58 = (cX6_beatsOn, yX6_beatsOn, 4, (some .int), 6, 1, 0, 0, 467, 22) := rfl
theorem kyX6_beatsOn : mm_y 58 = yX6_beatsOn := by unfold mm_y; rw [kX6_beatsOn]
theorem kcX6_beatsOn : mm_code 58 = cX6_beatsOn := by unfold mm_code; rw [kX6_beatsOn]
theorem kmX6_beatsOn : mm_maxL 58 = 4 := by unfold mm_maxL; rw [kX6_beatsOn]
theorem krX6_beatsOn : mm_ret 58 = (some .int) := by unfold mm_ret; rw [kX6_beatsOn]
theorem knX6_beatsOn : mm_cno 58 = 6 := by unfold mm_cno; rw [kX6_beatsOn]
theorem kpX6_beatsOn : mm_np 58 = 1 := by unfold mm_np; rw [kX6_beatsOn]
theorem kfX6_beatsOn : mm_fr 58 = 0 := by unfold mm_fr; rw [kX6_beatsOn]
theorem klX6_beatsOn : mm_lo 58 = 0 := by unfold mm_lo; rw [kX6_beatsOn]

theorem kX6_longestFlight : mm_rec 59 = (cX6_longestFlight, yX6_longestFlight, 3, (some .int), 6, 0, 1, 21, 456, 22) := rfl
theorem kyX6_longestFlight : mm_y 59 = yX6_longestFlight := by unfold mm_y; rw [kX6_longestFlight]
theorem kcX6_longestFlight : mm_code 59 = cX6_longestFlight := by unfold mm_code; rw [kX6_longestFlight]
theorem kmX6_longestFlight : mm_maxL 59 = 3 := by unfold mm_maxL; rw [kX6_longestFlight]
theorem krX6_longestFlight : mm_ret 59 = (some .int) := by unfold mm_ret; rw [kX6_longestFlight]
theorem knX6_longestFlight : mm_cno 59 = 6 := by unfold mm_cno; rw [kX6_longestFlight]
theorem kpX6_longestFlight : mm_np 59 = 0 := by unfold mm_np; rw [kX6_longestFlight]
theorem kfX6_longestFlight : mm_fr 59 = 1 := by unfold mm_fr; rw [kX6_longestFlight]
theorem klX6_longestFlight : mm_lo 59 = 21 := by unfold mm_lo; rw [kX6_longestFlight]

theorem kX6_flightCount : mm_rec 60 = (cX6_flightCount, yX6_flightCount, 4, (some .int), 6, 0, 0, 0, 463, 22) := rfl
theorem kyX6_flightCount : mm_y 60 = yX6_flightCount := by unfold mm_y; rw [kX6_flightCount]
theorem kcX6_flightCount : mm_code 60 = cX6_flightCount := by unfold mm_code; rw [kX6_flightCount]
theorem kmX6_flightCount : mm_maxL 60 = 4 := by unfold mm_maxL; rw [kX6_flightCount]
theorem krX6_flightCount : mm_ret 60 = (some .int) := by unfold mm_ret; rw [kX6_flightCount]
theorem knX6_flightCount : mm_cno 60 = 6 := by unfold mm_cno; rw [kX6_flightCount]
theorem kpX6_flightCount : mm_np 60 = 0 := by unfold mm_np; rw [kX6_flightCount]
theorem kfX6_flightCount : mm_fr 60 = 0 := by unfold mm_fr; rw [kX6_flightCount]
theorem klX6_flightCount : mm_lo 60 = 0 := by unfold mm_lo; rw [kX6_flightCount]

theorem kX6_isAnyLegTold : mm_rec 61 = (cX6_isAnyLegTold, yX6_isAnyLegTold, 2, (some .boolean), 6, 0, 0, 0, 489, 22) := rfl
theorem kyX6_isAnyLegTold : mm_y 61 = yX6_isAnyLegTold := by unfold mm_y; rw [kX6_isAnyLegTold]
theorem kcX6_isAnyLegTold : mm_code 61 = cX6_isAnyLegTold := by unfold mm_code; rw [kX6_isAnyLegTold]
theorem kmX6_isAnyLegTold : mm_maxL 61 = 2 := by unfold mm_maxL; rw [kX6_isAnyLegTold]
theorem krX6_isAnyLegTold : mm_ret 61 = (some .boolean) := by unfold mm_ret; rw [kX6_isAnyLegTold]
theorem knX6_isAnyLegTold : mm_cno 61 = 6 := by unfold mm_cno; rw [kX6_isAnyLegTold]
theorem kpX6_isAnyLegTold : mm_np 61 = 0 := by unfold mm_np; rw [kX6_isAnyLegTold]
theorem kfX6_isAnyLegTold : mm_fr 61 = 0 := by unfold mm_fr; rw [kX6_isAnyLegTold]
theorem klX6_isAnyLegTold : mm_lo 61 = 0 := by unfold mm_lo; rw [kX6_isAnyLegTold]

theorem kX7_reset : mm_rec 62 = (cX7_reset, yX7_reset, 3, (some .int), 7, 1, 2, 49, 209, 19) := rfl
theorem kyX7_reset : mm_y 62 = yX7_reset := by unfold mm_y; rw [kX7_reset]
theorem kcX7_reset : mm_code 62 = cX7_reset := by unfold mm_code; rw [kX7_reset]
theorem kmX7_reset : mm_maxL 62 = 3 := by unfold mm_maxL; rw [kX7_reset]
theorem krX7_reset : mm_ret 62 = (some .int) := by unfold mm_ret; rw [kX7_reset]
theorem knX7_reset : mm_cno 62 = 7 := by unfold mm_cno; rw [kX7_reset]
theorem kpX7_reset : mm_np 62 = 1 := by unfold mm_np; rw [kX7_reset]
theorem kfX7_reset : mm_fr 62 = 2 := by unfold mm_fr; rw [kX7_reset]
theorem klX7_reset : mm_lo 62 = 49 := by unfold mm_lo; rw [kX7_reset]

theorem kX7_addMove : mm_rec 63 = (cX7_addMove, yX7_addMove, 6, (some .int), 7, 5, 4, 86, 227, 19) := rfl
theorem kyX7_addMove : mm_y 63 = yX7_addMove := by unfold mm_y; rw [kX7_addMove]
theorem kcX7_addMove : mm_code 63 = cX7_addMove := by unfold mm_code; rw [kX7_addMove]
theorem kmX7_addMove : mm_maxL 63 = 6 := by unfold mm_maxL; rw [kX7_addMove]
theorem krX7_addMove : mm_ret 63 = (some .int) := by unfold mm_ret; rw [kX7_addMove]
theorem knX7_addMove : mm_cno 63 = 7 := by unfold mm_cno; rw [kX7_addMove]
theorem kpX7_addMove : mm_np 63 = 5 := by unfold mm_np; rw [kX7_addMove]
theorem kfX7_addMove : mm_fr 63 = 4 := by unfold mm_fr; rw [kX7_addMove]
theorem klX7_addMove : mm_lo 63 = 86 := by unfold mm_lo; rw [kX7_addMove]

theorem kX7_removeSign : mm_rec 67 = (cX7_removeSign, yX7_removeSign, 2, (some .int), 7, 1, 2, 49, 597, 19) := rfl
theorem kyX7_removeSign : mm_y 67 = yX7_removeSign := by unfold mm_y; rw [kX7_removeSign]
theorem kcX7_removeSign : mm_code 67 = cX7_removeSign := by unfold mm_code; rw [kX7_removeSign]
theorem kmX7_removeSign : mm_maxL 67 = 2 := by unfold mm_maxL; rw [kX7_removeSign]
theorem krX7_removeSign : mm_ret 67 = (some .int) := by unfold mm_ret; rw [kX7_removeSign]
theorem knX7_removeSign : mm_cno 67 = 7 := by unfold mm_cno; rw [kX7_removeSign]
theorem kpX7_removeSign : mm_np 67 = 1 := by unfold mm_np; rw [kX7_removeSign]
theorem kfX7_removeSign : mm_fr 67 = 2 := by unfold mm_fr; rw [kX7_removeSign]
theorem klX7_removeSign : mm_lo 67 = 49 := by unfold mm_lo; rw [kX7_removeSign]

theorem kX7_copyPhrase : mm_rec 68 = (cX7_copyPhrase, yX7_copyPhrase, 9, (some .int), 7, 5, 4, 87, 605, 19) := rfl
theorem kyX7_copyPhrase : mm_y 68 = yX7_copyPhrase := by unfold mm_y; rw [kX7_copyPhrase]
theorem kcX7_copyPhrase : mm_code 68 = cX7_copyPhrase := by unfold mm_code; rw [kX7_copyPhrase]
theorem kmX7_copyPhrase : mm_maxL 68 = 9 := by unfold mm_maxL; rw [kX7_copyPhrase]
theorem krX7_copyPhrase : mm_ret 68 = (some .int) := by unfold mm_ret; rw [kX7_copyPhrase]
theorem knX7_copyPhrase : mm_cno 68 = 7 := by unfold mm_cno; rw [kX7_copyPhrase]
theorem kpX7_copyPhrase : mm_np 68 = 5 := by unfold mm_np; rw [kX7_copyPhrase]
theorem kfX7_copyPhrase : mm_fr 68 = 4 := by unfold mm_fr; rw [kX7_copyPhrase]
theorem klX7_copyPhrase : mm_lo 68 = 87 := by unfold mm_lo; rw [kX7_copyPhrase]

theorem kX7_setLeap : mm_rec 69 = (cX7_setLeap, yX7_setLeap, 3, (some .int), 7, 1, 2, 49, 270, 19) := rfl
theorem kyX7_setLeap : mm_y 69 = yX7_setLeap := by unfold mm_y; rw [kX7_setLeap]
theorem kcX7_setLeap : mm_code 69 = cX7_setLeap := by unfold mm_code; rw [kX7_setLeap]
theorem kmX7_setLeap : mm_maxL 69 = 3 := by unfold mm_maxL; rw [kX7_setLeap]
theorem krX7_setLeap : mm_ret 69 = (some .int) := by unfold mm_ret; rw [kX7_setLeap]
theorem knX7_setLeap : mm_cno 69 = 7 := by unfold mm_cno; rw [kX7_setLeap]
theorem kpX7_setLeap : mm_np 69 = 1 := by unfold mm_np; rw [kX7_setLeap]
theorem kfX7_setLeap : mm_fr 69 = 2 := by unfold mm_fr; rw [kX7_setLeap]
theorem klX7_setLeap : mm_lo 69 = 49 := by unfold mm_lo; rw [kX7_setLeap]

theorem kX7_lay : mm_rec 70 = (cX7_lay, yX7_lay, 1, (some .int), 7, 0, 6, 149, 274, 19) := rfl
theorem kyX7_lay : mm_y 70 = yX7_lay := by unfold mm_y; rw [kX7_lay]
theorem kcX7_lay : mm_code 70 = cX7_lay := by unfold mm_code; rw [kX7_lay]
theorem kmX7_lay : mm_maxL 70 = 1 := by unfold mm_maxL; rw [kX7_lay]
theorem krX7_lay : mm_ret 70 = (some .int) := by unfold mm_ret; rw [kX7_lay]
theorem knX7_lay : mm_cno 70 = 7 := by unfold mm_cno; rw [kX7_lay]
theorem kpX7_lay : mm_np 70 = 0 := by unfold mm_np; rw [kX7_lay]
theorem kfX7_lay : mm_fr 70 = 6 := by unfold mm_fr; rw [kX7_lay]
theorem klX7_lay : mm_lo 70 = 149 := by unfold mm_lo; rw [kX7_lay]

theorem kX7_undo : mm_rec 71 = (cX7_undo, yX7_undo, 1, (some .int), 7, 0, 1, 23, 351, 19) := rfl
theorem kyX7_undo : mm_y 71 = yX7_undo := by unfold mm_y; rw [kX7_undo]
theorem kcX7_undo : mm_code 71 = cX7_undo := by unfold mm_code; rw [kX7_undo]
theorem kmX7_undo : mm_maxL 71 = 1 := by unfold mm_maxL; rw [kX7_undo]
theorem krX7_undo : mm_ret 71 = (some .int) := by unfold mm_ret; rw [kX7_undo]
theorem knX7_undo : mm_cno 71 = 7 := by unfold mm_cno; rw [kX7_undo]
theorem kpX7_undo : mm_np 71 = 0 := by unfold mm_np; rw [kX7_undo]
theorem kfX7_undo : mm_fr 71 = 1 := by unfold mm_fr; rw [kX7_undo]
theorem klX7_undo : mm_lo 71 = 23 := by unfold mm_lo; rw [kX7_undo]

theorem kX7_count : mm_rec 72 = (cX7_count, yX7_count, 2, (some .int), 7, 1, 0, 0, 359, 19) := rfl
theorem kyX7_count : mm_y 72 = yX7_count := by unfold mm_y; rw [kX7_count]
theorem kcX7_count : mm_code 72 = cX7_count := by unfold mm_code; rw [kX7_count]
theorem kmX7_count : mm_maxL 72 = 2 := by unfold mm_maxL; rw [kX7_count]
theorem krX7_count : mm_ret 72 = (some .int) := by unfold mm_ret; rw [kX7_count]
theorem knX7_count : mm_cno 72 = 7 := by unfold mm_cno; rw [kX7_count]
theorem kpX7_count : mm_np 72 = 1 := by unfold mm_np; rw [kX7_count]
theorem kfX7_count : mm_fr 72 = 0 := by unfold mm_fr; rw [kX7_count]
theorem klX7_count : mm_lo 72 = 0 := by unfold mm_lo; rw [kX7_count]

theorem kX7_sign : mm_rec 73 = (cX7_sign, yX7_sign, 5, (some .int), 7, 2, 3, 63, 363, 19) := rfl
theorem kyX7_sign : mm_y 73 = yX7_sign := by unfold mm_y; rw [kX7_sign]
theorem kcX7_sign : mm_code 73 = cX7_sign := by unfold mm_code; rw [kX7_sign]
theorem kmX7_sign : mm_maxL 73 = 5 := by unfold mm_maxL; rw [kX7_sign]
theorem krX7_sign : mm_ret 73 = (some .int) := by unfold mm_ret; rw [kX7_sign]
theorem knX7_sign : mm_cno 73 = 7 := by unfold mm_cno; rw [kX7_sign]
theorem kpX7_sign : mm_np 73 = 2 := by unfold mm_np; rw [kX7_sign]
theorem kfX7_sign : mm_fr 73 = 3 := by unfold mm_fr; rw [kX7_sign]
theorem klX7_sign : mm_lo 73 = 63 := by unfold mm_lo; rw [kX7_sign]

theorem kX7_signAt : mm_rec 74 = (cX7_signAt, yX7_signAt, 4, (some .int), 7, 2, 4, 87, 471, 19) := rfl
theorem kyX7_signAt : mm_y 74 = yX7_signAt := by unfold mm_y; rw [kX7_signAt]
theorem kcX7_signAt : mm_code 74 = cX7_signAt := by unfold mm_code; rw [kX7_signAt]
theorem kmX7_signAt : mm_maxL 74 = 4 := by unfold mm_maxL; rw [kX7_signAt]
theorem krX7_signAt : mm_ret 74 = (some .int) := by unfold mm_ret; rw [kX7_signAt]
theorem knX7_signAt : mm_cno 74 = 7 := by unfold mm_cno; rw [kX7_signAt]
theorem kpX7_signAt : mm_np 74 = 2 := by unfold mm_np; rw [kX7_signAt]
theorem kfX7_signAt : mm_fr 74 = 4 := by unfold mm_fr; rw [kX7_signAt]
theorem klX7_signAt : mm_lo 74 = 87 := by unfold mm_lo; rw [kX7_signAt]

theorem kX7_isFaulty : mm_rec 77 = (cX7_isFaulty, yX7_isFaulty, 2, (some .int), 7, 1, 6, 133, 577, 19) := rfl
theorem kyX7_isFaulty : mm_y 77 = yX7_isFaulty := by unfold mm_y; rw [kX7_isFaulty]
theorem kcX7_isFaulty : mm_code 77 = cX7_isFaulty := by unfold mm_code; rw [kX7_isFaulty]
theorem kmX7_isFaulty : mm_maxL 77 = 2 := by unfold mm_maxL; rw [kX7_isFaulty]
theorem krX7_isFaulty : mm_ret 77 = (some .int) := by unfold mm_ret; rw [kX7_isFaulty]
theorem knX7_isFaulty : mm_cno 77 = 7 := by unfold mm_cno; rw [kX7_isFaulty]
theorem kpX7_isFaulty : mm_np 77 = 1 := by unfold mm_np; rw [kX7_isFaulty]
theorem kfX7_isFaulty : mm_fr 77 = 6 := by unfold mm_fr; rw [kX7_isFaulty]
theorem klX7_isFaulty : mm_lo 77 = 133 := by unfold mm_lo; rw [kX7_isFaulty]

theorem kX7_nextFault : mm_rec 78 = (cX7_nextFault, yX7_nextFault, 3, (some .int), 7, 1, 6, 133, 572, 19) := rfl
theorem kyX7_nextFault : mm_y 78 = yX7_nextFault := by unfold mm_y; rw [kX7_nextFault]
theorem kcX7_nextFault : mm_code 78 = cX7_nextFault := by unfold mm_code; rw [kX7_nextFault]
theorem kmX7_nextFault : mm_maxL 78 = 3 := by unfold mm_maxL; rw [kX7_nextFault]
theorem krX7_nextFault : mm_ret 78 = (some .int) := by unfold mm_ret; rw [kX7_nextFault]
theorem knX7_nextFault : mm_cno 78 = 7 := by unfold mm_cno; rw [kX7_nextFault]
theorem kpX7_nextFault : mm_np 78 = 1 := by unfold mm_np; rw [kX7_nextFault]
theorem kfX7_nextFault : mm_fr 78 = 6 := by unfold mm_fr; rw [kX7_nextFault]
theorem klX7_nextFault : mm_lo 78 = 133 := by unfold mm_lo; rw [kX7_nextFault]

theorem kX7_beats : mm_rec 79 = (cX7_beats, yX7_beats, 2, (some .int), 7, 1, 6, 133, 418, 19) := rfl
theorem kyX7_beats : mm_y 79 = yX7_beats := by unfold mm_y; rw [kX7_beats]
theorem kcX7_beats : mm_code 79 = cX7_beats := by unfold mm_code; rw [kX7_beats]
theorem kmX7_beats : mm_maxL 79 = 2 := by unfold mm_maxL; rw [kX7_beats]
theorem krX7_beats : mm_ret 79 = (some .int) := by unfold mm_ret; rw [kX7_beats]
theorem knX7_beats : mm_cno 79 = 7 := by unfold mm_cno; rw [kX7_beats]
theorem kpX7_beats : mm_np 79 = 1 := by unfold mm_np; rw [kX7_beats]
theorem kfX7_beats : mm_fr 79 = 6 := by unfold mm_fr; rw [kX7_beats]
theorem klX7_beats : mm_lo 79 = 133 := by unfold mm_lo; rw [kX7_beats]

theorem kX7_leastLeap : mm_rec 80 = (cX7_leastLeap, yX7_leastLeap, 1, (some .int), 7, 0, 6, 133, 485, 19) := rfl
theorem kyX7_leastLeap : mm_y 80 = yX7_leastLeap := by unfold mm_y; rw [kX7_leastLeap]
theorem kcX7_leastLeap : mm_code 80 = cX7_leastLeap := by unfold mm_code; rw [kX7_leastLeap]
theorem kmX7_leastLeap : mm_maxL 80 = 1 := by unfold mm_maxL; rw [kX7_leastLeap]
theorem krX7_leastLeap : mm_ret 80 = (some .int) := by unfold mm_ret; rw [kX7_leastLeap]
theorem knX7_leastLeap : mm_cno 80 = 7 := by unfold mm_cno; rw [kX7_leastLeap]
theorem kpX7_leastLeap : mm_np 80 = 0 := by unfold mm_np; rw [kX7_leastLeap]
theorem kfX7_leastLeap : mm_fr 80 = 6 := by unfold mm_fr; rw [kX7_leastLeap]
theorem klX7_leastLeap : mm_lo 80 = 133 := by unfold mm_lo; rw [kX7_leastLeap]

theorem kX7_covered : mm_rec 81 = (cX7_covered, yX7_covered, 6, (some .int), 7, 2, 4, 88, 480, 19) := rfl
theorem kyX7_covered : mm_y 81 = yX7_covered := by unfold mm_y; rw [kX7_covered]
theorem kcX7_covered : mm_code 81 = cX7_covered := by unfold mm_code; rw [kX7_covered]
theorem kmX7_covered : mm_maxL 81 = 6 := by unfold mm_maxL; rw [kX7_covered]
theorem krX7_covered : mm_ret 81 = (some .int) := by unfold mm_ret; rw [kX7_covered]
theorem knX7_covered : mm_cno 81 = 7 := by unfold mm_cno; rw [kX7_covered]
theorem kpX7_covered : mm_np 81 = 2 := by unfold mm_np; rw [kX7_covered]
theorem kfX7_covered : mm_fr 81 = 4 := by unfold mm_fr; rw [kX7_covered]
theorem klX7_covered : mm_lo 81 = 88 := by unfold mm_lo; rw [kX7_covered]

theorem kX7_floor : mm_rec 82 = (cX7_floor, yX7_floor, 3, (some .int), 7, 2, 4, 86, 537, 19) := rfl
theorem kyX7_floor : mm_y 82 = yX7_floor := by unfold mm_y; rw [kX7_floor]
theorem kcX7_floor : mm_code 82 = cX7_floor := by unfold mm_code; rw [kX7_floor]
theorem kmX7_floor : mm_maxL 82 = 3 := by unfold mm_maxL; rw [kX7_floor]
theorem krX7_floor : mm_ret 82 = (some .int) := by unfold mm_ret; rw [kX7_floor]
theorem knX7_floor : mm_cno 82 = 7 := by unfold mm_cno; rw [kX7_floor]
theorem kpX7_floor : mm_np 82 = 2 := by unfold mm_np; rw [kX7_floor]
theorem kfX7_floor : mm_fr 82 = 4 := by unfold mm_fr; rw [kX7_floor]
theorem klX7_floor : mm_lo 82 = 86 := by unfold mm_lo; rw [kX7_floor]

theorem kX7_farthest : mm_rec 84 = (cX7_farthest, yX7_farthest, 3, (some .int), 7, 0, 4, 86, 581, 19) := rfl
theorem kyX7_farthest : mm_y 84 = yX7_farthest := by unfold mm_y; rw [kX7_farthest]
theorem kcX7_farthest : mm_code 84 = cX7_farthest := by unfold mm_code; rw [kX7_farthest]
theorem kmX7_farthest : mm_maxL 84 = 3 := by unfold mm_maxL; rw [kX7_farthest]
theorem krX7_farthest : mm_ret 84 = (some .int) := by unfold mm_ret; rw [kX7_farthest]
theorem knX7_farthest : mm_cno 84 = 7 := by unfold mm_cno; rw [kX7_farthest]
theorem kpX7_farthest : mm_np 84 = 0 := by unfold mm_np; rw [kX7_farthest]
theorem kfX7_farthest : mm_fr 84 = 4 := by unfold mm_fr; rw [kX7_farthest]
theorem klX7_farthest : mm_lo 84 = 86 := by unfold mm_lo; rw [kX7_farthest]

theorem kX7_alike : mm_rec 85 = (cX7_alike, yX7_alike, 6, (some .int), 7, 4, 5, 116, 493, 19) := rfl
theorem kyX7_alike : mm_y 85 = yX7_alike := by unfold mm_y; rw [kX7_alike]
theorem kcX7_alike : mm_code 85 = cX7_alike := by unfold mm_code; rw [kX7_alike]
theorem kmX7_alike : mm_maxL 85 = 6 := by unfold mm_maxL; rw [kX7_alike]
theorem krX7_alike : mm_ret 85 = (some .int) := by unfold mm_ret; rw [kX7_alike]
theorem knX7_alike : mm_cno 85 = 7 := by unfold mm_cno; rw [kX7_alike]
theorem kpX7_alike : mm_np 85 = 4 := by unfold mm_np; rw [kX7_alike]
theorem kfX7_alike : mm_fr 85 = 5 := by unfold mm_fr; rw [kX7_alike]
theorem klX7_alike : mm_lo 85 = 116 := by unfold mm_lo; rw [kX7_alike]

theorem kX7_type : mm_rec 86 = (cX7_type, yX7_type, 2, (some .int), 7, 1, 1, 22, 391, 19) := rfl
theorem kyX7_type : mm_y 86 = yX7_type := by unfold mm_y; rw [kX7_type]
theorem kcX7_type : mm_code 86 = cX7_type := by unfold mm_code; rw [kX7_type]
theorem kmX7_type : mm_maxL 86 = 2 := by unfold mm_maxL; rw [kX7_type]
theorem krX7_type : mm_ret 86 = (some .int) := by unfold mm_ret; rw [kX7_type]
theorem knX7_type : mm_cno 86 = 7 := by unfold mm_cno; rw [kX7_type]
theorem kpX7_type : mm_np 86 = 1 := by unfold mm_np; rw [kX7_type]
theorem kfX7_type : mm_fr 86 = 1 := by unfold mm_fr; rw [kX7_type]
theorem klX7_type : mm_lo 86 = 22 := by unfold mm_lo; rw [kX7_type]

theorem kX7_clearText : mm_rec 87 = (cX7_clearText, yX7_clearText, 2, (some .int), 7, 0, 0, 0, 411, 19) := rfl
theorem kyX7_clearText : mm_y 87 = yX7_clearText := by unfold mm_y; rw [kX7_clearText]
theorem kcX7_clearText : mm_code 87 = cX7_clearText := by unfold mm_code; rw [kX7_clearText]
theorem kmX7_clearText : mm_maxL 87 = 2 := by unfold mm_maxL; rw [kX7_clearText]
theorem krX7_clearText : mm_ret 87 = (some .int) := by unfold mm_ret; rw [kX7_clearText]
theorem knX7_clearText : mm_cno 87 = 7 := by unfold mm_cno; rw [kX7_clearText]
theorem kpX7_clearText : mm_np 87 = 0 := by unfold mm_np; rw [kX7_clearText]
theorem kfX7_clearText : mm_fr 87 = 0 := by unfold mm_fr; rw [kX7_clearText]
theorem klX7_clearText : mm_lo 87 = 0 := by unfold mm_lo; rw [kX7_clearText]

theorem kX7_fault : mm_rec 88 = (cX7_fault, yX7_fault, 2, (some .int), 7, 0, 6, 149, 399, 19) := rfl
theorem kyX7_fault : mm_y 88 = yX7_fault := by unfold mm_y; rw [kX7_fault]
theorem kcX7_fault : mm_code 88 = cX7_fault := by unfold mm_code; rw [kX7_fault]
theorem kmX7_fault : mm_maxL 88 = 2 := by unfold mm_maxL; rw [kX7_fault]
theorem krX7_fault : mm_ret 88 = (some .int) := by unfold mm_ret; rw [kX7_fault]
theorem knX7_fault : mm_cno 88 = 7 := by unfold mm_cno; rw [kX7_fault]
theorem kpX7_fault : mm_np 88 = 0 := by unfold mm_np; rw [kX7_fault]
theorem kfX7_fault : mm_fr 88 = 6 := by unfold mm_fr; rw [kX7_fault]
theorem klX7_fault : mm_lo 88 = 149 := by unfold mm_lo; rw [kX7_fault]

theorem kX7_isWithin : mm_rec 89 = (cX7_isWithin, yX7_isWithin, 3, (some .boolean), 7, 3, 0, 0, 212, 19) := rfl
theorem kyX7_isWithin : mm_y 89 = yX7_isWithin := by unfold mm_y; rw [kX7_isWithin]
theorem kcX7_isWithin : mm_code 89 = cX7_isWithin := by unfold mm_code; rw [kX7_isWithin]
theorem kmX7_isWithin : mm_maxL 89 = 3 := by unfold mm_maxL; rw [kX7_isWithin]
theorem krX7_isWithin : mm_ret 89 = (some .boolean) := by unfold mm_ret; rw [kX7_isWithin]
theorem knX7_isWithin : mm_cno 89 = 7 := by unfold mm_cno; rw [kX7_isWithin]
theorem kpX7_isWithin : mm_np 89 = 3 := by unfold mm_np; rw [kX7_isWithin]
theorem kfX7_isWithin : mm_fr 89 = 0 := by unfold mm_fr; rw [kX7_isWithin]
theorem klX7_isWithin : mm_lo 89 = 0 := by unfold mm_lo; rw [kX7_isWithin]

theorem kX7_isFlag : mm_rec 90 = (cX7_isFlag, yX7_isFlag, 1, (some .boolean), 7, 1, 1, 22, 500, 19) := rfl
theorem kyX7_isFlag : mm_y 90 = yX7_isFlag := by unfold mm_y; rw [kX7_isFlag]
theorem kcX7_isFlag : mm_code 90 = cX7_isFlag := by unfold mm_code; rw [kX7_isFlag]
theorem kmX7_isFlag : mm_maxL 90 = 1 := by unfold mm_maxL; rw [kX7_isFlag]
theorem krX7_isFlag : mm_ret 90 = (some .boolean) := by unfold mm_ret; rw [kX7_isFlag]
theorem knX7_isFlag : mm_cno 90 = 7 := by unfold mm_cno; rw [kX7_isFlag]
theorem kpX7_isFlag : mm_np 90 = 1 := by unfold mm_np; rw [kX7_isFlag]
theorem kfX7_isFlag : mm_fr 90 = 1 := by unfold mm_fr; rw [kX7_isFlag]
theorem klX7_isFlag : mm_lo 90 = 22 := by unfold mm_lo; rw [kX7_isFlag]

theorem kX7_isColumn : mm_rec 91 = (cX7_isColumn, yX7_isColumn, 1, (some .boolean), 7, 1, 1, 22, 300, 19) := rfl
theorem kyX7_isColumn : mm_y 91 = yX7_isColumn := by unfold mm_y; rw [kX7_isColumn]
theorem kcX7_isColumn : mm_code 91 = cX7_isColumn := by unfold mm_code; rw [kX7_isColumn]
theorem kmX7_isColumn : mm_maxL 91 = 1 := by unfold mm_maxL; rw [kX7_isColumn]
theorem krX7_isColumn : mm_ret 91 = (some .boolean) := by unfold mm_ret; rw [kX7_isColumn]
theorem knX7_isColumn : mm_cno 91 = 7 := by unfold mm_cno; rw [kX7_isColumn]
theorem kpX7_isColumn : mm_np 91 = 1 := by unfold mm_np; rw [kX7_isColumn]
theorem kfX7_isColumn : mm_fr 91 = 1 := by unfold mm_fr; rw [kX7_isColumn]
theorem klX7_isColumn : mm_lo 91 = 22 := by unfold mm_lo; rw [kX7_isColumn]

theorem kX7_isBeat : mm_rec 92 = (cX7_isBeat, yX7_isBeat, 2, (some .boolean), 7, 1, 1, 22, 235, 19) := rfl
theorem kyX7_isBeat : mm_y 92 = yX7_isBeat := by unfold mm_y; rw [kX7_isBeat]
theorem kcX7_isBeat : mm_code 92 = cX7_isBeat := by unfold mm_code; rw [kX7_isBeat]
theorem kmX7_isBeat : mm_maxL 92 = 2 := by unfold mm_maxL; rw [kX7_isBeat]
theorem krX7_isBeat : mm_ret 92 = (some .boolean) := by unfold mm_ret; rw [kX7_isBeat]
theorem knX7_isBeat : mm_cno 92 = 7 := by unfold mm_cno; rw [kX7_isBeat]
theorem kpX7_isBeat : mm_np 92 = 1 := by unfold mm_np; rw [kX7_isBeat]
theorem kfX7_isBeat : mm_fr 92 = 1 := by unfold mm_fr; rw [kX7_isBeat]
theorem klX7_isBeat : mm_lo 92 = 22 := by unfold mm_lo; rw [kX7_isBeat]

theorem kX7_isSpan : mm_rec 93 = (cX7_isSpan, yX7_isSpan, 3, (some .boolean), 7, 2, 2, 43, 231, 19) := rfl
theorem kyX7_isSpan : mm_y 93 = yX7_isSpan := by unfold mm_y; rw [kX7_isSpan]
theorem kcX7_isSpan : mm_code 93 = cX7_isSpan := by unfold mm_code; rw [kX7_isSpan]
theorem kmX7_isSpan : mm_maxL 93 = 3 := by unfold mm_maxL; rw [kX7_isSpan]
theorem krX7_isSpan : mm_ret 93 = (some .boolean) := by unfold mm_ret; rw [kX7_isSpan]
theorem knX7_isSpan : mm_cno 93 = 7 := by unfold mm_cno; rw [kX7_isSpan]
theorem kpX7_isSpan : mm_np 93 = 2 := by unfold mm_np; rw [kX7_isSpan]
theorem kfX7_isSpan : mm_fr 93 = 2 := by unfold mm_fr; rw [kX7_isSpan]
theorem klX7_isSpan : mm_lo 93 = 43 := by unfold mm_lo; rw [kX7_isSpan]

theorem kX7_isPhrase : mm_rec 94 = (cX7_isPhrase, yX7_isPhrase, 3, (some .boolean), 7, 2, 2, 43, 497, 19) := rfl
theorem kyX7_isPhrase : mm_y 94 = yX7_isPhrase := by unfold mm_y; rw [kX7_isPhrase]
theorem kcX7_isPhrase : mm_code 94 = cX7_isPhrase := by unfold mm_code; rw [kX7_isPhrase]
theorem kmX7_isPhrase : mm_maxL 94 = 3 := by unfold mm_maxL; rw [kX7_isPhrase]
theorem krX7_isPhrase : mm_ret 94 = (some .boolean) := by unfold mm_ret; rw [kX7_isPhrase]
theorem knX7_isPhrase : mm_cno 94 = 7 := by unfold mm_cno; rw [kX7_isPhrase]
theorem kpX7_isPhrase : mm_np 94 = 2 := by unfold mm_np; rw [kX7_isPhrase]
theorem kfX7_isPhrase : mm_fr 94 = 2 := by unfold mm_fr; rw [kX7_isPhrase]
theorem klX7_isPhrase : mm_lo 94 = 43 := by unfold mm_lo; rw [kX7_isPhrase]

theorem kX7_addSign : mm_rec 95 = (cX7_addSign, yX7_addSign, 2, (some .int), 7, 1, 3, 65, 245, 19) := rfl
theorem kyX7_addSign : mm_y 95 = yX7_addSign := by unfold mm_y; rw [kX7_addSign]
theorem kcX7_addSign : mm_code 95 = cX7_addSign := by unfold mm_code; rw [kX7_addSign]
theorem kmX7_addSign : mm_maxL 95 = 2 := by unfold mm_maxL; rw [kX7_addSign]
theorem krX7_addSign : mm_ret 95 = (some .int) := by unfold mm_ret; rw [kX7_addSign]
theorem knX7_addSign : mm_cno 95 = 7 := by unfold mm_cno; rw [kX7_addSign]
theorem kpX7_addSign : mm_np 95 = 1 := by unfold mm_np; rw [kX7_addSign]
theorem kfX7_addSign : mm_fr 95 = 3 := by unfold mm_fr; rw [kX7_addSign]
theorem klX7_addSign : mm_lo 95 = 65 := by unfold mm_lo; rw [kX7_addSign]

theorem kX7_isInPhrase : mm_rec 96 = (cX7_isInPhrase, yX7_isInPhrase, 3, (some .boolean), 7, 3, 2, 40, 609, 19) := rfl
theorem kyX7_isInPhrase : mm_y 96 = yX7_isInPhrase := by unfold mm_y; rw [kX7_isInPhrase]
theorem kcX7_isInPhrase : mm_code 96 = cX7_isInPhrase := by unfold mm_code; rw [kX7_isInPhrase]
theorem kmX7_isInPhrase : mm_maxL 96 = 3 := by unfold mm_maxL; rw [kX7_isInPhrase]
theorem krX7_isInPhrase : mm_ret 96 = (some .boolean) := by unfold mm_ret; rw [kX7_isInPhrase]
theorem knX7_isInPhrase : mm_cno 96 = 7 := by unfold mm_cno; rw [kX7_isInPhrase]
theorem kpX7_isInPhrase : mm_np 96 = 3 := by unfold mm_np; rw [kX7_isInPhrase]
theorem kfX7_isInPhrase : mm_fr 96 = 2 := by unfold mm_fr; rw [kX7_isInPhrase]
theorem klX7_isInPhrase : mm_lo 96 = 40 := by unfold mm_lo; rw [kX7_isInPhrase]

theorem kX7_copyOf : mm_rec 97 = (cX7_copyOf, yX7_copyOf, 4, (some .int), 7, 3, 2, 46, 616, 19) := rfl
theorem kyX7_copyOf : mm_y 97 = yX7_copyOf := by unfold mm_y; rw [kX7_copyOf]
theorem kcX7_copyOf : mm_code 97 = cX7_copyOf := by unfold mm_code; rw [kX7_copyOf]
theorem kmX7_copyOf : mm_maxL 97 = 4 := by unfold mm_maxL; rw [kX7_copyOf]
theorem krX7_copyOf : mm_ret 97 = (some .int) := by unfold mm_ret; rw [kX7_copyOf]
theorem knX7_copyOf : mm_cno 97 = 7 := by unfold mm_cno; rw [kX7_copyOf]
theorem kpX7_copyOf : mm_np 97 = 3 := by unfold mm_np; rw [kX7_copyOf]
theorem kfX7_copyOf : mm_fr 97 = 2 := by unfold mm_fr; rw [kX7_copyOf]
theorem klX7_copyOf : mm_lo 97 = 46 := by unfold mm_lo; rw [kX7_copyOf]

theorem kX7_canTryPhrase : mm_rec 98 = (cX7_canTryPhrase, yX7_canTryPhrase, 3, (some .boolean), 7, 0, 3, 65, 624, 19) := rfl
theorem kyX7_canTryPhrase : mm_y 98 = yX7_canTryPhrase := by unfold mm_y; rw [kX7_canTryPhrase]
theorem kcX7_canTryPhrase : mm_code 98 = cX7_canTryPhrase := by unfold mm_code; rw [kX7_canTryPhrase]
theorem kmX7_canTryPhrase : mm_maxL 98 = 3 := by unfold mm_maxL; rw [kX7_canTryPhrase]
theorem krX7_canTryPhrase : mm_ret 98 = (some .boolean) := by unfold mm_ret; rw [kX7_canTryPhrase]
theorem knX7_canTryPhrase : mm_cno 98 = 7 := by unfold mm_cno; rw [kX7_canTryPhrase]
theorem kpX7_canTryPhrase : mm_np 98 = 0 := by unfold mm_np; rw [kX7_canTryPhrase]
theorem kfX7_canTryPhrase : mm_fr 98 = 3 := by unfold mm_fr; rw [kX7_canTryPhrase]
theorem klX7_canTryPhrase : mm_lo 98 = 65 := by unfold mm_lo; rw [kX7_canTryPhrase]

theorem kL_cell : mm_rec 99 = (cL_cell, yL_cell, 2, (some .int), 8, 2, 0, 0, 402, 18) := rfl
theorem kyL_cell : mm_y 99 = yL_cell := by unfold mm_y; rw [kL_cell]
theorem kcL_cell : mm_code 99 = cL_cell := by unfold mm_code; rw [kL_cell]
theorem kmL_cell : mm_maxL 99 = 2 := by unfold mm_maxL; rw [kL_cell]
theorem krL_cell : mm_ret 99 = (some .int) := by unfold mm_ret; rw [kL_cell]
theorem knL_cell : mm_cno 99 = 8 := by unfold mm_cno; rw [kL_cell]
theorem kpL_cell : mm_np 99 = 2 := by unfold mm_np; rw [kL_cell]
theorem kfL_cell : mm_fr 99 = 0 := by unfold mm_fr; rw [kL_cell]
theorem klL_cell : mm_lo 99 = 0 := by unfold mm_lo; rw [kL_cell]

theorem kL_types : mm_rec 100 = (cL_types, yL_types, 14, (some .int), 8, 3, 7, 170, 407, 18) := rfl
theorem kyL_types : mm_y 100 = yL_types := by unfold mm_y; rw [kL_types]
theorem kcL_types : mm_code 100 = cL_types := by unfold mm_code; rw [kL_types]
theorem kmL_types : mm_maxL 100 = 14 := by unfold mm_maxL; rw [kL_types]
theorem krL_types : mm_ret 100 = (some .int) := by unfold mm_ret; rw [kL_types]
theorem knL_types : mm_cno 100 = 8 := by unfold mm_cno; rw [kL_types]
theorem kpL_types : mm_np 100 = 3 := by unfold mm_np; rw [kL_types]
theorem kfL_types : mm_fr 100 = 7 := by unfold mm_fr; rw [kL_types]
theorem klL_types : mm_lo 100 = 170 := by unfold mm_lo; rw [kL_types]

theorem kL_holds : mm_rec 101 = (cL_holds, yL_holds, 8, (some .boolean), 8, 1, 7, 155, 414, 18) := rfl
theorem kyL_holds : mm_y 101 = yL_holds := by unfold mm_y; rw [kL_holds]
theorem kcL_holds : mm_code 101 = cL_holds := by unfold mm_code; rw [kL_holds]
theorem kmL_holds : mm_maxL 101 = 8 := by unfold mm_maxL; rw [kL_holds]
theorem krL_holds : mm_ret 101 = (some .boolean) := by unfold mm_ret; rw [kL_holds]
theorem knL_holds : mm_cno 101 = 8 := by unfold mm_cno; rw [kL_holds]
theorem kpL_holds : mm_np 101 = 1 := by unfold mm_np; rw [kL_holds]
theorem kfL_holds : mm_fr 101 = 7 := by unfold mm_fr; rw [kL_holds]
theorem klL_holds : mm_lo 101 = 155 := by unfold mm_lo; rw [kL_holds]

theorem kL_copied : mm_rec 102 = (cL_copied, yL_copied, 14, (some .boolean), 8, 3, 8, 182, 593, 18) := rfl
theorem kyL_copied : mm_y 102 = yL_copied := by unfold mm_y; rw [kL_copied]
theorem kcL_copied : mm_code 102 = cL_copied := by unfold mm_code; rw [kL_copied]
theorem kmL_copied : mm_maxL 102 = 14 := by unfold mm_maxL; rw [kL_copied]
theorem krL_copied : mm_ret 102 = (some .boolean) := by unfold mm_ret; rw [kL_copied]
theorem knL_copied : mm_cno 102 = 8 := by unfold mm_cno; rw [kL_copied]
theorem kpL_copied : mm_np 102 = 3 := by unfold mm_np; rw [kL_copied]
theorem kfL_copied : mm_fr 102 = 8 := by unfold mm_fr; rw [kL_copied]
theorem klL_copied : mm_lo 102 = 182 := by unfold mm_lo; rw [kL_copied]

theorem kJ9_floorMod_7cf53 : mm_rec 164 = (cJ9_floorMod_7cf53, yJ9_floorMod_7cf53, 3, (some .int), 10, 2, 0, 0, 558, 28) := rfl
theorem kyJ9_floorMod_7cf53 : mm_y 164 = yJ9_floorMod_7cf53 := by unfold mm_y; rw [kJ9_floorMod_7cf53]
theorem kcJ9_floorMod_7cf53 : mm_code 164 = cJ9_floorMod_7cf53 := by unfold mm_code; rw [kJ9_floorMod_7cf53]
theorem kmJ9_floorMod_7cf53 : mm_maxL 164 = 3 := by unfold mm_maxL; rw [kJ9_floorMod_7cf53]
theorem krJ9_floorMod_7cf53 : mm_ret 164 = (some .int) := by unfold mm_ret; rw [kJ9_floorMod_7cf53]
theorem knJ9_floorMod_7cf53 : mm_cno 164 = 10 := by unfold mm_cno; rw [kJ9_floorMod_7cf53]
theorem kpJ9_floorMod_7cf53 : mm_np 164 = 2 := by unfold mm_np; rw [kJ9_floorMod_7cf53]
theorem kfJ9_floorMod_7cf53 : mm_fr 164 = 0 := by unfold mm_fr; rw [kJ9_floorMod_7cf53]
theorem klJ9_floorMod_7cf53 : mm_lo 164 = 0 := by unfold mm_lo; rw [kJ9_floorMod_7cf53]

theorem kJ9_abs_0f7a4 : mm_rec 165 = (cJ9_abs_0f7a4, yJ9_abs_0f7a4, 1, (some .int), 10, 1, 0, 0, 588, 28) := rfl
theorem kyJ9_abs_0f7a4 : mm_y 165 = yJ9_abs_0f7a4 := by unfold mm_y; rw [kJ9_abs_0f7a4]
theorem kcJ9_abs_0f7a4 : mm_code 165 = cJ9_abs_0f7a4 := by unfold mm_code; rw [kJ9_abs_0f7a4]
theorem kmJ9_abs_0f7a4 : mm_maxL 165 = 1 := by unfold mm_maxL; rw [kJ9_abs_0f7a4]
theorem krJ9_abs_0f7a4 : mm_ret 165 = (some .int) := by unfold mm_ret; rw [kJ9_abs_0f7a4]
theorem knJ9_abs_0f7a4 : mm_cno 165 = 10 := by unfold mm_cno; rw [kJ9_abs_0f7a4]
theorem kpJ9_abs_0f7a4 : mm_np 165 = 1 := by unfold mm_np; rw [kJ9_abs_0f7a4]
theorem kfJ9_abs_0f7a4 : mm_fr 165 = 0 := by unfold mm_fr; rw [kJ9_abs_0f7a4]
theorem klJ9_abs_0f7a4 : mm_lo 165 = 0 := by unfold mm_lo; rw [kJ9_abs_0f7a4]

theorem kJ9_max_7cf53 : mm_rec 166 = (cJ9_max_7cf53, yJ9_max_7cf53, 2, (some .int), 10, 2, 0, 0, 459, 28) := rfl
theorem kyJ9_max_7cf53 : mm_y 166 = yJ9_max_7cf53 := by unfold mm_y; rw [kJ9_max_7cf53]
theorem kcJ9_max_7cf53 : mm_code 166 = cJ9_max_7cf53 := by unfold mm_code; rw [kJ9_max_7cf53]
theorem kmJ9_max_7cf53 : mm_maxL 166 = 2 := by unfold mm_maxL; rw [kJ9_max_7cf53]
theorem krJ9_max_7cf53 : mm_ret 166 = (some .int) := by unfold mm_ret; rw [kJ9_max_7cf53]
theorem knJ9_max_7cf53 : mm_cno 166 = 10 := by unfold mm_cno; rw [kJ9_max_7cf53]
theorem kpJ9_max_7cf53 : mm_np 166 = 2 := by unfold mm_np; rw [kJ9_max_7cf53]
theorem kfJ9_max_7cf53 : mm_fr 166 = 0 := by unfold mm_fr; rw [kJ9_max_7cf53]
theorem klJ9_max_7cf53 : mm_lo 166 = 0 := by unfold mm_lo; rw [kJ9_max_7cf53]

theorem kJ9_min_7cf53 : mm_rec 167 = (cJ9_min_7cf53, yJ9_min_7cf53, 2, (some .int), 10, 2, 0, 0, 436, 28) := rfl
theorem kyJ9_min_7cf53 : mm_y 167 = yJ9_min_7cf53 := by unfold mm_y; rw [kJ9_min_7cf53]
theorem kcJ9_min_7cf53 : mm_code 167 = cJ9_min_7cf53 := by unfold mm_code; rw [kJ9_min_7cf53]
theorem kmJ9_min_7cf53 : mm_maxL 167 = 2 := by unfold mm_maxL; rw [kJ9_min_7cf53]
theorem krJ9_min_7cf53 : mm_ret 167 = (some .int) := by unfold mm_ret; rw [kJ9_min_7cf53]
theorem knJ9_min_7cf53 : mm_cno 167 = 10 := by unfold mm_cno; rw [kJ9_min_7cf53]
theorem kpJ9_min_7cf53 : mm_np 167 = 2 := by unfold mm_np; rw [kJ9_min_7cf53]
theorem kfJ9_min_7cf53 : mm_fr 167 = 0 := by unfold mm_fr; rw [kJ9_min_7cf53]
theorem klJ9_min_7cf53 : mm_lo 167 = 0 := by unfold mm_lo; rw [kJ9_min_7cf53]

theorem kJ7_fill_53178 : mm_rec 168 = (cJ7_fill_53178, yJ7_fill_53178, 4, none, 9, 2, 0, 0, 285, 26) := rfl
theorem kyJ7_fill_53178 : mm_y 168 = yJ7_fill_53178 := by unfold mm_y; rw [kJ7_fill_53178]
theorem kcJ7_fill_53178 : mm_code 168 = cJ7_fill_53178 := by unfold mm_code; rw [kJ7_fill_53178]
theorem kmJ7_fill_53178 : mm_maxL 168 = 4 := by unfold mm_maxL; rw [kJ7_fill_53178]
theorem krJ7_fill_53178 : mm_ret 168 = none := by unfold mm_ret; rw [kJ7_fill_53178]
theorem knJ7_fill_53178 : mm_cno 168 = 9 := by unfold mm_cno; rw [kJ7_fill_53178]
theorem kpJ7_fill_53178 : mm_np 168 = 2 := by unfold mm_np; rw [kJ7_fill_53178]
theorem kfJ7_fill_53178 : mm_fr 168 = 0 := by unfold mm_fr; rw [kJ7_fill_53178]
theorem klJ7_fill_53178 : mm_lo 168 = 0 := by unfold mm_lo; rw [kJ7_fill_53178]

theorem kL_law : mm_rec 169 = (cL_law, yL_law, 12, (some .boolean), 8, 1, 9, 215, 0, 18) := rfl
theorem kyL_law : mm_y 169 = yL_law := by unfold mm_y; rw [kL_law]
theorem kcL_law : mm_code 169 = cL_law := by unfold mm_code; rw [kL_law]
theorem kmL_law : mm_maxL 169 = 12 := by unfold mm_maxL; rw [kL_law]
theorem krL_law : mm_ret 169 = (some .boolean) := by unfold mm_ret; rw [kL_law]
theorem knL_law : mm_cno 169 = 8 := by unfold mm_cno; rw [kL_law]
theorem kpL_law : mm_np 169 = 1 := by unfold mm_np; rw [kL_law]
theorem kfL_law : mm_fr 169 = 9 := by unfold mm_fr; rw [kL_law]
theorem klL_law : mm_lo 169 = 215 := by unfold mm_lo; rw [kL_law]

theorem f_0_18 : mm_fld 0 18 = some ((0, 18), (0, 2, false, 150)) := by decide +kernel
theorem f_0_9 : mm_fld 0 9 = some ((0, 9), (0, 0, false, 148)) := by decide +kernel
theorem f_0_15 : mm_fld 0 15 = some ((0, 15), (0, 1, false, 149)) := by decide +kernel
theorem f_0_39 : mm_fld 0 39 = some ((0, 39), (2, 0, true, 49)) := by decide +kernel
theorem f_1_11 : mm_fld 1 11 = some ((1, 11), (1, 0, false, 78)) := by decide +kernel
theorem f_1_15 : mm_fld 1 15 = some ((1, 15), (1, 1, false, 80)) := by decide +kernel
theorem f_1_25 : mm_fld 1 25 = some ((1, 25), (2, 0, true, 47)) := by decide +kernel
theorem f_1_30 : mm_fld 1 30 = some ((1, 30), (2, 1, true, 53)) := by decide +kernel
theorem f_1_33 : mm_fld 1 33 = some ((1, 33), (2, 2, true, 57)) := by decide +kernel
theorem f_1_34 : mm_fld 1 34 = some ((1, 34), (2, 3, true, 61)) := by decide +kernel
theorem f_2_9 : mm_fld 2 9 = some ((2, 9), (2, 0, false, 44)) := by decide +kernel
theorem f_2_18 : mm_fld 2 18 = some ((2, 18), (2, 2, false, 55)) := by decide +kernel
theorem f_2_15 : mm_fld 2 15 = some ((2, 15), (2, 1, false, 51)) := by decide +kernel
theorem f_2_21 : mm_fld 2 21 = some ((2, 21), (2, 3, false, 60)) := by decide +kernel
theorem f_3_9 : mm_fld 3 9 = some ((3, 9), (3, 0, false, 164)) := by decide +kernel
theorem f_3_18 : mm_fld 3 18 = some ((3, 18), (3, 2, false, 167)) := by decide +kernel
theorem f_3_22 : mm_fld 3 22 = some ((3, 22), (3, 3, false, 168)) := by decide +kernel
theorem f_3_15 : mm_fld 3 15 = some ((3, 15), (3, 1, false, 166)) := by decide +kernel
theorem f_3_63 : mm_fld 3 63 = some ((3, 63), (2, 0, true, 50)) := by decide +kernel
theorem f_3_73 : mm_fld 3 73 = some ((3, 73), (2, 2, true, 58)) := by decide +kernel
theorem f_5_21 : mm_fld 5 21 = some ((5, 21), (4, 3, false, 126)) := by decide +kernel
theorem f_5_24 : mm_fld 5 24 = some ((5, 24), (4, 4, false, 127)) := by decide +kernel
theorem f_5_27 : mm_fld 5 27 = some ((5, 27), (4, 5, false, 128)) := by decide +kernel
theorem f_5_36 : mm_fld 5 36 = some ((5, 36), (2, 2, true, 56)) := by decide +kernel
theorem f_5_50 : mm_fld 5 50 = some ((5, 50), (2, 0, true, 48)) := by decide +kernel
theorem f_5_18 : mm_fld 5 18 = some ((5, 18), (4, 2, false, 124)) := by decide +kernel
theorem f_5_9 : mm_fld 5 9 = some ((5, 9), (4, 0, false, 120)) := by decide +kernel
theorem f_5_15 : mm_fld 5 15 = some ((5, 15), (4, 1, false, 122)) := by decide +kernel
theorem f_6_34 : mm_fld 6 34 = some ((6, 34), (2, 0, true, 45)) := by decide +kernel
theorem f_6_9 : mm_fld 6 9 = some ((6, 9), (5, 0, false, 92)) := by decide +kernel
theorem f_6_37 : mm_fld 6 37 = some ((6, 37), (2, 1, true, 52)) := by decide +kernel
theorem f_6_15 : mm_fld 6 15 = some ((6, 15), (5, 1, false, 93)) := by decide +kernel
theorem f_6_25 : mm_fld 6 25 = some ((6, 25), (5, 4, false, 96)) := by decide +kernel
theorem f_6_28 : mm_fld 6 28 = some ((6, 28), (5, 5, false, 97)) := by decide +kernel
theorem f_6_18 : mm_fld 6 18 = some ((6, 18), (5, 2, false, 94)) := by decide +kernel
theorem f_6_22 : mm_fld 6 22 = some ((6, 22), (5, 3, false, 95)) := by decide +kernel
theorem f_6_31 : mm_fld 6 31 = some ((6, 31), (5, 6, false, 98)) := by decide +kernel
theorem f_7_10 : mm_fld 7 10 = some ((7, 10), (6, 0, false, 178)) := by decide +kernel
theorem f_7_65 : mm_fld 7 65 = some ((7, 65), (2, 0, true, 46)) := by decide +kernel
theorem f_7_25 : mm_fld 7 25 = some ((7, 25), (6, 3, false, 181)) := by decide +kernel
theorem f_7_110 : mm_fld 7 110 = some ((7, 110), (2, 2, true, 59)) := by decide +kernel
theorem f_7_16 : mm_fld 7 16 = some ((7, 16), (6, 1, false, 179)) := by decide +kernel
theorem f_7_19 : mm_fld 7 19 = some ((7, 19), (6, 2, false, 180)) := by decide +kernel
theorem f_7_153 : mm_fld 7 153 = some ((7, 153), (2, 1, true, 54)) := by decide +kernel
theorem f_7_53 : mm_fld 7 53 = some ((7, 53), (6, 7, false, 185)) := by decide +kernel
theorem f_7_160 : mm_fld 7 160 = some ((7, 160), (1, 0, true, 79)) := by decide +kernel
theorem f_7_164 : mm_fld 7 164 = some ((7, 164), (3, 0, true, 165)) := by decide +kernel
theorem f_7_32 : mm_fld 7 32 = some ((7, 32), (6, 4, false, 182)) := by decide +kernel
theorem f_7_57 : mm_fld 7 57 = some ((7, 57), (6, 8, false, 186)) := by decide +kernel
theorem f_7_39 : mm_fld 7 39 = some ((7, 39), (6, 5, false, 183)) := by decide +kernel
theorem f_7_221 : mm_fld 7 221 = some ((7, 221), (4, 2, true, 125)) := by decide +kernel
theorem f_7_224 : mm_fld 7 224 = some ((7, 224), (4, 0, true, 121)) := by decide +kernel
theorem f_7_227 : mm_fld 7 227 = some ((7, 227), (4, 1, true, 123)) := by decide +kernel
theorem f_7_46 : mm_fld 7 46 = some ((7, 46), (6, 6, false, 184)) := by decide +kernel
theorem q_0_21 : mm_cll 0 21 = some ((0, 21), (1, 168, 0, 505, 284, 26, 0)) := rfl
theorem q_0_27 : mm_cll 0 27 = some ((0, 27), (0, 14, 2, 510, 429, 430, 20)) := rfl
theorem q_0_33 : mm_cll 0 33 = some ((0, 33), (1, 45, 0, 511, 512, 27, 0)) := rfl
theorem q_0_43 : mm_cll 0 43 = some ((0, 43), (1, 166, 0, 514, 458, 28, 0)) := rfl
theorem q_0_49 : mm_cll 0 49 = some ((0, 49), (1, 44, 0, 515, 516, 27, 0)) := rfl
theorem q_0_52 : mm_cll 0 52 = some ((0, 52), (1, 41, 0, 527, 528, 27, 0)) := rfl
theorem q_1_19 : mm_cll 1 19 = some ((1, 19), (3, 0, 0, 217, 219, 218, 29)) := rfl
theorem q_2_25 : mm_cll 2 25 = some ((2, 25), (3, 0, 0, 347, 219, 218, 29)) := rfl
theorem q_2_31 : mm_cll 2 31 = some ((2, 31), (1, 33, 0, 250, 251, 27, 0)) := rfl
theorem q_2_37 : mm_cll 2 37 = some ((2, 37), (1, 40, 0, 253, 254, 27, 0)) := rfl
theorem q_2_40 : mm_cll 2 40 = some ((2, 40), (1, 34, 0, 260, 261, 27, 0)) := rfl
theorem q_2_43 : mm_cll 2 43 = some ((2, 43), (0, 8, 2, 377, 365, 366, 20)) := rfl
theorem q_2_46 : mm_cll 2 46 = some ((2, 46), (1, 36, 0, 378, 369, 27, 0)) := rfl
theorem q_2_49 : mm_cll 2 49 = some ((2, 49), (0, 12, 2, 433, 374, 375, 20)) := rfl
theorem q_2_52 : mm_cll 2 52 = some ((2, 52), (1, 168, 0, 432, 284, 26, 0)) := rfl
theorem q_2_58 : mm_cll 2 58 = some ((2, 58), (1, 167, 0, 434, 435, 28, 0)) := rfl
theorem q_3_25 : mm_cll 3 25 = some ((3, 25), (0, 6, 2, 279, 280, 281, 20)) := rfl
theorem q_3_31 : mm_cll 3 31 = some ((3, 31), (1, 168, 0, 283, 284, 26, 0)) := rfl
theorem q_3_37 : mm_cll 3 37 = some ((3, 37), (0, 17, 3, 286, 288, 3, 25)) := rfl
theorem q_3_41 : mm_cll 3 41 = some ((3, 41), (0, 25, 3, 290, 292, 4, 25)) := rfl
theorem q_3_45 : mm_cll 3 45 = some ((3, 45), (2, 91, 0, 298, 299, 19, 0)) := rfl
theorem q_3_49 : mm_cll 3 49 = some ((3, 49), (0, 26, 3, 301, 303, 6, 25)) := rfl
theorem q_3_52 : mm_cll 3 52 = some ((3, 52), (0, 20, 3, 305, 307, 7, 25)) := rfl
theorem q_3_56 : mm_cll 3 56 = some ((3, 56), (0, 24, 3, 316, 318, 9, 25)) := rfl
theorem q_3_59 : mm_cll 3 59 = some ((3, 59), (1, 18, 0, 335, 336, 25, 0)) := rfl
theorem q_3_66 : mm_cll 3 66 = some ((3, 66), (1, 19, 0, 339, 340, 25, 0)) := rfl
theorem q_3_70 : mm_cll 3 70 = some ((3, 70), (1, 35, 0, 338, 258, 27, 0)) := rfl
theorem q_3_74 : mm_cll 3 74 = some ((3, 74), (0, 10, 2, 342, 264, 265, 20)) := rfl
theorem q_3_77 : mm_cll 3 77 = some ((3, 77), (0, 21, 3, 309, 311, 8, 25)) := rfl
theorem q_3_81 : mm_cll 3 81 = some ((3, 81), (1, 29, 0, 322, 323, 27, 0)) := rfl
theorem q_3_84 : mm_cll 3 84 = some ((3, 84), (0, 22, 3, 325, 327, 10, 25)) := rfl
theorem q_3_87 : mm_cll 3 87 = some ((3, 87), (1, 31, 0, 332, 333, 27, 0)) := rfl
theorem q_3_90 : mm_cll 3 90 = some ((3, 90), (1, 23, 0, 313, 314, 25, 0)) := rfl
theorem q_3_93 : mm_cll 3 93 = some ((3, 93), (2, 89, 0, 320, 211, 19, 0)) := rfl
theorem q_3_97 : mm_cll 3 97 = some ((3, 97), (1, 28, 0, 321, 237, 27, 0)) := rfl
theorem q_3_101 : mm_cll 3 101 = some ((3, 101), (1, 30, 0, 329, 330, 27, 0)) := rfl
theorem q_3_105 : mm_cll 3 105 = some ((3, 105), (0, 27, 3, 294, 296, 5, 25)) := rfl
theorem q_4_11 : mm_cll 4 11 = some ((4, 11), (1, 32, 0, 239, 240, 27, 0)) := rfl
theorem q_4_15 : mm_cll 4 15 = some ((4, 15), (1, 33, 0, 256, 251, 27, 0)) := rfl
theorem q_4_19 : mm_cll 4 19 = some ((4, 19), (1, 35, 0, 257, 258, 27, 0)) := rfl
theorem q_4_22 : mm_cll 4 22 = some ((4, 22), (1, 34, 0, 518, 261, 27, 0)) := rfl
theorem q_4_25 : mm_cll 4 25 = some ((4, 25), (1, 36, 0, 520, 369, 27, 0)) := rfl
theorem q_4_28 : mm_cll 4 28 = some ((4, 28), (1, 37, 0, 521, 380, 27, 0)) := rfl
theorem q_4_31 : mm_cll 4 31 = some ((4, 31), (1, 38, 0, 525, 383, 27, 0)) := rfl
theorem q_4_34 : mm_cll 4 34 = some ((4, 34), (1, 39, 0, 526, 386, 27, 0)) := rfl
theorem q_4_37 : mm_cll 4 37 = some ((4, 37), (1, 45, 0, 519, 512, 27, 0)) := rfl
theorem q_4_40 : mm_cll 4 40 = some ((4, 40), (1, 46, 0, 522, 523, 27, 0)) := rfl
theorem q_5_30 : mm_cll 5 30 = some ((5, 30), (1, 168, 0, 542, 284, 26, 0)) := rfl
theorem q_5_42 : mm_cll 5 42 = some ((5, 42), (0, 8, 2, 543, 365, 366, 20)) := rfl
theorem q_5_46 : mm_cll 5 46 = some ((5, 46), (0, 48, 4, 544, 546, 14, 23)) := rfl
theorem q_5_53 : mm_cll 5 53 = some ((5, 53), (1, 164, 0, 556, 557, 28, 0)) := rfl
theorem q_5_59 : mm_cll 5 59 = some ((5, 59), (0, 50, 4, 559, 561, 16, 23)) := rfl
theorem q_5_63 : mm_cll 5 63 = some ((5, 63), (1, 40, 0, 548, 254, 27, 0)) := rfl
theorem q_5_68 : mm_cll 5 68 = some ((5, 68), (1, 36, 0, 549, 369, 27, 0)) := rfl
theorem q_5_71 : mm_cll 5 71 = some ((5, 71), (1, 39, 0, 550, 386, 27, 0)) := rfl
theorem q_5_74 : mm_cll 5 74 = some ((5, 74), (0, 49, 4, 551, 553, 15, 23)) := rfl
theorem q_5_78 : mm_cll 5 78 = some ((5, 78), (1, 34, 0, 555, 261, 27, 0)) := rfl
theorem q_5_81 : mm_cll 5 81 = some ((5, 81), (1, 37, 0, 563, 380, 27, 0)) := rfl
theorem q_5_84 : mm_cll 5 84 = some ((5, 84), (1, 33, 0, 564, 251, 27, 0)) := rfl
theorem q_5_93 : mm_cll 5 93 = some ((5, 93), (1, 165, 0, 586, 587, 28, 0)) := rfl
theorem q_5_96 : mm_cll 5 96 = some ((5, 96), (1, 166, 0, 589, 458, 28, 0)) := rfl
theorem q_6_38 : mm_cll 6 38 = some ((6, 38), (1, 168, 0, 423, 284, 26, 0)) := rfl
theorem q_6_44 : mm_cll 6 44 = some ((6, 44), (0, 53, 5, 424, 426, 11, 22)) := rfl
theorem q_6_48 : mm_cll 6 48 = some ((6, 48), (0, 55, 5, 441, 443, 12, 22)) := rfl
theorem q_6_51 : mm_cll 6 51 = some ((6, 51), (0, 14, 2, 428, 429, 430, 20)) := rfl
theorem q_6_55 : mm_cll 6 55 = some ((6, 55), (1, 54, 0, 437, 438, 22, 0)) := rfl
theorem q_6_59 : mm_cll 6 59 = some ((6, 59), (1, 36, 0, 440, 369, 27, 0)) := rfl
theorem q_6_65 : mm_cll 6 65 = some ((6, 65), (0, 56, 5, 449, 450, 451, 22)) := rfl
theorem q_6_68 : mm_cll 6 68 = some ((6, 68), (1, 166, 0, 457, 458, 28, 0)) := rfl
theorem q_7_61 : mm_cll 7 61 = some ((7, 61), (1, 89, 0, 210, 211, 19, 0)) := rfl
theorem q_7_69 : mm_cll 7 69 = some ((7, 69), (0, 3, 1, 213, 214, 215, 21)) := rfl
theorem q_7_73 : mm_cll 7 73 = some ((7, 73), (0, 5, 2, 220, 221, 222, 20)) := rfl
theorem q_7_77 : mm_cll 7 77 = some ((7, 77), (0, 93, 6, 228, 230, 0, 19)) := rfl
theorem q_7_81 : mm_cll 7 81 = some ((7, 81), (1, 28, 0, 236, 237, 27, 0)) := rfl
theorem q_7_87 : mm_cll 7 87 = some ((7, 87), (0, 95, 6, 242, 244, 2, 19)) := rfl
theorem q_7_113 : mm_cll 7 113 = some ((7, 113), (0, 11, 2, 598, 599, 600, 20)) := rfl
theorem q_7_116 : mm_cll 7 116 = some ((7, 116), (0, 94, 6, 494, 496, 13, 19)) := rfl
theorem q_7_95 : mm_cll 7 95 = some ((7, 95), (0, 92, 6, 232, 234, 1, 19)) := rfl
theorem q_7_119 : mm_cll 7 119 = some ((7, 119), (1, 90, 0, 498, 499, 19, 0)) := rfl
theorem q_7_122 : mm_cll 7 122 = some ((7, 122), (0, 6, 2, 606, 280, 281, 20)) := rfl
theorem q_7_125 : mm_cll 7 125 = some ((7, 125), (0, 8, 2, 364, 365, 366, 20)) := rfl
theorem q_7_128 : mm_cll 7 128 = some ((7, 128), (1, 96, 0, 607, 608, 19, 0)) := rfl
theorem q_7_131 : mm_cll 7 131 = some ((7, 131), (1, 40, 0, 610, 254, 27, 0)) := rfl
theorem q_7_134 : mm_cll 7 134 = some ((7, 134), (1, 33, 0, 372, 251, 27, 0)) := rfl
theorem q_7_137 : mm_cll 7 137 = some ((7, 137), (1, 42, 0, 611, 612, 27, 0)) := rfl
theorem q_7_140 : mm_cll 7 140 = some ((7, 140), (1, 97, 0, 614, 615, 19, 0)) := rfl
theorem q_7_143 : mm_cll 7 143 = some ((7, 143), (0, 10, 2, 263, 264, 265, 20)) := rfl
theorem q_7_146 : mm_cll 7 146 = some ((7, 146), (0, 98, 6, 621, 623, 17, 19)) := rfl
theorem q_7_150 : mm_cll 7 150 = some ((7, 150), (0, 7, 2, 343, 344, 345, 20)) := rfl
theorem q_7_156 : mm_cll 7 156 = some ((7, 156), (0, 16, 3, 275, 276, 277, 25)) := rfl
theorem q_7_161 : mm_cll 7 161 = some ((7, 161), (0, 4, 1, 352, 353, 354, 21)) := rfl
theorem q_7_165 : mm_cll 7 165 = some ((7, 165), (1, 36, 0, 368, 369, 27, 0)) := rfl
theorem q_7_168 : mm_cll 7 168 = some ((7, 168), (1, 34, 0, 371, 261, 27, 0)) := rfl
theorem q_7_171 : mm_cll 7 171 = some ((7, 171), (0, 12, 2, 373, 374, 375, 20)) := rfl
theorem q_7_174 : mm_cll 7 174 = some ((7, 174), (1, 37, 0, 379, 380, 27, 0)) := rfl
theorem q_7_177 : mm_cll 7 177 = some ((7, 177), (1, 38, 0, 382, 383, 27, 0)) := rfl
theorem q_7_180 : mm_cll 7 180 = some ((7, 180), (1, 39, 0, 385, 386, 27, 0)) := rfl
theorem q_7_91 : mm_cll 7 91 = some ((7, 91), (1, 91, 0, 472, 299, 19, 0)) := rfl
theorem q_7_183 : mm_cll 7 183 = some ((7, 183), (0, 13, 2, 473, 474, 475, 20)) := rfl
theorem q_7_186 : mm_cll 7 186 = some ((7, 186), (0, 52, 5, 419, 420, 421, 22)) := rfl
theorem q_7_195 : mm_cll 7 195 = some ((7, 195), (0, 56, 5, 573, 450, 451, 22)) := rfl
theorem q_7_198 : mm_cll 7 198 = some ((7, 198), (0, 57, 5, 445, 446, 447, 22)) := rfl
theorem q_7_202 : mm_cll 7 202 = some ((7, 202), (0, 59, 5, 453, 454, 455, 22)) := rfl
theorem q_7_205 : mm_cll 7 205 = some ((7, 205), (0, 60, 5, 460, 461, 462, 22)) := rfl
theorem q_7_208 : mm_cll 7 208 = some ((7, 208), (0, 58, 5, 464, 465, 466, 22)) := rfl
theorem q_7_211 : mm_cll 7 211 = some ((7, 211), (0, 61, 5, 486, 487, 488, 22)) := rfl
theorem q_7_214 : mm_cll 7 214 = some ((7, 214), (0, 14, 2, 481, 429, 430, 20)) := rfl
theorem q_7_218 : mm_cll 7 218 = some ((7, 218), (0, 47, 4, 538, 539, 540, 23)) := rfl
theorem q_7_230 : mm_cll 7 230 = some ((7, 230), (0, 51, 4, 582, 583, 584, 23)) := rfl
theorem q_7_233 : mm_cll 7 233 = some ((7, 233), (1, 166, 0, 590, 458, 28, 0)) := rfl
theorem q_7_238 : mm_cll 7 238 = some ((7, 238), (0, 0, 0, 501, 502, 503, 24)) := rfl
theorem q_7_241 : mm_cll 7 241 = some ((7, 241), (0, 1, 0, 506, 507, 508, 24)) := rfl
theorem q_7_245 : mm_cll 7 245 = some ((7, 245), (0, 2, 0, 530, 531, 532, 24)) := rfl
theorem q_7_248 : mm_cll 7 248 = some ((7, 248), (0, 15, 3, 392, 393, 394, 25)) := rfl
theorem q_7_251 : mm_cll 7 251 = some ((7, 251), (0, 9, 2, 246, 247, 248, 20)) := rfl
theorem q_7_254 : mm_cll 7 254 = some ((7, 254), (1, 44, 0, 617, 516, 27, 0)) := rfl
theorem q_7_257 : mm_cll 7 257 = some ((7, 257), (1, 43, 0, 618, 619, 27, 0)) := rfl
theorem q_8_9 : mm_cll 8 9 = some ((8, 9), (0, 87, 6, 408, 409, 410, 19)) := rfl
theorem q_8_15 : mm_cll 8 15 = some ((8, 15), (1, 99, 0, 400, 401, 18, 0)) := rfl
theorem q_8_21 : mm_cll 8 21 = some ((8, 21), (0, 72, 6, 356, 357, 358, 19)) := rfl
theorem q_8_25 : mm_cll 8 25 = some ((8, 25), (0, 86, 6, 388, 389, 390, 19)) := rfl
theorem q_8_28 : mm_cll 8 28 = some ((8, 28), (0, 88, 6, 396, 397, 398, 19)) := rfl
theorem q_8_31 : mm_cll 8 31 = some ((8, 31), (0, 79, 6, 415, 416, 417, 19)) := rfl
theorem q_8_34 : mm_cll 8 34 = some ((8, 34), (0, 73, 6, 360, 361, 362, 19)) := rfl
theorem q_8_38 : mm_cll 8 38 = some ((8, 38), (0, 74, 6, 468, 469, 470, 19)) := rfl
theorem q_8_41 : mm_cll 8 41 = some ((8, 41), (0, 81, 6, 477, 478, 479, 19)) := rfl
theorem q_8_44 : mm_cll 8 44 = some ((8, 44), (0, 80, 6, 482, 483, 484, 19)) := rfl
theorem q_8_47 : mm_cll 8 47 = some ((8, 47), (0, 85, 6, 490, 491, 492, 19)) := rfl
theorem q_8_51 : mm_cll 8 51 = some ((8, 51), (0, 82, 6, 534, 535, 536, 19)) := rfl
theorem q_8_54 : mm_cll 8 54 = some ((8, 54), (0, 78, 6, 569, 570, 571, 19)) := rfl
theorem q_8_57 : mm_cll 8 57 = some ((8, 57), (0, 77, 6, 574, 575, 576, 19)) := rfl
theorem q_8_60 : mm_cll 8 60 = some ((8, 60), (0, 84, 6, 578, 579, 580, 19)) := rfl
theorem q_8_63 : mm_cll 8 63 = some ((8, 63), (0, 67, 6, 594, 595, 596, 19)) := rfl
theorem q_8_66 : mm_cll 8 66 = some ((8, 66), (0, 68, 6, 602, 603, 604, 19)) := rfl
theorem q_8_70 : mm_cll 8 70 = some ((8, 70), (1, 101, 0, 412, 413, 18, 0)) := rfl
theorem q_8_74 : mm_cll 8 74 = some ((8, 74), (0, 71, 6, 348, 349, 350, 19)) := rfl
theorem q_8_78 : mm_cll 8 78 = some ((8, 78), (0, 70, 6, 271, 272, 273, 19)) := rfl
theorem q_8_81 : mm_cll 8 81 = some ((8, 81), (0, 62, 6, 206, 207, 208, 19)) := rfl
theorem q_8_84 : mm_cll 8 84 = some ((8, 84), (0, 69, 6, 267, 268, 269, 19)) := rfl
theorem q_8_87 : mm_cll 8 87 = some ((8, 87), (1, 100, 0, 405, 406, 18, 0)) := rfl
theorem q_8_91 : mm_cll 8 91 = some ((8, 91), (0, 63, 6, 224, 225, 226, 19)) := rfl
theorem q_8_94 : mm_cll 8 94 = some ((8, 94), (1, 102, 0, 591, 592, 18, 0)) := rfl
theorem t_5_87 : mm_stt 5 87 = some ((5, 87), (true, 565)) := by decide +kernel
theorem t_5_90 : mm_stt 5 90 = some ((5, 90), (false, 567)) := by decide +kernel
theorem z_8_7 : mm_cst 8 7 = some ((8, 7), (15485959, 403)) := by decide +kernel
theorem z_8_8 : mm_cst 8 8 = some ((8, 8), (2147483647, 404)) := by decide +kernel
theorem mm_roomy_of {j k na : Nat} {r : List mm_V} (h1 : Nat.ble (mm_fr k + 1) (mm_fr j) = true) (h2 : Nat.ble (8 + (mm_maxL k + 11) + mm_lo k) (mm_lo j) = true) (h3 : Nat.ble na (mm_maxL k) = true) (h4 : Nat.ble r.length 8 = true) : mm_roomy j k na r = true := by simp only [mm_roomy, h1, h2, h3, h4, Bool.and_self]
theorem yL_copied_L_cell {na : Nat} {r : List mm_V} (h3 : Nat.ble na 2 = true) (h4 : Nat.ble r.length 8 = true) : mm_roomy 102 99 na r = true := mm_roomy_of (by rw [kfL_cell, kfL_copied]; rfl) (by rw [kmL_cell, klL_cell, klL_copied]; rfl) (by rw [kmL_cell]; exact h3) h4
theorem yL_copied_L_holds {na : Nat} {r : List mm_V} (h3 : Nat.ble na 8 = true) (h4 : Nat.ble r.length 8 = true) : mm_roomy 102 101 na r = true := mm_roomy_of (by rw [kfL_holds, kfL_copied]; rfl) (by rw [kmL_holds, klL_holds, klL_copied]; rfl) (by rw [kmL_holds]; exact h3) h4
theorem yL_copied_X7_alike {na : Nat} {r : List mm_V} (h3 : Nat.ble na 6 = true) (h4 : Nat.ble r.length 8 = true) : mm_roomy 102 85 na r = true := mm_roomy_of (by rw [kfX7_alike, kfL_copied]; rfl) (by rw [kmX7_alike, klX7_alike, klL_copied]; rfl) (by rw [kmX7_alike]; exact h3) h4
theorem yL_copied_X7_copyPhrase {na : Nat} {r : List mm_V} (h3 : Nat.ble na 9 = true) (h4 : Nat.ble r.length 8 = true) : mm_roomy 102 68 na r = true := mm_roomy_of (by rw [kfX7_copyPhrase, kfL_copied]; rfl) (by rw [kmX7_copyPhrase, klX7_copyPhrase, klL_copied]; rfl) (by rw [kmX7_copyPhrase]; exact h3) h4
theorem yL_copied_X7_count {na : Nat} {r : List mm_V} (h3 : Nat.ble na 2 = true) (h4 : Nat.ble r.length 8 = true) : mm_roomy 102 72 na r = true := mm_roomy_of (by rw [kfX7_count, kfL_copied]; rfl) (by rw [kmX7_count, klX7_count, klL_copied]; rfl) (by rw [kmX7_count]; exact h3) h4
theorem yL_copied_X7_removeSign {na : Nat} {r : List mm_V} (h3 : Nat.ble na 2 = true) (h4 : Nat.ble r.length 8 = true) : mm_roomy 102 67 na r = true := mm_roomy_of (by rw [kfX7_removeSign, kfL_copied]; rfl) (by rw [kmX7_removeSign, klX7_removeSign, klL_copied]; rfl) (by rw [kmX7_removeSign]; exact h3) h4
theorem yL_copied_X7_sign {na : Nat} {r : List mm_V} (h3 : Nat.ble na 5 = true) (h4 : Nat.ble r.length 8 = true) : mm_roomy 102 73 na r = true := mm_roomy_of (by rw [kfX7_sign, kfL_copied]; rfl) (by rw [kmX7_sign, klX7_sign, klL_copied]; rfl) (by rw [kmX7_sign]; exact h3) h4
theorem yL_copied_X7_signAt {na : Nat} {r : List mm_V} (h3 : Nat.ble na 4 = true) (h4 : Nat.ble r.length 8 = true) : mm_roomy 102 74 na r = true := mm_roomy_of (by rw [kfX7_signAt, kfL_copied]; rfl) (by rw [kmX7_signAt, klX7_signAt, klL_copied]; rfl) (by rw [kmX7_signAt]; exact h3) h4
theorem yL_copied_X7_undo {na : Nat} {r : List mm_V} (h3 : Nat.ble na 1 = true) (h4 : Nat.ble r.length 8 = true) : mm_roomy 102 71 na r = true := mm_roomy_of (by rw [kfX7_undo, kfL_copied]; rfl) (by rw [kmX7_undo, klX7_undo, klL_copied]; rfl) (by rw [kmX7_undo]; exact h3) h4
theorem yL_holds_X7_alike {na : Nat} {r : List mm_V} (h3 : Nat.ble na 6 = true) (h4 : Nat.ble r.length 8 = true) : mm_roomy 101 85 na r = true := mm_roomy_of (by rw [kfX7_alike, kfL_holds]; rfl) (by rw [kmX7_alike, klX7_alike, klL_holds]; rfl) (by rw [kmX7_alike]; exact h3) h4
theorem yL_holds_X7_beats {na : Nat} {r : List mm_V} (h3 : Nat.ble na 2 = true) (h4 : Nat.ble r.length 8 = true) : mm_roomy 101 79 na r = true := mm_roomy_of (by rw [kfX7_beats, kfL_holds]; rfl) (by rw [kmX7_beats, klX7_beats, klL_holds]; rfl) (by rw [kmX7_beats]; exact h3) h4
theorem yL_holds_X7_count {na : Nat} {r : List mm_V} (h3 : Nat.ble na 2 = true) (h4 : Nat.ble r.length 8 = true) : mm_roomy 101 72 na r = true := mm_roomy_of (by rw [kfX7_count, kfL_holds]; rfl) (by rw [kmX7_count, klX7_count, klL_holds]; rfl) (by rw [kmX7_count]; exact h3) h4
theorem yL_holds_X7_covered {na : Nat} {r : List mm_V} (h3 : Nat.ble na 6 = true) (h4 : Nat.ble r.length 8 = true) : mm_roomy 101 81 na r = true := mm_roomy_of (by rw [kfX7_covered, kfL_holds]; rfl) (by rw [kmX7_covered, klX7_covered, klL_holds]; rfl) (by rw [kmX7_covered]; exact h3) h4
theorem yL_holds_X7_farthest {na : Nat} {r : List mm_V} (h3 : Nat.ble na 3 = true) (h4 : Nat.ble r.length 8 = true) : mm_roomy 101 84 na r = true := mm_roomy_of (by rw [kfX7_farthest, kfL_holds]; rfl) (by rw [kmX7_farthest, klX7_farthest, klL_holds]; rfl) (by rw [kmX7_farthest]; exact h3) h4
theorem yL_holds_X7_floor {na : Nat} {r : List mm_V} (h3 : Nat.ble na 3 = true) (h4 : Nat.ble r.length 8 = true) : mm_roomy 101 82 na r = true := mm_roomy_of (by rw [kfX7_floor, kfL_holds]; rfl) (by rw [kmX7_floor, klX7_floor, klL_holds]; rfl) (by rw [kmX7_floor]; exact h3) h4
theorem yL_holds_X7_isFaulty {na : Nat} {r : List mm_V} (h3 : Nat.ble na 2 = true) (h4 : Nat.ble r.length 8 = true) : mm_roomy 101 77 na r = true := mm_roomy_of (by rw [kfX7_isFaulty, kfL_holds]; rfl) (by rw [kmX7_isFaulty, klX7_isFaulty, klL_holds]; rfl) (by rw [kmX7_isFaulty]; exact h3) h4
theorem yL_holds_X7_leastLeap {na : Nat} {r : List mm_V} (h3 : Nat.ble na 1 = true) (h4 : Nat.ble r.length 8 = true) : mm_roomy 101 80 na r = true := mm_roomy_of (by rw [kfX7_leastLeap, kfL_holds]; rfl) (by rw [kmX7_leastLeap, klX7_leastLeap, klL_holds]; rfl) (by rw [kmX7_leastLeap]; exact h3) h4
theorem yL_holds_X7_nextFault {na : Nat} {r : List mm_V} (h3 : Nat.ble na 3 = true) (h4 : Nat.ble r.length 8 = true) : mm_roomy 101 78 na r = true := mm_roomy_of (by rw [kfX7_nextFault, kfL_holds]; rfl) (by rw [kmX7_nextFault, klX7_nextFault, klL_holds]; rfl) (by rw [kmX7_nextFault]; exact h3) h4
theorem yL_holds_X7_sign {na : Nat} {r : List mm_V} (h3 : Nat.ble na 5 = true) (h4 : Nat.ble r.length 8 = true) : mm_roomy 101 73 na r = true := mm_roomy_of (by rw [kfX7_sign, kfL_holds]; rfl) (by rw [kmX7_sign, klX7_sign, klL_holds]; rfl) (by rw [kmX7_sign]; exact h3) h4
theorem yL_holds_X7_signAt {na : Nat} {r : List mm_V} (h3 : Nat.ble na 4 = true) (h4 : Nat.ble r.length 8 = true) : mm_roomy 101 74 na r = true := mm_roomy_of (by rw [kfX7_signAt, kfL_holds]; rfl) (by rw [kmX7_signAt, klX7_signAt, klL_holds]; rfl) (by rw [kmX7_signAt]; exact h3) h4
theorem yL_law_L_cell {na : Nat} {r : List mm_V} (h3 : Nat.ble na 2 = true) (h4 : Nat.ble r.length 8 = true) : mm_roomy 169 99 na r = true := mm_roomy_of (by rw [kfL_cell, kfL_law]; rfl) (by rw [kmL_cell, klL_cell, klL_law]; rfl) (by rw [kmL_cell]; exact h3) h4
theorem yL_law_L_copied {na : Nat} {r : List mm_V} (h3 : Nat.ble na 14 = true) (h4 : Nat.ble r.length 8 = true) : mm_roomy 169 102 na r = true := mm_roomy_of (by rw [kfL_copied, kfL_law]; rfl) (by rw [kmL_copied, klL_copied, klL_law]; rfl) (by rw [kmL_copied]; exact h3) h4
theorem yL_law_L_holds {na : Nat} {r : List mm_V} (h3 : Nat.ble na 8 = true) (h4 : Nat.ble r.length 8 = true) : mm_roomy 169 101 na r = true := mm_roomy_of (by rw [kfL_holds, kfL_law]; rfl) (by rw [kmL_holds, klL_holds, klL_law]; rfl) (by rw [kmL_holds]; exact h3) h4
theorem yL_law_L_types {na : Nat} {r : List mm_V} (h3 : Nat.ble na 14 = true) (h4 : Nat.ble r.length 8 = true) : mm_roomy 169 100 na r = true := mm_roomy_of (by rw [kfL_types, kfL_law]; rfl) (by rw [kmL_types, klL_types, klL_law]; rfl) (by rw [kmL_types]; exact h3) h4
theorem yL_law_X7_addMove {na : Nat} {r : List mm_V} (h3 : Nat.ble na 6 = true) (h4 : Nat.ble r.length 8 = true) : mm_roomy 169 63 na r = true := mm_roomy_of (by rw [kfX7_addMove, kfL_law]; rfl) (by rw [kmX7_addMove, klX7_addMove, klL_law]; rfl) (by rw [kmX7_addMove]; exact h3) h4
theorem yL_law_X7_count {na : Nat} {r : List mm_V} (h3 : Nat.ble na 2 = true) (h4 : Nat.ble r.length 8 = true) : mm_roomy 169 72 na r = true := mm_roomy_of (by rw [kfX7_count, kfL_law]; rfl) (by rw [kmX7_count, klX7_count, klL_law]; rfl) (by rw [kmX7_count]; exact h3) h4
theorem yL_law_X7_fault {na : Nat} {r : List mm_V} (h3 : Nat.ble na 2 = true) (h4 : Nat.ble r.length 8 = true) : mm_roomy 169 88 na r = true := mm_roomy_of (by rw [kfX7_fault, kfL_law]; rfl) (by rw [kmX7_fault, klX7_fault, klL_law]; rfl) (by rw [kmX7_fault]; exact h3) h4
theorem yL_law_X7_lay {na : Nat} {r : List mm_V} (h3 : Nat.ble na 1 = true) (h4 : Nat.ble r.length 8 = true) : mm_roomy 169 70 na r = true := mm_roomy_of (by rw [kfX7_lay, kfL_law]; rfl) (by rw [kmX7_lay, klX7_lay, klL_law]; rfl) (by rw [kmX7_lay]; exact h3) h4
theorem yL_law_X7_reset {na : Nat} {r : List mm_V} (h3 : Nat.ble na 3 = true) (h4 : Nat.ble r.length 8 = true) : mm_roomy 169 62 na r = true := mm_roomy_of (by rw [kfX7_reset, kfL_law]; rfl) (by rw [kmX7_reset, klX7_reset, klL_law]; rfl) (by rw [kmX7_reset]; exact h3) h4
theorem yL_law_X7_setLeap {na : Nat} {r : List mm_V} (h3 : Nat.ble na 3 = true) (h4 : Nat.ble r.length 8 = true) : mm_roomy 169 69 na r = true := mm_roomy_of (by rw [kfX7_setLeap, kfL_law]; rfl) (by rw [kmX7_setLeap, klX7_setLeap, klL_law]; rfl) (by rw [kmX7_setLeap]; exact h3) h4
theorem yL_law_X7_sign {na : Nat} {r : List mm_V} (h3 : Nat.ble na 5 = true) (h4 : Nat.ble r.length 8 = true) : mm_roomy 169 73 na r = true := mm_roomy_of (by rw [kfX7_sign, kfL_law]; rfl) (by rw [kmX7_sign, klX7_sign, klL_law]; rfl) (by rw [kmX7_sign]; exact h3) h4
theorem yL_law_X7_type {na : Nat} {r : List mm_V} (h3 : Nat.ble na 2 = true) (h4 : Nat.ble r.length 8 = true) : mm_roomy 169 86 na r = true := mm_roomy_of (by rw [kfX7_type, kfL_law]; rfl) (by rw [kmX7_type, klX7_type, klL_law]; rfl) (by rw [kmX7_type]; exact h3) h4
theorem yL_law_X7_undo {na : Nat} {r : List mm_V} (h3 : Nat.ble na 1 = true) (h4 : Nat.ble r.length 8 = true) : mm_roomy 169 71 na r = true := mm_roomy_of (by rw [kfX7_undo, kfL_law]; rfl) (by rw [kmX7_undo, klX7_undo, klL_law]; rfl) (by rw [kmX7_undo]; exact h3) h4
theorem yL_types_L_cell {na : Nat} {r : List mm_V} (h3 : Nat.ble na 2 = true) (h4 : Nat.ble r.length 8 = true) : mm_roomy 100 99 na r = true := mm_roomy_of (by rw [kfL_cell, kfL_types]; rfl) (by rw [kmL_cell, klL_cell, klL_types]; rfl) (by rw [kmL_cell]; exact h3) h4
theorem yL_types_X7_clearText {na : Nat} {r : List mm_V} (h3 : Nat.ble na 2 = true) (h4 : Nat.ble r.length 8 = true) : mm_roomy 100 87 na r = true := mm_roomy_of (by rw [kfX7_clearText, kfL_types]; rfl) (by rw [kmX7_clearText, klX7_clearText, klL_types]; rfl) (by rw [kmX7_clearText]; exact h3) h4
theorem yL_types_X7_count {na : Nat} {r : List mm_V} (h3 : Nat.ble na 2 = true) (h4 : Nat.ble r.length 8 = true) : mm_roomy 100 72 na r = true := mm_roomy_of (by rw [kfX7_count, kfL_types]; rfl) (by rw [kmX7_count, klX7_count, klL_types]; rfl) (by rw [kmX7_count]; exact h3) h4
theorem yL_types_X7_fault {na : Nat} {r : List mm_V} (h3 : Nat.ble na 2 = true) (h4 : Nat.ble r.length 8 = true) : mm_roomy 100 88 na r = true := mm_roomy_of (by rw [kfX7_fault, kfL_types]; rfl) (by rw [kmX7_fault, klX7_fault, klL_types]; rfl) (by rw [kmX7_fault]; exact h3) h4
theorem yL_types_X7_type {na : Nat} {r : List mm_V} (h3 : Nat.ble na 2 = true) (h4 : Nat.ble r.length 8 = true) : mm_roomy 100 86 na r = true := mm_roomy_of (by rw [kfX7_type, kfL_types]; rfl) (by rw [kmX7_type, klX7_type, klL_types]; rfl) (by rw [kmX7_type]; exact h3) h4
theorem yX0_begin_J7_fill_53178 {na : Nat} {r : List mm_V} (h3 : Nat.ble na 4 = true) (h4 : Nat.ble r.length 8 = true) : mm_roomy 0 168 na r = true := mm_roomy_of (by rw [kfJ7_fill_53178, kfX0_begin]; rfl) (by rw [kmJ7_fill_53178, klJ7_fill_53178, klX0_begin]; rfl) (by rw [kmJ7_fill_53178]; exact h3) h4
theorem yX0_compare_J9_max_7cf53 {na : Nat} {r : List mm_V} (h3 : Nat.ble na 2 = true) (h4 : Nat.ble r.length 8 = true) : mm_roomy 1 166 na r = true := mm_roomy_of (by rw [kfJ9_max_7cf53, kfX0_compare]; rfl) (by rw [kmJ9_max_7cf53, klJ9_max_7cf53, klX0_compare]; rfl) (by rw [kmJ9_max_7cf53]; exact h3) h4
theorem yX0_compare_X2_fillRow {na : Nat} {r : List mm_V} (h3 : Nat.ble na 6 = true) (h4 : Nat.ble r.length 8 = true) : mm_roomy 1 14 na r = true := mm_roomy_of (by rw [kfX2_fillRow, kfX0_compare]; rfl) (by rw [kmX2_fillRow, klX2_fillRow, klX0_compare]; rfl) (by rw [kmX2_fillRow]; exact h3) h4
theorem yX0_compare_X4_lookOf {na : Nat} {r : List mm_V} (h3 : Nat.ble na 1 = true) (h4 : Nat.ble r.length 8 = true) : mm_roomy 1 41 na r = true := mm_roomy_of (by rw [kfX4_lookOf, kfX0_compare]; rfl) (by rw [kmX4_lookOf, klX4_lookOf, klX0_compare]; rfl) (by rw [kmX4_lookOf]; exact h3) h4
theorem yX0_compare_X4_mirrored {na : Nat} {r : List mm_V} (h3 : Nat.ble na 1 = true) (h4 : Nat.ble r.length 8 = true) : mm_roomy 1 44 na r = true := mm_roomy_of (by rw [kfX4_mirrored, kfX0_compare]; rfl) (by rw [kmX4_mirrored, klX4_mirrored, klX0_compare]; rfl) (by rw [kmX4_mirrored]; exact h3) h4
theorem yX0_compare_X4_mirroredColumn {na : Nat} {r : List mm_V} (h3 : Nat.ble na 1 = true) (h4 : Nat.ble r.length 8 = true) : mm_roomy 1 45 na r = true := mm_roomy_of (by rw [kfX4_mirroredColumn, kfX0_compare]; rfl) (by rw [kmX4_mirroredColumn, klX4_mirroredColumn, klX0_compare]; rfl) (by rw [kmX4_mirroredColumn]; exact h3) h4
theorem yX2_endOf_X2_at {na : Nat} {r : List mm_V} (h3 : Nat.ble na 2 = true) (h4 : Nat.ble r.length 8 = true) : mm_roomy 12 8 na r = true := mm_roomy_of (by rw [kfX2_at, kfX2_endOf]; rfl) (by rw [kmX2_at, klX2_at, klX2_endOf]; rfl) (by rw [kmX2_at]; exact h3) h4
theorem yX2_endOf_X4_beginOf {na : Nat} {r : List mm_V} (h3 : Nat.ble na 1 = true) (h4 : Nat.ble r.length 8 = true) : mm_roomy 12 33 na r = true := mm_roomy_of (by rw [kfX4_beginOf, kfX2_endOf]; rfl) (by rw [kmX4_beginOf, klX4_beginOf, klX2_endOf]; rfl) (by rw [kmX4_beginOf]; exact h3) h4
theorem yX2_endOf_X4_columnOf {na : Nat} {r : List mm_V} (h3 : Nat.ble na 1 = true) (h4 : Nat.ble r.length 8 = true) : mm_roomy 12 34 na r = true := mm_roomy_of (by rw [kfX4_columnOf, kfX2_endOf]; rfl) (by rw [kmX4_columnOf, klX4_columnOf, klX2_endOf]; rfl) (by rw [kmX4_columnOf]; exact h3) h4
theorem yX2_endOf_X4_kindOf {na : Nat} {r : List mm_V} (h3 : Nat.ble na 1 = true) (h4 : Nat.ble r.length 8 = true) : mm_roomy 12 36 na r = true := mm_roomy_of (by rw [kfX4_kindOf, kfX2_endOf]; rfl) (by rw [kmX4_kindOf, klX4_kindOf, klX2_endOf]; rfl) (by rw [kmX4_kindOf]; exact h3) h4
theorem yX2_endOf_X4_shortEndOf {na : Nat} {r : List mm_V} (h3 : Nat.ble na 1 = true) (h4 : Nat.ble r.length 8 = true) : mm_roomy 12 40 na r = true := mm_roomy_of (by rw [kfX4_shortEndOf, kfX2_endOf]; rfl) (by rw [kmX4_shortEndOf, klX4_shortEndOf, klX2_endOf]; rfl) (by rw [kmX4_shortEndOf]; exact h3) h4
theorem yX2_fillRow_J7_fill_53178 {na : Nat} {r : List mm_V} (h3 : Nat.ble na 4 = true) (h4 : Nat.ble r.length 8 = true) : mm_roomy 14 168 na r = true := mm_roomy_of (by rw [kfJ7_fill_53178, kfX2_fillRow]; rfl) (by rw [kmJ7_fill_53178, klJ7_fill_53178, klX2_fillRow]; rfl) (by rw [kmJ7_fill_53178]; exact h3) h4
theorem yX2_fillRow_J9_min_7cf53 {na : Nat} {r : List mm_V} (h3 : Nat.ble na 2 = true) (h4 : Nat.ble r.length 8 = true) : mm_roomy 14 167 na r = true := mm_roomy_of (by rw [kfJ9_min_7cf53, kfX2_fillRow]; rfl) (by rw [kmJ9_min_7cf53, klJ9_min_7cf53, klX2_fillRow]; rfl) (by rw [kmJ9_min_7cf53]; exact h3) h4
theorem yX2_fillRow_X2_endOf {na : Nat} {r : List mm_V} (h3 : Nat.ble na 4 = true) (h4 : Nat.ble r.length 8 = true) : mm_roomy 14 12 na r = true := mm_roomy_of (by rw [kfX2_endOf, kfX2_fillRow]; rfl) (by rw [kmX2_endOf, klX2_endOf, klX2_fillRow]; rfl) (by rw [kmX2_endOf]; exact h3) h4
theorem yX2_fillRow_X4_beginOf {na : Nat} {r : List mm_V} (h3 : Nat.ble na 1 = true) (h4 : Nat.ble r.length 8 = true) : mm_roomy 14 33 na r = true := mm_roomy_of (by rw [kfX4_beginOf, kfX2_fillRow]; rfl) (by rw [kmX4_beginOf, klX4_beginOf, klX2_fillRow]; rfl) (by rw [kmX4_beginOf]; exact h3) h4
theorem yX2_fillRow_X4_columnOf {na : Nat} {r : List mm_V} (h3 : Nat.ble na 1 = true) (h4 : Nat.ble r.length 8 = true) : mm_roomy 14 34 na r = true := mm_roomy_of (by rw [kfX4_columnOf, kfX2_fillRow]; rfl) (by rw [kmX4_columnOf, klX4_columnOf, klX2_fillRow]; rfl) (by rw [kmX4_columnOf]; exact h3) h4
theorem yX2_hasRoomFor_X4_beginOf {na : Nat} {r : List mm_V} (h3 : Nat.ble na 1 = true) (h4 : Nat.ble r.length 8 = true) : mm_roomy 9 33 na r = true := mm_roomy_of (by rw [kfX4_beginOf, kfX2_hasRoomFor]; rfl) (by rw [kmX4_beginOf, klX4_beginOf, klX2_hasRoomFor]; rfl) (by rw [kmX4_beginOf]; exact h3) h4
theorem yX2_hasRoomFor_X4_columnOf {na : Nat} {r : List mm_V} (h3 : Nat.ble na 1 = true) (h4 : Nat.ble r.length 8 = true) : mm_roomy 9 34 na r = true := mm_roomy_of (by rw [kfX4_columnOf, kfX2_hasRoomFor]; rfl) (by rw [kmX4_columnOf, klX4_columnOf, klX2_hasRoomFor]; rfl) (by rw [kmX4_columnOf]; exact h3) h4
theorem yX2_hasRoomFor_X4_shortEndOf {na : Nat} {r : List mm_V} (h3 : Nat.ble na 1 = true) (h4 : Nat.ble r.length 8 = true) : mm_roomy 9 40 na r = true := mm_roomy_of (by rw [kfX4_shortEndOf, kfX2_hasRoomFor]; rfl) (by rw [kmX4_shortEndOf, klX4_shortEndOf, klX2_hasRoomFor]; rfl) (by rw [kmX4_shortEndOf]; exact h3) h4
theorem yX2_numberCovering_X2_endOf {na : Nat} {r : List mm_V} (h3 : Nat.ble na 4 = true) (h4 : Nat.ble r.length 8 = true) : mm_roomy 13 12 na r = true := mm_roomy_of (by rw [kfX2_endOf, kfX2_numberCovering]; rfl) (by rw [kmX2_endOf, klX2_endOf, klX2_numberCovering]; rfl) (by rw [kmX2_endOf]; exact h3) h4
theorem yX2_numberCovering_X4_beginOf {na : Nat} {r : List mm_V} (h3 : Nat.ble na 1 = true) (h4 : Nat.ble r.length 8 = true) : mm_roomy 13 33 na r = true := mm_roomy_of (by rw [kfX4_beginOf, kfX2_numberCovering]; rfl) (by rw [kmX4_beginOf, klX4_beginOf, klX2_numberCovering]; rfl) (by rw [kmX4_beginOf]; exact h3) h4
theorem yX2_numberCovering_X4_columnOf {na : Nat} {r : List mm_V} (h3 : Nat.ble na 1 = true) (h4 : Nat.ble r.length 8 = true) : mm_roomy 13 34 na r = true := mm_roomy_of (by rw [kfX4_columnOf, kfX2_numberCovering]; rfl) (by rw [kmX4_columnOf, klX4_columnOf, klX2_numberCovering]; rfl) (by rw [kmX4_columnOf]; exact h3) h4
theorem yX3_isTaken_X2_put {na : Nat} {r : List mm_V} (h3 : Nat.ble na 3 = true) (h4 : Nat.ble r.length 8 = true) : mm_roomy 19 10 na r = true := mm_roomy_of (by rw [kfX2_put, kfX3_isTaken]; rfl) (by rw [kmX2_put, klX2_put, klX3_isTaken]; rfl) (by rw [kmX2_put]; exact h3) h4
theorem yX3_readDigit_X3_digitAt {na : Nat} {r : List mm_V} (h3 : Nat.ble na 3 = true) (h4 : Nat.ble r.length 8 = true) : mm_roomy 25 27 na r = true := mm_roomy_of (by rw [kfX3_digitAt, kfX3_readDigit]; rfl) (by rw [kmX3_digitAt, klX3_digitAt, klX3_readDigit]; rfl) (by rw [kmX3_digitAt]; exact h3) h4
theorem yX3_readFor_J7_fill_53178 {na : Nat} {r : List mm_V} (h3 : Nat.ble na 4 = true) (h4 : Nat.ble r.length 8 = true) : mm_roomy 16 168 na r = true := mm_roomy_of (by rw [kfJ7_fill_53178, kfX3_readFor]; rfl) (by rw [kmJ7_fill_53178, klJ7_fill_53178, klX3_readFor]; rfl) (by rw [kmJ7_fill_53178]; exact h3) h4
theorem yX3_readFor_X2_emptyAs {na : Nat} {r : List mm_V} (h3 : Nat.ble na 2 = true) (h4 : Nat.ble r.length 8 = true) : mm_roomy 16 6 na r = true := mm_roomy_of (by rw [kfX2_emptyAs, kfX3_readFor]; rfl) (by rw [kmX2_emptyAs, klX2_emptyAs, klX3_readFor]; rfl) (by rw [kmX2_emptyAs]; exact h3) h4
theorem yX3_readFor_X3_readItem {na : Nat} {r : List mm_V} (h3 : Nat.ble na 8 = true) (h4 : Nat.ble r.length 8 = true) : mm_roomy 16 17 na r = true := mm_roomy_of (by rw [kfX3_readItem, kfX3_readFor]; rfl) (by rw [kmX3_readItem, klX3_readItem, klX3_readFor]; rfl) (by rw [kmX3_readItem]; exact h3) h4
theorem yX3_readItem_X3_isTaken {na : Nat} {r : List mm_V} (h3 : Nat.ble na 2 = true) (h4 : Nat.ble r.length 8 = true) : mm_roomy 17 19 na r = true := mm_roomy_of (by rw [kfX3_isTaken, kfX3_readItem]; rfl) (by rw [kmX3_isTaken, klX3_isTaken, klX3_readItem]; rfl) (by rw [kmX3_isTaken]; exact h3) h4
theorem yX3_readItem_X3_readCharacter {na : Nat} {r : List mm_V} (h3 : Nat.ble na 2 = true) (h4 : Nat.ble r.length 8 = true) : mm_roomy 17 26 na r = true := mm_roomy_of (by rw [kfX3_readCharacter, kfX3_readItem]; rfl) (by rw [kmX3_readCharacter, klX3_readCharacter, klX3_readItem]; rfl) (by rw [kmX3_readCharacter]; exact h3) h4
theorem yX3_readItem_X3_readDigit {na : Nat} {r : List mm_V} (h3 : Nat.ble na 2 = true) (h4 : Nat.ble r.length 8 = true) : mm_roomy 17 25 na r = true := mm_roomy_of (by rw [kfX3_readDigit, kfX3_readItem]; rfl) (by rw [kmX3_readDigit, klX3_readDigit, klX3_readItem]; rfl) (by rw [kmX3_readDigit]; exact h3) h4
theorem yX3_readItem_X3_readLength {na : Nat} {r : List mm_V} (h3 : Nat.ble na 3 = true) (h4 : Nat.ble r.length 8 = true) : mm_roomy 17 24 na r = true := mm_roomy_of (by rw [kfX3_readLength, kfX3_readItem]; rfl) (by rw [kmX3_readLength, klX3_readLength, klX3_readItem]; rfl) (by rw [kmX3_readLength]; exact h3) h4
theorem yX3_readItem_X3_readSign {na : Nat} {r : List mm_V} (h3 : Nat.ble na 4 = true) (h4 : Nat.ble r.length 8 = true) : mm_roomy 17 20 na r = true := mm_roomy_of (by rw [kfX3_readSign, kfX3_readItem]; rfl) (by rw [kmX3_readSign, klX3_readSign, klX3_readItem]; rfl) (by rw [kmX3_readSign]; exact h3) h4
theorem yX3_readItem_X3_spanOf {na : Nat} {r : List mm_V} (h3 : Nat.ble na 1 = true) (h4 : Nat.ble r.length 8 = true) : mm_roomy 17 18 na r = true := mm_roomy_of (by rw [kfX3_spanOf, kfX3_readItem]; rfl) (by rw [kmX3_spanOf, klX3_spanOf, klX3_readItem]; rfl) (by rw [kmX3_spanOf]; exact h3) h4
theorem yX3_readItem_X7_isColumn {na : Nat} {r : List mm_V} (h3 : Nat.ble na 1 = true) (h4 : Nat.ble r.length 8 = true) : mm_roomy 17 91 na r = true := mm_roomy_of (by rw [kfX7_isColumn, kfX3_readItem]; rfl) (by rw [kmX7_isColumn, klX7_isColumn, klX3_readItem]; rfl) (by rw [kmX7_isColumn]; exact h3) h4
theorem yX3_readLength_X3_digitAt {na : Nat} {r : List mm_V} (h3 : Nat.ble na 3 = true) (h4 : Nat.ble r.length 8 = true) : mm_roomy 24 27 na r = true := mm_roomy_of (by rw [kfX3_digitAt, kfX3_readLength]; rfl) (by rw [kmX3_digitAt, klX3_digitAt, klX3_readLength]; rfl) (by rw [kmX3_digitAt]; exact h3) h4
theorem yX3_readMove_X3_levelNamed {na : Nat} {r : List mm_V} (h3 : Nat.ble na 1 = true) (h4 : Nat.ble r.length 8 = true) : mm_roomy 21 23 na r = true := mm_roomy_of (by rw [kfX3_levelNamed, kfX3_readMove]; rfl) (by rw [kmX3_levelNamed, klX3_levelNamed, klX3_readMove]; rfl) (by rw [kmX3_levelNamed]; exact h3) h4
theorem yX3_readMove_X3_readCharacter {na : Nat} {r : List mm_V} (h3 : Nat.ble na 2 = true) (h4 : Nat.ble r.length 8 = true) : mm_roomy 21 26 na r = true := mm_roomy_of (by rw [kfX3_readCharacter, kfX3_readMove]; rfl) (by rw [kmX3_readCharacter, klX3_readCharacter, klX3_readMove]; rfl) (by rw [kmX3_readCharacter]; exact h3) h4
theorem yX3_readMove_X3_readDigit {na : Nat} {r : List mm_V} (h3 : Nat.ble na 2 = true) (h4 : Nat.ble r.length 8 = true) : mm_roomy 21 25 na r = true := mm_roomy_of (by rw [kfX3_readDigit, kfX3_readMove]; rfl) (by rw [kmX3_readDigit, klX3_readDigit, klX3_readMove]; rfl) (by rw [kmX3_readDigit]; exact h3) h4
theorem yX3_readMove_X3_readLength {na : Nat} {r : List mm_V} (h3 : Nat.ble na 3 = true) (h4 : Nat.ble r.length 8 = true) : mm_roomy 21 24 na r = true := mm_roomy_of (by rw [kfX3_readLength, kfX3_readMove]; rfl) (by rw [kmX3_readLength, klX3_readLength, klX3_readMove]; rfl) (by rw [kmX3_readLength]; exact h3) h4
theorem yX3_readMove_X4_move {na : Nat} {r : List mm_V} (h3 : Nat.ble na 5 = true) (h4 : Nat.ble r.length 8 = true) : mm_roomy 21 28 na r = true := mm_roomy_of (by rw [kfX4_move, kfX3_readMove]; rfl) (by rw [kmX4_move, klX4_move, klX3_readMove]; rfl) (by rw [kmX4_move]; exact h3) h4
theorem yX3_readMove_X7_isWithin {na : Nat} {r : List mm_V} (h3 : Nat.ble na 3 = true) (h4 : Nat.ble r.length 8 = true) : mm_roomy 21 89 na r = true := mm_roomy_of (by rw [kfX7_isWithin, kfX3_readMove]; rfl) (by rw [kmX7_isWithin, klX7_isWithin, klX3_readMove]; rfl) (by rw [kmX7_isWithin]; exact h3) h4
theorem yX3_readSign_X3_readLength {na : Nat} {r : List mm_V} (h3 : Nat.ble na 3 = true) (h4 : Nat.ble r.length 8 = true) : mm_roomy 20 24 na r = true := mm_roomy_of (by rw [kfX3_readLength, kfX3_readSign]; rfl) (by rw [kmX3_readLength, klX3_readLength, klX3_readSign]; rfl) (by rw [kmX3_readLength]; exact h3) h4
theorem yX3_readSign_X3_readMove {na : Nat} {r : List mm_V} (h3 : Nat.ble na 6 = true) (h4 : Nat.ble r.length 8 = true) : mm_roomy 20 21 na r = true := mm_roomy_of (by rw [kfX3_readMove, kfX3_readSign]; rfl) (by rw [kmX3_readMove, klX3_readMove, klX3_readSign]; rfl) (by rw [kmX3_readMove]; exact h3) h4
theorem yX3_readSign_X3_readTurn {na : Nat} {r : List mm_V} (h3 : Nat.ble na 7 = true) (h4 : Nat.ble r.length 8 = true) : mm_roomy 20 22 na r = true := mm_roomy_of (by rw [kfX3_readTurn, kfX3_readSign]; rfl) (by rw [kmX3_readTurn, klX3_readTurn, klX3_readSign]; rfl) (by rw [kmX3_readTurn]; exact h3) h4
theorem yX3_readSign_X4_hold {na : Nat} {r : List mm_V} (h3 : Nat.ble na 2 = true) (h4 : Nat.ble r.length 8 = true) : mm_roomy 20 29 na r = true := mm_roomy_of (by rw [kfX4_hold, kfX3_readSign]; rfl) (by rw [kmX4_hold, klX4_hold, klX3_readSign]; rfl) (by rw [kmX4_hold]; exact h3) h4
theorem yX3_readSign_X4_release {na : Nat} {r : List mm_V} (h3 : Nat.ble na 3 = true) (h4 : Nat.ble r.length 8 = true) : mm_roomy 20 31 na r = true := mm_roomy_of (by rw [kfX4_release, kfX3_readSign]; rfl) (by rw [kmX4_release, klX4_release, klX3_readSign]; rfl) (by rw [kmX4_release]; exact h3) h4
theorem yX3_readTurn_X3_readCharacter {na : Nat} {r : List mm_V} (h3 : Nat.ble na 2 = true) (h4 : Nat.ble r.length 8 = true) : mm_roomy 22 26 na r = true := mm_roomy_of (by rw [kfX3_readCharacter, kfX3_readTurn]; rfl) (by rw [kmX3_readCharacter, klX3_readCharacter, klX3_readTurn]; rfl) (by rw [kmX3_readCharacter]; exact h3) h4
theorem yX3_readTurn_X3_readDigit {na : Nat} {r : List mm_V} (h3 : Nat.ble na 2 = true) (h4 : Nat.ble r.length 8 = true) : mm_roomy 22 25 na r = true := mm_roomy_of (by rw [kfX3_readDigit, kfX3_readTurn]; rfl) (by rw [kmX3_readDigit, klX3_readDigit, klX3_readTurn]; rfl) (by rw [kmX3_readDigit]; exact h3) h4
theorem yX3_readTurn_X3_readLength {na : Nat} {r : List mm_V} (h3 : Nat.ble na 3 = true) (h4 : Nat.ble r.length 8 = true) : mm_roomy 22 24 na r = true := mm_roomy_of (by rw [kfX3_readLength, kfX3_readTurn]; rfl) (by rw [kmX3_readLength, klX3_readLength, klX3_readTurn]; rfl) (by rw [kmX3_readLength]; exact h3) h4
theorem yX3_readTurn_X4_turn {na : Nat} {r : List mm_V} (h3 : Nat.ble na 4 = true) (h4 : Nat.ble r.length 8 = true) : mm_roomy 22 30 na r = true := mm_roomy_of (by rw [kfX4_turn, kfX3_readTurn]; rfl) (by rw [kmX4_turn, klX4_turn, klX3_readTurn]; rfl) (by rw [kmX4_turn]; exact h3) h4
theorem yX3_readTurn_X7_isWithin {na : Nat} {r : List mm_V} (h3 : Nat.ble na 3 = true) (h4 : Nat.ble r.length 8 = true) : mm_roomy 22 89 na r = true := mm_roomy_of (by rw [kfX7_isWithin, kfX3_readTurn]; rfl) (by rw [kmX7_isWithin, klX7_isWithin, klX3_readTurn]; rfl) (by rw [kmX7_isWithin]; exact h3) h4
theorem yX3_spanOf_X4_spanOf {na : Nat} {r : List mm_V} (h3 : Nat.ble na 1 = true) (h4 : Nat.ble r.length 8 = true) : mm_roomy 18 35 na r = true := mm_roomy_of (by rw [kfX4_spanOf, kfX3_spanOf]; rfl) (by rw [kmX4_spanOf, klX4_spanOf, klX3_spanOf]; rfl) (by rw [kmX4_spanOf]; exact h3) h4
theorem yX4_hold_X4_packed {na : Nat} {r : List mm_V} (h3 : Nat.ble na 7 = true) (h4 : Nat.ble r.length 8 = true) : mm_roomy 29 32 na r = true := mm_roomy_of (by rw [kfX4_packed, kfX4_hold]; rfl) (by rw [kmX4_packed, klX4_packed, klX4_hold]; rfl) (by rw [kmX4_packed]; exact h3) h4
theorem yX4_mirrored_X4_amountOf {na : Nat} {r : List mm_V} (h3 : Nat.ble na 1 = true) (h4 : Nat.ble r.length 8 = true) : mm_roomy 44 39 na r = true := mm_roomy_of (by rw [kfX4_amountOf, kfX4_mirrored]; rfl) (by rw [kmX4_amountOf, klX4_amountOf, klX4_mirrored]; rfl) (by rw [kmX4_amountOf]; exact h3) h4
theorem yX4_mirrored_X4_beginOf {na : Nat} {r : List mm_V} (h3 : Nat.ble na 1 = true) (h4 : Nat.ble r.length 8 = true) : mm_roomy 44 33 na r = true := mm_roomy_of (by rw [kfX4_beginOf, kfX4_mirrored]; rfl) (by rw [kmX4_beginOf, klX4_beginOf, klX4_mirrored]; rfl) (by rw [kmX4_beginOf]; exact h3) h4
theorem yX4_mirrored_X4_columnOf {na : Nat} {r : List mm_V} (h3 : Nat.ble na 1 = true) (h4 : Nat.ble r.length 8 = true) : mm_roomy 44 34 na r = true := mm_roomy_of (by rw [kfX4_columnOf, kfX4_mirrored]; rfl) (by rw [kmX4_columnOf, klX4_columnOf, klX4_mirrored]; rfl) (by rw [kmX4_columnOf]; exact h3) h4
theorem yX4_mirrored_X4_directionOf {na : Nat} {r : List mm_V} (h3 : Nat.ble na 1 = true) (h4 : Nat.ble r.length 8 = true) : mm_roomy 44 37 na r = true := mm_roomy_of (by rw [kfX4_directionOf, kfX4_mirrored]; rfl) (by rw [kmX4_directionOf, klX4_directionOf, klX4_mirrored]; rfl) (by rw [kmX4_directionOf]; exact h3) h4
theorem yX4_mirrored_X4_kindOf {na : Nat} {r : List mm_V} (h3 : Nat.ble na 1 = true) (h4 : Nat.ble r.length 8 = true) : mm_roomy 44 36 na r = true := mm_roomy_of (by rw [kfX4_kindOf, kfX4_mirrored]; rfl) (by rw [kmX4_kindOf, klX4_kindOf, klX4_mirrored]; rfl) (by rw [kmX4_kindOf]; exact h3) h4
theorem yX4_mirrored_X4_levelOf {na : Nat} {r : List mm_V} (h3 : Nat.ble na 1 = true) (h4 : Nat.ble r.length 8 = true) : mm_roomy 44 38 na r = true := mm_roomy_of (by rw [kfX4_levelOf, kfX4_mirrored]; rfl) (by rw [kmX4_levelOf, klX4_levelOf, klX4_mirrored]; rfl) (by rw [kmX4_levelOf]; exact h3) h4
theorem yX4_mirrored_X4_mirroredColumn {na : Nat} {r : List mm_V} (h3 : Nat.ble na 1 = true) (h4 : Nat.ble r.length 8 = true) : mm_roomy 44 45 na r = true := mm_roomy_of (by rw [kfX4_mirroredColumn, kfX4_mirrored]; rfl) (by rw [kmX4_mirroredColumn, klX4_mirroredColumn, klX4_mirrored]; rfl) (by rw [kmX4_mirroredColumn]; exact h3) h4
theorem yX4_mirrored_X4_mirroredDirection {na : Nat} {r : List mm_V} (h3 : Nat.ble na 1 = true) (h4 : Nat.ble r.length 8 = true) : mm_roomy 44 46 na r = true := mm_roomy_of (by rw [kfX4_mirroredDirection, kfX4_mirrored]; rfl) (by rw [kmX4_mirroredDirection, klX4_mirroredDirection, klX4_mirrored]; rfl) (by rw [kmX4_mirroredDirection]; exact h3) h4
theorem yX4_mirrored_X4_packed {na : Nat} {r : List mm_V} (h3 : Nat.ble na 7 = true) (h4 : Nat.ble r.length 8 = true) : mm_roomy 44 32 na r = true := mm_roomy_of (by rw [kfX4_packed, kfX4_mirrored]; rfl) (by rw [kmX4_packed, klX4_packed, klX4_mirrored]; rfl) (by rw [kmX4_packed]; exact h3) h4
theorem yX4_mirrored_X4_spanOf {na : Nat} {r : List mm_V} (h3 : Nat.ble na 1 = true) (h4 : Nat.ble r.length 8 = true) : mm_roomy 44 35 na r = true := mm_roomy_of (by rw [kfX4_spanOf, kfX4_mirrored]; rfl) (by rw [kmX4_spanOf, klX4_spanOf, klX4_mirrored]; rfl) (by rw [kmX4_spanOf]; exact h3) h4
theorem yX4_move_X4_packed {na : Nat} {r : List mm_V} (h3 : Nat.ble na 7 = true) (h4 : Nat.ble r.length 8 = true) : mm_roomy 28 32 na r = true := mm_roomy_of (by rw [kfX4_packed, kfX4_move]; rfl) (by rw [kmX4_packed, klX4_packed, klX4_move]; rfl) (by rw [kmX4_packed]; exact h3) h4
theorem yX4_movedTo_X4_amountOf {na : Nat} {r : List mm_V} (h3 : Nat.ble na 1 = true) (h4 : Nat.ble r.length 8 = true) : mm_roomy 42 39 na r = true := mm_roomy_of (by rw [kfX4_amountOf, kfX4_movedTo]; rfl) (by rw [kmX4_amountOf, klX4_amountOf, klX4_movedTo]; rfl) (by rw [kmX4_amountOf]; exact h3) h4
theorem yX4_movedTo_X4_columnOf {na : Nat} {r : List mm_V} (h3 : Nat.ble na 1 = true) (h4 : Nat.ble r.length 8 = true) : mm_roomy 42 34 na r = true := mm_roomy_of (by rw [kfX4_columnOf, kfX4_movedTo]; rfl) (by rw [kmX4_columnOf, klX4_columnOf, klX4_movedTo]; rfl) (by rw [kmX4_columnOf]; exact h3) h4
theorem yX4_movedTo_X4_directionOf {na : Nat} {r : List mm_V} (h3 : Nat.ble na 1 = true) (h4 : Nat.ble r.length 8 = true) : mm_roomy 42 37 na r = true := mm_roomy_of (by rw [kfX4_directionOf, kfX4_movedTo]; rfl) (by rw [kmX4_directionOf, klX4_directionOf, klX4_movedTo]; rfl) (by rw [kmX4_directionOf]; exact h3) h4
theorem yX4_movedTo_X4_kindOf {na : Nat} {r : List mm_V} (h3 : Nat.ble na 1 = true) (h4 : Nat.ble r.length 8 = true) : mm_roomy 42 36 na r = true := mm_roomy_of (by rw [kfX4_kindOf, kfX4_movedTo]; rfl) (by rw [kmX4_kindOf, klX4_kindOf, klX4_movedTo]; rfl) (by rw [kmX4_kindOf]; exact h3) h4
theorem yX4_movedTo_X4_levelOf {na : Nat} {r : List mm_V} (h3 : Nat.ble na 1 = true) (h4 : Nat.ble r.length 8 = true) : mm_roomy 42 38 na r = true := mm_roomy_of (by rw [kfX4_levelOf, kfX4_movedTo]; rfl) (by rw [kmX4_levelOf, klX4_levelOf, klX4_movedTo]; rfl) (by rw [kmX4_levelOf]; exact h3) h4
theorem yX4_movedTo_X4_packed {na : Nat} {r : List mm_V} (h3 : Nat.ble na 7 = true) (h4 : Nat.ble r.length 8 = true) : mm_roomy 42 32 na r = true := mm_roomy_of (by rw [kfX4_packed, kfX4_movedTo]; rfl) (by rw [kmX4_packed, klX4_packed, klX4_movedTo]; rfl) (by rw [kmX4_packed]; exact h3) h4
theorem yX4_movedTo_X4_spanOf {na : Nat} {r : List mm_V} (h3 : Nat.ble na 1 = true) (h4 : Nat.ble r.length 8 = true) : mm_roomy 42 35 na r = true := mm_roomy_of (by rw [kfX4_spanOf, kfX4_movedTo]; rfl) (by rw [kmX4_spanOf, klX4_spanOf, klX4_movedTo]; rfl) (by rw [kmX4_spanOf]; exact h3) h4
theorem yX4_release_X4_packed {na : Nat} {r : List mm_V} (h3 : Nat.ble na 7 = true) (h4 : Nat.ble r.length 8 = true) : mm_roomy 31 32 na r = true := mm_roomy_of (by rw [kfX4_packed, kfX4_release]; rfl) (by rw [kmX4_packed, klX4_packed, klX4_release]; rfl) (by rw [kmX4_packed]; exact h3) h4
theorem yX4_shortEndOf_X4_beginOf {na : Nat} {r : List mm_V} (h3 : Nat.ble na 1 = true) (h4 : Nat.ble r.length 8 = true) : mm_roomy 40 33 na r = true := mm_roomy_of (by rw [kfX4_beginOf, kfX4_shortEndOf]; rfl) (by rw [kmX4_beginOf, klX4_beginOf, klX4_shortEndOf]; rfl) (by rw [kmX4_beginOf]; exact h3) h4
theorem yX4_shortEndOf_X4_spanOf {na : Nat} {r : List mm_V} (h3 : Nat.ble na 1 = true) (h4 : Nat.ble r.length 8 = true) : mm_roomy 40 35 na r = true := mm_roomy_of (by rw [kfX4_spanOf, kfX4_shortEndOf]; rfl) (by rw [kmX4_spanOf, klX4_spanOf, klX4_shortEndOf]; rfl) (by rw [kmX4_spanOf]; exact h3) h4
theorem yX4_turn_X4_packed {na : Nat} {r : List mm_V} (h3 : Nat.ble na 7 = true) (h4 : Nat.ble r.length 8 = true) : mm_roomy 30 32 na r = true := mm_roomy_of (by rw [kfX4_packed, kfX4_turn]; rfl) (by rw [kmX4_packed, klX4_packed, klX4_turn]; rfl) (by rw [kmX4_packed]; exact h3) h4
theorem yX4_turnedBack_X4_amountOf {na : Nat} {r : List mm_V} (h3 : Nat.ble na 1 = true) (h4 : Nat.ble r.length 8 = true) : mm_roomy 43 39 na r = true := mm_roomy_of (by rw [kfX4_amountOf, kfX4_turnedBack]; rfl) (by rw [kmX4_amountOf, klX4_amountOf, klX4_turnedBack]; rfl) (by rw [kmX4_amountOf]; exact h3) h4
theorem yX4_turnedBack_X4_beginOf {na : Nat} {r : List mm_V} (h3 : Nat.ble na 1 = true) (h4 : Nat.ble r.length 8 = true) : mm_roomy 43 33 na r = true := mm_roomy_of (by rw [kfX4_beginOf, kfX4_turnedBack]; rfl) (by rw [kmX4_beginOf, klX4_beginOf, klX4_turnedBack]; rfl) (by rw [kmX4_beginOf]; exact h3) h4
theorem yX4_turnedBack_X4_columnOf {na : Nat} {r : List mm_V} (h3 : Nat.ble na 1 = true) (h4 : Nat.ble r.length 8 = true) : mm_roomy 43 34 na r = true := mm_roomy_of (by rw [kfX4_columnOf, kfX4_turnedBack]; rfl) (by rw [kmX4_columnOf, klX4_columnOf, klX4_turnedBack]; rfl) (by rw [kmX4_columnOf]; exact h3) h4
theorem yX4_turnedBack_X4_directionOf {na : Nat} {r : List mm_V} (h3 : Nat.ble na 1 = true) (h4 : Nat.ble r.length 8 = true) : mm_roomy 43 37 na r = true := mm_roomy_of (by rw [kfX4_directionOf, kfX4_turnedBack]; rfl) (by rw [kmX4_directionOf, klX4_directionOf, klX4_turnedBack]; rfl) (by rw [kmX4_directionOf]; exact h3) h4
theorem yX4_turnedBack_X4_kindOf {na : Nat} {r : List mm_V} (h3 : Nat.ble na 1 = true) (h4 : Nat.ble r.length 8 = true) : mm_roomy 43 36 na r = true := mm_roomy_of (by rw [kfX4_kindOf, kfX4_turnedBack]; rfl) (by rw [kmX4_kindOf, klX4_kindOf, klX4_turnedBack]; rfl) (by rw [kmX4_kindOf]; exact h3) h4
theorem yX4_turnedBack_X4_levelOf {na : Nat} {r : List mm_V} (h3 : Nat.ble na 1 = true) (h4 : Nat.ble r.length 8 = true) : mm_roomy 43 38 na r = true := mm_roomy_of (by rw [kfX4_levelOf, kfX4_turnedBack]; rfl) (by rw [kmX4_levelOf, klX4_levelOf, klX4_turnedBack]; rfl) (by rw [kmX4_levelOf]; exact h3) h4
theorem yX4_turnedBack_X4_packed {na : Nat} {r : List mm_V} (h3 : Nat.ble na 7 = true) (h4 : Nat.ble r.length 8 = true) : mm_roomy 43 32 na r = true := mm_roomy_of (by rw [kfX4_packed, kfX4_turnedBack]; rfl) (by rw [kmX4_packed, klX4_packed, klX4_turnedBack]; rfl) (by rw [kmX4_packed]; exact h3) h4
theorem yX4_turnedBack_X4_spanOf {na : Nat} {r : List mm_V} (h3 : Nat.ble na 1 = true) (h4 : Nat.ble r.length 8 = true) : mm_roomy 43 35 na r = true := mm_roomy_of (by rw [kfX4_spanOf, kfX4_turnedBack]; rfl) (by rw [kmX4_spanOf, klX4_spanOf, klX4_turnedBack]; rfl) (by rw [kmX4_spanOf]; exact h3) h4
theorem yX5_distanceAt_J9_abs_0f7a4 {na : Nat} {r : List mm_V} (h3 : Nat.ble na 1 = true) (h4 : Nat.ble r.length 8 = true) : mm_roomy 51 165 na r = true := mm_roomy_of (by rw [kfJ9_abs_0f7a4, kfX5_distanceAt]; rfl) (by rw [kmJ9_abs_0f7a4, klJ9_abs_0f7a4, klX5_distanceAt]; rfl) (by rw [kmJ9_abs_0f7a4]; exact h3) h4
theorem yX5_distanceAt_J9_max_7cf53 {na : Nat} {r : List mm_V} (h3 : Nat.ble na 2 = true) (h4 : Nat.ble r.length 8 = true) : mm_roomy 51 166 na r = true := mm_roomy_of (by rw [kfJ9_max_7cf53, kfX5_distanceAt]; rfl) (by rw [kmJ9_max_7cf53, klJ9_max_7cf53, klX5_distanceAt]; rfl) (by rw [kmJ9_max_7cf53]; exact h3) h4
theorem yX5_follow_J7_fill_53178 {na : Nat} {r : List mm_V} (h3 : Nat.ble na 4 = true) (h4 : Nat.ble r.length 8 = true) : mm_roomy 47 168 na r = true := mm_roomy_of (by rw [kfJ7_fill_53178, kfX5_follow]; rfl) (by rw [kmJ7_fill_53178, klJ7_fill_53178, klX5_follow]; rfl) (by rw [kmJ7_fill_53178]; exact h3) h4
theorem yX5_follow_J9_floorMod_7cf53 {na : Nat} {r : List mm_V} (h3 : Nat.ble na 3 = true) (h4 : Nat.ble r.length 8 = true) : mm_roomy 47 164 na r = true := mm_roomy_of (by rw [kfJ9_floorMod_7cf53, kfX5_follow]; rfl) (by rw [kmJ9_floorMod_7cf53, klJ9_floorMod_7cf53, klX5_follow]; rfl) (by rw [kmJ9_floorMod_7cf53]; exact h3) h4
theorem yX5_follow_X2_at {na : Nat} {r : List mm_V} (h3 : Nat.ble na 2 = true) (h4 : Nat.ble r.length 8 = true) : mm_roomy 47 8 na r = true := mm_roomy_of (by rw [kfX2_at, kfX5_follow]; rfl) (by rw [kmX2_at, klX2_at, klX5_follow]; rfl) (by rw [kmX2_at]; exact h3) h4
theorem yX5_follow_X5_noteEnd {na : Nat} {r : List mm_V} (h3 : Nat.ble na 3 = true) (h4 : Nat.ble r.length 8 = true) : mm_roomy 47 48 na r = true := mm_roomy_of (by rw [kfX5_noteEnd, kfX5_follow]; rfl) (by rw [kmX5_noteEnd, klX5_noteEnd, klX5_follow]; rfl) (by rw [kmX5_noteEnd]; exact h3) h4
theorem yX5_follow_X5_step {na : Nat} {r : List mm_V} (h3 : Nat.ble na 6 = true) (h4 : Nat.ble r.length 8 = true) : mm_roomy 47 50 na r = true := mm_roomy_of (by rw [kfX5_step, kfX5_follow]; rfl) (by rw [kmX5_step, klX5_step, klX5_follow]; rfl) (by rw [kmX5_step]; exact h3) h4
theorem yX5_noteEnd_X4_amountOf {na : Nat} {r : List mm_V} (h3 : Nat.ble na 1 = true) (h4 : Nat.ble r.length 8 = true) : mm_roomy 48 39 na r = true := mm_roomy_of (by rw [kfX4_amountOf, kfX5_noteEnd]; rfl) (by rw [kmX4_amountOf, klX4_amountOf, klX5_noteEnd]; rfl) (by rw [kmX4_amountOf]; exact h3) h4
theorem yX5_noteEnd_X4_kindOf {na : Nat} {r : List mm_V} (h3 : Nat.ble na 1 = true) (h4 : Nat.ble r.length 8 = true) : mm_roomy 48 36 na r = true := mm_roomy_of (by rw [kfX4_kindOf, kfX5_noteEnd]; rfl) (by rw [kmX4_kindOf, klX4_kindOf, klX5_noteEnd]; rfl) (by rw [kmX4_kindOf]; exact h3) h4
theorem yX5_noteEnd_X4_shortEndOf {na : Nat} {r : List mm_V} (h3 : Nat.ble na 1 = true) (h4 : Nat.ble r.length 8 = true) : mm_roomy 48 40 na r = true := mm_roomy_of (by rw [kfX4_shortEndOf, kfX5_noteEnd]; rfl) (by rw [kmX4_shortEndOf, klX4_shortEndOf, klX5_noteEnd]; rfl) (by rw [kmX4_shortEndOf]; exact h3) h4
theorem yX5_noteEnd_X5_noteStep {na : Nat} {r : List mm_V} (h3 : Nat.ble na 3 = true) (h4 : Nat.ble r.length 8 = true) : mm_roomy 48 49 na r = true := mm_roomy_of (by rw [kfX5_noteStep, kfX5_noteEnd]; rfl) (by rw [kmX5_noteStep, klX5_noteStep, klX5_noteEnd]; rfl) (by rw [kmX5_noteStep]; exact h3) h4
theorem yX5_noteStep_X4_columnOf {na : Nat} {r : List mm_V} (h3 : Nat.ble na 1 = true) (h4 : Nat.ble r.length 8 = true) : mm_roomy 49 34 na r = true := mm_roomy_of (by rw [kfX4_columnOf, kfX5_noteStep]; rfl) (by rw [kmX4_columnOf, klX4_columnOf, klX5_noteStep]; rfl) (by rw [kmX4_columnOf]; exact h3) h4
theorem yX5_step_J9_floorMod_7cf53 {na : Nat} {r : List mm_V} (h3 : Nat.ble na 3 = true) (h4 : Nat.ble r.length 8 = true) : mm_roomy 50 164 na r = true := mm_roomy_of (by rw [kfJ9_floorMod_7cf53, kfX5_step]; rfl) (by rw [kmJ9_floorMod_7cf53, klJ9_floorMod_7cf53, klX5_step]; rfl) (by rw [kmJ9_floorMod_7cf53]; exact h3) h4
theorem yX5_step_X4_beginOf {na : Nat} {r : List mm_V} (h3 : Nat.ble na 1 = true) (h4 : Nat.ble r.length 8 = true) : mm_roomy 50 33 na r = true := mm_roomy_of (by rw [kfX4_beginOf, kfX5_step]; rfl) (by rw [kmX4_beginOf, klX4_beginOf, klX5_step]; rfl) (by rw [kmX4_beginOf]; exact h3) h4
theorem yX5_step_X4_directionOf {na : Nat} {r : List mm_V} (h3 : Nat.ble na 1 = true) (h4 : Nat.ble r.length 8 = true) : mm_roomy 50 37 na r = true := mm_roomy_of (by rw [kfX4_directionOf, kfX5_step]; rfl) (by rw [kmX4_directionOf, klX4_directionOf, klX5_step]; rfl) (by rw [kmX4_directionOf]; exact h3) h4
theorem yX6_canBear_X4_kindOf {na : Nat} {r : List mm_V} (h3 : Nat.ble na 1 = true) (h4 : Nat.ble r.length 8 = true) : mm_roomy 54 36 na r = true := mm_roomy_of (by rw [kfX4_kindOf, kfX6_canBear]; rfl) (by rw [kmX4_kindOf, klX4_kindOf, klX6_canBear]; rfl) (by rw [kmX4_kindOf]; exact h3) h4
theorem yX6_longestFlight_J9_max_7cf53 {na : Nat} {r : List mm_V} (h3 : Nat.ble na 2 = true) (h4 : Nat.ble r.length 8 = true) : mm_roomy 59 166 na r = true := mm_roomy_of (by rw [kfJ9_max_7cf53, kfX6_longestFlight]; rfl) (by rw [kmJ9_max_7cf53, klJ9_max_7cf53, klX6_longestFlight]; rfl) (by rw [kmJ9_max_7cf53]; exact h3) h4
theorem yX6_weigh_J7_fill_53178 {na : Nat} {r : List mm_V} (h3 : Nat.ble na 4 = true) (h4 : Nat.ble r.length 8 = true) : mm_roomy 52 168 na r = true := mm_roomy_of (by rw [kfJ7_fill_53178, kfX6_weigh]; rfl) (by rw [kmJ7_fill_53178, klJ7_fill_53178, klX6_weigh]; rfl) (by rw [kmJ7_fill_53178]; exact h3) h4
theorem yX6_weigh_X6_measureFlights {na : Nat} {r : List mm_V} (h3 : Nat.ble na 3 = true) (h4 : Nat.ble r.length 8 = true) : mm_roomy 52 55 na r = true := mm_roomy_of (by rw [kfX6_measureFlights, kfX6_weigh]; rfl) (by rw [kmX6_measureFlights, klX6_measureFlights, klX6_weigh]; rfl) (by rw [kmX6_measureFlights]; exact h3) h4
theorem yX6_weigh_X6_weighSide {na : Nat} {r : List mm_V} (h3 : Nat.ble na 5 = true) (h4 : Nat.ble r.length 8 = true) : mm_roomy 52 53 na r = true := mm_roomy_of (by rw [kfX6_weighSide, kfX6_weigh]; rfl) (by rw [kmX6_weighSide, klX6_weighSide, klX6_weigh]; rfl) (by rw [kmX6_weighSide]; exact h3) h4
theorem yX6_weighSide_X2_fillRow {na : Nat} {r : List mm_V} (h3 : Nat.ble na 6 = true) (h4 : Nat.ble r.length 8 = true) : mm_roomy 53 14 na r = true := mm_roomy_of (by rw [kfX2_fillRow, kfX6_weighSide]; rfl) (by rw [kmX2_fillRow, klX2_fillRow, klX6_weighSide]; rfl) (by rw [kmX2_fillRow]; exact h3) h4
theorem yX6_weighSide_X4_kindOf {na : Nat} {r : List mm_V} (h3 : Nat.ble na 1 = true) (h4 : Nat.ble r.length 8 = true) : mm_roomy 53 36 na r = true := mm_roomy_of (by rw [kfX4_kindOf, kfX6_weighSide]; rfl) (by rw [kmX4_kindOf, klX4_kindOf, klX6_weighSide]; rfl) (by rw [kmX4_kindOf]; exact h3) h4
theorem yX6_weighSide_X6_canBear {na : Nat} {r : List mm_V} (h3 : Nat.ble na 1 = true) (h4 : Nat.ble r.length 8 = true) : mm_roomy 53 54 na r = true := mm_roomy_of (by rw [kfX6_canBear, kfX6_weighSide]; rfl) (by rw [kmX6_canBear, klX6_canBear, klX6_weighSide]; rfl) (by rw [kmX6_canBear]; exact h3) h4
theorem yX6_wrongBeats_X6_isWrong {na : Nat} {r : List mm_V} (h3 : Nat.ble na 2 = true) (h4 : Nat.ble r.length 8 = true) : mm_roomy 57 56 na r = true := mm_roomy_of (by rw [kfX6_isWrong, kfX6_wrongBeats]; rfl) (by rw [kmX6_isWrong, klX6_isWrong, klX6_wrongBeats]; rfl) (by rw [kmX6_isWrong]; exact h3) h4
theorem yX7_addMove_X4_move {na : Nat} {r : List mm_V} (h3 : Nat.ble na 5 = true) (h4 : Nat.ble r.length 8 = true) : mm_roomy 63 28 na r = true := mm_roomy_of (by rw [kfX4_move, kfX7_addMove]; rfl) (by rw [kmX4_move, klX4_move, klX7_addMove]; rfl) (by rw [kmX4_move]; exact h3) h4
theorem yX7_addMove_X7_addSign {na : Nat} {r : List mm_V} (h3 : Nat.ble na 2 = true) (h4 : Nat.ble r.length 8 = true) : mm_roomy 63 95 na r = true := mm_roomy_of (by rw [kfX7_addSign, kfX7_addMove]; rfl) (by rw [kmX7_addSign, klX7_addSign, klX7_addMove]; rfl) (by rw [kmX7_addSign]; exact h3) h4
theorem yX7_addMove_X7_isSpan {na : Nat} {r : List mm_V} (h3 : Nat.ble na 3 = true) (h4 : Nat.ble r.length 8 = true) : mm_roomy 63 93 na r = true := mm_roomy_of (by rw [kfX7_isSpan, kfX7_addMove]; rfl) (by rw [kmX7_isSpan, klX7_isSpan, klX7_addMove]; rfl) (by rw [kmX7_isSpan]; exact h3) h4
theorem yX7_addMove_X7_isWithin {na : Nat} {r : List mm_V} (h3 : Nat.ble na 3 = true) (h4 : Nat.ble r.length 8 = true) : mm_roomy 63 89 na r = true := mm_roomy_of (by rw [kfX7_isWithin, kfX7_addMove]; rfl) (by rw [kmX7_isWithin, klX7_isWithin, klX7_addMove]; rfl) (by rw [kmX7_isWithin]; exact h3) h4
theorem yX7_addSign_X1_keep {na : Nat} {r : List mm_V} (h3 : Nat.ble na 4 = true) (h4 : Nat.ble r.length 8 = true) : mm_roomy 95 3 na r = true := mm_roomy_of (by rw [kfX1_keep, kfX7_addSign]; rfl) (by rw [kmX1_keep, klX1_keep, klX7_addSign]; rfl) (by rw [kmX1_keep]; exact h3) h4
theorem yX7_addSign_X2_hasRoomFor {na : Nat} {r : List mm_V} (h3 : Nat.ble na 6 = true) (h4 : Nat.ble r.length 8 = true) : mm_roomy 95 9 na r = true := mm_roomy_of (by rw [kfX2_hasRoomFor, kfX7_addSign]; rfl) (by rw [kmX2_hasRoomFor, klX2_hasRoomFor, klX7_addSign]; rfl) (by rw [kmX2_hasRoomFor]; exact h3) h4
theorem yX7_addSign_X2_put {na : Nat} {r : List mm_V} (h3 : Nat.ble na 3 = true) (h4 : Nat.ble r.length 8 = true) : mm_roomy 95 10 na r = true := mm_roomy_of (by rw [kfX2_put, kfX7_addSign]; rfl) (by rw [kmX2_put, klX2_put, klX7_addSign]; rfl) (by rw [kmX2_put]; exact h3) h4
theorem yX7_alike_X0_alikeBeats {na : Nat} {r : List mm_V} (h3 : Nat.ble na 4 = true) (h4 : Nat.ble r.length 8 = true) : mm_roomy 85 2 na r = true := mm_roomy_of (by rw [kfX0_alikeBeats, kfX7_alike]; rfl) (by rw [kmX0_alikeBeats, klX0_alikeBeats, klX7_alike]; rfl) (by rw [kmX0_alikeBeats]; exact h3) h4
theorem yX7_alike_X0_begin {na : Nat} {r : List mm_V} (h3 : Nat.ble na 1 = true) (h4 : Nat.ble r.length 8 = true) : mm_roomy 85 0 na r = true := mm_roomy_of (by rw [kfX0_begin, kfX7_alike]; rfl) (by rw [kmX0_begin, klX0_begin, klX7_alike]; rfl) (by rw [kmX0_begin]; exact h3) h4
theorem yX7_alike_X0_compare {na : Nat} {r : List mm_V} (h3 : Nat.ble na 9 = true) (h4 : Nat.ble r.length 8 = true) : mm_roomy 85 1 na r = true := mm_roomy_of (by rw [kfX0_compare, kfX7_alike]; rfl) (by rw [kmX0_compare, klX0_compare, klX7_alike]; rfl) (by rw [kmX0_compare]; exact h3) h4
theorem yX7_alike_X7_isFlag {na : Nat} {r : List mm_V} (h3 : Nat.ble na 1 = true) (h4 : Nat.ble r.length 8 = true) : mm_roomy 85 90 na r = true := mm_roomy_of (by rw [kfX7_isFlag, kfX7_alike]; rfl) (by rw [kmX7_isFlag, klX7_isFlag, klX7_alike]; rfl) (by rw [kmX7_isFlag]; exact h3) h4
theorem yX7_alike_X7_isPhrase {na : Nat} {r : List mm_V} (h3 : Nat.ble na 3 = true) (h4 : Nat.ble r.length 8 = true) : mm_roomy 85 94 na r = true := mm_roomy_of (by rw [kfX7_isPhrase, kfX7_alike]; rfl) (by rw [kmX7_isPhrase, klX7_isPhrase, klX7_alike]; rfl) (by rw [kmX7_isPhrase]; exact h3) h4
theorem yX7_alike_X7_isWithin {na : Nat} {r : List mm_V} (h3 : Nat.ble na 3 = true) (h4 : Nat.ble r.length 8 = true) : mm_roomy 85 89 na r = true := mm_roomy_of (by rw [kfX7_isWithin, kfX7_alike]; rfl) (by rw [kmX7_isWithin, klX7_isWithin, klX7_alike]; rfl) (by rw [kmX7_isWithin]; exact h3) h4
theorem yX7_beats_X6_beatsOn {na : Nat} {r : List mm_V} (h3 : Nat.ble na 4 = true) (h4 : Nat.ble r.length 8 = true) : mm_roomy 79 58 na r = true := mm_roomy_of (by rw [kfX6_beatsOn, kfX7_beats]; rfl) (by rw [kmX6_beatsOn, klX6_beatsOn, klX7_beats]; rfl) (by rw [kmX6_beatsOn]; exact h3) h4
theorem yX7_beats_X6_flightCount {na : Nat} {r : List mm_V} (h3 : Nat.ble na 4 = true) (h4 : Nat.ble r.length 8 = true) : mm_roomy 79 60 na r = true := mm_roomy_of (by rw [kfX6_flightCount, kfX7_beats]; rfl) (by rw [kmX6_flightCount, klX6_flightCount, klX7_beats]; rfl) (by rw [kmX6_flightCount]; exact h3) h4
theorem yX7_beats_X6_longestFlight {na : Nat} {r : List mm_V} (h3 : Nat.ble na 3 = true) (h4 : Nat.ble r.length 8 = true) : mm_roomy 79 59 na r = true := mm_roomy_of (by rw [kfX6_longestFlight, kfX7_beats]; rfl) (by rw [kmX6_longestFlight, klX6_longestFlight, klX7_beats]; rfl) (by rw [kmX6_longestFlight]; exact h3) h4
theorem yX7_beats_X6_weigh {na : Nat} {r : List mm_V} (h3 : Nat.ble na 2 = true) (h4 : Nat.ble r.length 8 = true) : mm_roomy 79 52 na r = true := mm_roomy_of (by rw [kfX6_weigh, kfX7_beats]; rfl) (by rw [kmX6_weigh, klX6_weigh, klX7_beats]; rfl) (by rw [kmX6_weigh]; exact h3) h4
theorem yX7_beats_X6_wrongBeats {na : Nat} {r : List mm_V} (h3 : Nat.ble na 3 = true) (h4 : Nat.ble r.length 8 = true) : mm_roomy 79 57 na r = true := mm_roomy_of (by rw [kfX6_wrongBeats, kfX7_beats]; rfl) (by rw [kmX6_wrongBeats, klX6_wrongBeats, klX7_beats]; rfl) (by rw [kmX6_wrongBeats]; exact h3) h4
theorem yX7_beats_X7_isWithin {na : Nat} {r : List mm_V} (h3 : Nat.ble na 3 = true) (h4 : Nat.ble r.length 8 = true) : mm_roomy 79 89 na r = true := mm_roomy_of (by rw [kfX7_isWithin, kfX7_beats]; rfl) (by rw [kmX7_isWithin, klX7_isWithin, klX7_beats]; rfl) (by rw [kmX7_isWithin]; exact h3) h4
theorem yX7_canTryPhrase_X2_at {na : Nat} {r : List mm_V} (h3 : Nat.ble na 2 = true) (h4 : Nat.ble r.length 8 = true) : mm_roomy 98 8 na r = true := mm_roomy_of (by rw [kfX2_at, kfX7_canTryPhrase]; rfl) (by rw [kmX2_at, klX2_at, klX7_canTryPhrase]; rfl) (by rw [kmX2_at]; exact h3) h4
theorem yX7_canTryPhrase_X2_become {na : Nat} {r : List mm_V} (h3 : Nat.ble na 2 = true) (h4 : Nat.ble r.length 8 = true) : mm_roomy 98 7 na r = true := mm_roomy_of (by rw [kfX2_become, kfX7_canTryPhrase]; rfl) (by rw [kmX2_become, klX2_become, klX7_canTryPhrase]; rfl) (by rw [kmX2_become]; exact h3) h4
theorem yX7_canTryPhrase_X2_hasRoomFor {na : Nat} {r : List mm_V} (h3 : Nat.ble na 6 = true) (h4 : Nat.ble r.length 8 = true) : mm_roomy 98 9 na r = true := mm_roomy_of (by rw [kfX2_hasRoomFor, kfX7_canTryPhrase]; rfl) (by rw [kmX2_hasRoomFor, klX2_hasRoomFor, klX7_canTryPhrase]; rfl) (by rw [kmX2_hasRoomFor]; exact h3) h4
theorem yX7_canTryPhrase_X2_put {na : Nat} {r : List mm_V} (h3 : Nat.ble na 3 = true) (h4 : Nat.ble r.length 8 = true) : mm_roomy 98 10 na r = true := mm_roomy_of (by rw [kfX2_put, kfX7_canTryPhrase]; rfl) (by rw [kmX2_put, klX2_put, klX7_canTryPhrase]; rfl) (by rw [kmX2_put]; exact h3) h4
theorem yX7_copyOf_X4_mirrored {na : Nat} {r : List mm_V} (h3 : Nat.ble na 1 = true) (h4 : Nat.ble r.length 8 = true) : mm_roomy 97 44 na r = true := mm_roomy_of (by rw [kfX4_mirrored, kfX7_copyOf]; rfl) (by rw [kmX4_mirrored, klX4_mirrored, klX7_copyOf]; rfl) (by rw [kmX4_mirrored]; exact h3) h4
theorem yX7_copyOf_X4_turnedBack {na : Nat} {r : List mm_V} (h3 : Nat.ble na 1 = true) (h4 : Nat.ble r.length 8 = true) : mm_roomy 97 43 na r = true := mm_roomy_of (by rw [kfX4_turnedBack, kfX7_copyOf]; rfl) (by rw [kmX4_turnedBack, klX4_turnedBack, klX7_copyOf]; rfl) (by rw [kmX4_turnedBack]; exact h3) h4
theorem yX7_copyPhrase_X1_keep {na : Nat} {r : List mm_V} (h3 : Nat.ble na 4 = true) (h4 : Nat.ble r.length 8 = true) : mm_roomy 68 3 na r = true := mm_roomy_of (by rw [kfX1_keep, kfX7_copyPhrase]; rfl) (by rw [kmX1_keep, klX1_keep, klX7_copyPhrase]; rfl) (by rw [kmX1_keep]; exact h3) h4
theorem yX7_copyPhrase_X2_at {na : Nat} {r : List mm_V} (h3 : Nat.ble na 2 = true) (h4 : Nat.ble r.length 8 = true) : mm_roomy 68 8 na r = true := mm_roomy_of (by rw [kfX2_at, kfX7_copyPhrase]; rfl) (by rw [kmX2_at, klX2_at, klX7_copyPhrase]; rfl) (by rw [kmX2_at]; exact h3) h4
theorem yX7_copyPhrase_X2_become {na : Nat} {r : List mm_V} (h3 : Nat.ble na 2 = true) (h4 : Nat.ble r.length 8 = true) : mm_roomy 68 7 na r = true := mm_roomy_of (by rw [kfX2_become, kfX7_copyPhrase]; rfl) (by rw [kmX2_become, klX2_become, klX7_copyPhrase]; rfl) (by rw [kmX2_become]; exact h3) h4
theorem yX7_copyPhrase_X2_emptyAs {na : Nat} {r : List mm_V} (h3 : Nat.ble na 2 = true) (h4 : Nat.ble r.length 8 = true) : mm_roomy 68 6 na r = true := mm_roomy_of (by rw [kfX2_emptyAs, kfX7_copyPhrase]; rfl) (by rw [kmX2_emptyAs, klX2_emptyAs, klX7_copyPhrase]; rfl) (by rw [kmX2_emptyAs]; exact h3) h4
theorem yX7_copyPhrase_X2_put {na : Nat} {r : List mm_V} (h3 : Nat.ble na 3 = true) (h4 : Nat.ble r.length 8 = true) : mm_roomy 68 10 na r = true := mm_roomy_of (by rw [kfX2_put, kfX7_copyPhrase]; rfl) (by rw [kmX2_put, klX2_put, klX7_copyPhrase]; rfl) (by rw [kmX2_put]; exact h3) h4
theorem yX7_copyPhrase_X4_beginOf {na : Nat} {r : List mm_V} (h3 : Nat.ble na 1 = true) (h4 : Nat.ble r.length 8 = true) : mm_roomy 68 33 na r = true := mm_roomy_of (by rw [kfX4_beginOf, kfX7_copyPhrase]; rfl) (by rw [kmX4_beginOf, klX4_beginOf, klX7_copyPhrase]; rfl) (by rw [kmX4_beginOf]; exact h3) h4
theorem yX7_copyPhrase_X4_movedTo {na : Nat} {r : List mm_V} (h3 : Nat.ble na 2 = true) (h4 : Nat.ble r.length 8 = true) : mm_roomy 68 42 na r = true := mm_roomy_of (by rw [kfX4_movedTo, kfX7_copyPhrase]; rfl) (by rw [kmX4_movedTo, klX4_movedTo, klX7_copyPhrase]; rfl) (by rw [kmX4_movedTo]; exact h3) h4
theorem yX7_copyPhrase_X4_shortEndOf {na : Nat} {r : List mm_V} (h3 : Nat.ble na 1 = true) (h4 : Nat.ble r.length 8 = true) : mm_roomy 68 40 na r = true := mm_roomy_of (by rw [kfX4_shortEndOf, kfX7_copyPhrase]; rfl) (by rw [kmX4_shortEndOf, klX4_shortEndOf, klX7_copyPhrase]; rfl) (by rw [kmX4_shortEndOf]; exact h3) h4
theorem yX7_copyPhrase_X7_canTryPhrase {na : Nat} {r : List mm_V} (h3 : Nat.ble na 3 = true) (h4 : Nat.ble r.length 8 = true) : mm_roomy 68 98 na r = true := mm_roomy_of (by rw [kfX7_canTryPhrase, kfX7_copyPhrase]; rfl) (by rw [kmX7_canTryPhrase, klX7_canTryPhrase, klX7_copyPhrase]; rfl) (by rw [kmX7_canTryPhrase]; exact h3) h4
theorem yX7_copyPhrase_X7_copyOf {na : Nat} {r : List mm_V} (h3 : Nat.ble na 4 = true) (h4 : Nat.ble r.length 8 = true) : mm_roomy 68 97 na r = true := mm_roomy_of (by rw [kfX7_copyOf, kfX7_copyPhrase]; rfl) (by rw [kmX7_copyOf, klX7_copyOf, klX7_copyPhrase]; rfl) (by rw [kmX7_copyOf]; exact h3) h4
theorem yX7_copyPhrase_X7_isBeat {na : Nat} {r : List mm_V} (h3 : Nat.ble na 2 = true) (h4 : Nat.ble r.length 8 = true) : mm_roomy 68 92 na r = true := mm_roomy_of (by rw [kfX7_isBeat, kfX7_copyPhrase]; rfl) (by rw [kmX7_isBeat, klX7_isBeat, klX7_copyPhrase]; rfl) (by rw [kmX7_isBeat]; exact h3) h4
theorem yX7_copyPhrase_X7_isFlag {na : Nat} {r : List mm_V} (h3 : Nat.ble na 1 = true) (h4 : Nat.ble r.length 8 = true) : mm_roomy 68 90 na r = true := mm_roomy_of (by rw [kfX7_isFlag, kfX7_copyPhrase]; rfl) (by rw [kmX7_isFlag, klX7_isFlag, klX7_copyPhrase]; rfl) (by rw [kmX7_isFlag]; exact h3) h4
theorem yX7_copyPhrase_X7_isInPhrase {na : Nat} {r : List mm_V} (h3 : Nat.ble na 3 = true) (h4 : Nat.ble r.length 8 = true) : mm_roomy 68 96 na r = true := mm_roomy_of (by rw [kfX7_isInPhrase, kfX7_copyPhrase]; rfl) (by rw [kmX7_isInPhrase, klX7_isInPhrase, klX7_copyPhrase]; rfl) (by rw [kmX7_isInPhrase]; exact h3) h4
theorem yX7_copyPhrase_X7_isPhrase {na : Nat} {r : List mm_V} (h3 : Nat.ble na 3 = true) (h4 : Nat.ble r.length 8 = true) : mm_roomy 68 94 na r = true := mm_roomy_of (by rw [kfX7_isPhrase, kfX7_copyPhrase]; rfl) (by rw [kmX7_isPhrase, klX7_isPhrase, klX7_copyPhrase]; rfl) (by rw [kmX7_isPhrase]; exact h3) h4
theorem yX7_covered_X2_fillRow {na : Nat} {r : List mm_V} (h3 : Nat.ble na 6 = true) (h4 : Nat.ble r.length 8 = true) : mm_roomy 81 14 na r = true := mm_roomy_of (by rw [kfX2_fillRow, kfX7_covered]; rfl) (by rw [kmX2_fillRow, klX2_fillRow, klX7_covered]; rfl) (by rw [kmX2_fillRow]; exact h3) h4
theorem yX7_covered_X4_kindOf {na : Nat} {r : List mm_V} (h3 : Nat.ble na 1 = true) (h4 : Nat.ble r.length 8 = true) : mm_roomy 81 36 na r = true := mm_roomy_of (by rw [kfX4_kindOf, kfX7_covered]; rfl) (by rw [kmX4_kindOf, klX4_kindOf, klX7_covered]; rfl) (by rw [kmX4_kindOf]; exact h3) h4
theorem yX7_covered_X7_isColumn {na : Nat} {r : List mm_V} (h3 : Nat.ble na 1 = true) (h4 : Nat.ble r.length 8 = true) : mm_roomy 81 91 na r = true := mm_roomy_of (by rw [kfX7_isColumn, kfX7_covered]; rfl) (by rw [kmX7_isColumn, klX7_isColumn, klX7_covered]; rfl) (by rw [kmX7_isColumn]; exact h3) h4
theorem yX7_covered_X7_isWithin {na : Nat} {r : List mm_V} (h3 : Nat.ble na 3 = true) (h4 : Nat.ble r.length 8 = true) : mm_roomy 81 89 na r = true := mm_roomy_of (by rw [kfX7_isWithin, kfX7_covered]; rfl) (by rw [kmX7_isWithin, klX7_isWithin, klX7_covered]; rfl) (by rw [kmX7_isWithin]; exact h3) h4
theorem yX7_farthest_J9_max_7cf53 {na : Nat} {r : List mm_V} (h3 : Nat.ble na 2 = true) (h4 : Nat.ble r.length 8 = true) : mm_roomy 84 166 na r = true := mm_roomy_of (by rw [kfJ9_max_7cf53, kfX7_farthest]; rfl) (by rw [kmJ9_max_7cf53, klJ9_max_7cf53, klX7_farthest]; rfl) (by rw [kmJ9_max_7cf53]; exact h3) h4
theorem yX7_farthest_X5_distanceAt {na : Nat} {r : List mm_V} (h3 : Nat.ble na 2 = true) (h4 : Nat.ble r.length 8 = true) : mm_roomy 84 51 na r = true := mm_roomy_of (by rw [kfX5_distanceAt, kfX7_farthest]; rfl) (by rw [kmX5_distanceAt, klX5_distanceAt, klX7_farthest]; rfl) (by rw [kmX5_distanceAt]; exact h3) h4
theorem yX7_farthest_X5_follow {na : Nat} {r : List mm_V} (h3 : Nat.ble na 3 = true) (h4 : Nat.ble r.length 8 = true) : mm_roomy 84 47 na r = true := mm_roomy_of (by rw [kfX5_follow, kfX7_farthest]; rfl) (by rw [kmX5_follow, klX5_follow, klX7_farthest]; rfl) (by rw [kmX5_follow]; exact h3) h4
theorem yX7_fault_X3_readFor {na : Nat} {r : List mm_V} (h3 : Nat.ble na 5 = true) (h4 : Nat.ble r.length 8 = true) : mm_roomy 88 16 na r = true := mm_roomy_of (by rw [kfX3_readFor, kfX7_fault]; rfl) (by rw [kmX3_readFor, klX3_readFor, klX7_fault]; rfl) (by rw [kmX3_readFor]; exact h3) h4
theorem yX7_floor_X5_follow {na : Nat} {r : List mm_V} (h3 : Nat.ble na 3 = true) (h4 : Nat.ble r.length 8 = true) : mm_roomy 82 47 na r = true := mm_roomy_of (by rw [kfX5_follow, kfX7_floor]; rfl) (by rw [kmX5_follow, klX5_follow, klX7_floor]; rfl) (by rw [kmX5_follow]; exact h3) h4
theorem yX7_floor_X7_isWithin {na : Nat} {r : List mm_V} (h3 : Nat.ble na 3 = true) (h4 : Nat.ble r.length 8 = true) : mm_roomy 82 89 na r = true := mm_roomy_of (by rw [kfX7_isWithin, kfX7_floor]; rfl) (by rw [kmX7_isWithin, klX7_isWithin, klX7_floor]; rfl) (by rw [kmX7_isWithin]; exact h3) h4
theorem yX7_isBeat_X7_isWithin {na : Nat} {r : List mm_V} (h3 : Nat.ble na 3 = true) (h4 : Nat.ble r.length 8 = true) : mm_roomy 92 89 na r = true := mm_roomy_of (by rw [kfX7_isWithin, kfX7_isBeat]; rfl) (by rw [kmX7_isWithin, klX7_isWithin, klX7_isBeat]; rfl) (by rw [kmX7_isWithin]; exact h3) h4
theorem yX7_isColumn_X7_isWithin {na : Nat} {r : List mm_V} (h3 : Nat.ble na 3 = true) (h4 : Nat.ble r.length 8 = true) : mm_roomy 91 89 na r = true := mm_roomy_of (by rw [kfX7_isWithin, kfX7_isColumn]; rfl) (by rw [kmX7_isWithin, klX7_isWithin, klX7_isColumn]; rfl) (by rw [kmX7_isWithin]; exact h3) h4
theorem yX7_isFaulty_X6_isWrong {na : Nat} {r : List mm_V} (h3 : Nat.ble na 2 = true) (h4 : Nat.ble r.length 8 = true) : mm_roomy 77 56 na r = true := mm_roomy_of (by rw [kfX6_isWrong, kfX7_isFaulty]; rfl) (by rw [kmX6_isWrong, klX6_isWrong, klX7_isFaulty]; rfl) (by rw [kmX6_isWrong]; exact h3) h4
theorem yX7_isFaulty_X6_weigh {na : Nat} {r : List mm_V} (h3 : Nat.ble na 2 = true) (h4 : Nat.ble r.length 8 = true) : mm_roomy 77 52 na r = true := mm_roomy_of (by rw [kfX6_weigh, kfX7_isFaulty]; rfl) (by rw [kmX6_weigh, klX6_weigh, klX7_isFaulty]; rfl) (by rw [kmX6_weigh]; exact h3) h4
theorem yX7_isFaulty_X7_isBeat {na : Nat} {r : List mm_V} (h3 : Nat.ble na 2 = true) (h4 : Nat.ble r.length 8 = true) : mm_roomy 77 92 na r = true := mm_roomy_of (by rw [kfX7_isBeat, kfX7_isFaulty]; rfl) (by rw [kmX7_isBeat, klX7_isBeat, klX7_isFaulty]; rfl) (by rw [kmX7_isBeat]; exact h3) h4
theorem yX7_isFlag_X7_isWithin {na : Nat} {r : List mm_V} (h3 : Nat.ble na 3 = true) (h4 : Nat.ble r.length 8 = true) : mm_roomy 90 89 na r = true := mm_roomy_of (by rw [kfX7_isWithin, kfX7_isFlag]; rfl) (by rw [kmX7_isWithin, klX7_isWithin, klX7_isFlag]; rfl) (by rw [kmX7_isWithin]; exact h3) h4
theorem yX7_isInPhrase_X4_beginOf {na : Nat} {r : List mm_V} (h3 : Nat.ble na 1 = true) (h4 : Nat.ble r.length 8 = true) : mm_roomy 96 33 na r = true := mm_roomy_of (by rw [kfX4_beginOf, kfX7_isInPhrase]; rfl) (by rw [kmX4_beginOf, klX4_beginOf, klX7_isInPhrase]; rfl) (by rw [kmX4_beginOf]; exact h3) h4
theorem yX7_isInPhrase_X4_shortEndOf {na : Nat} {r : List mm_V} (h3 : Nat.ble na 1 = true) (h4 : Nat.ble r.length 8 = true) : mm_roomy 96 40 na r = true := mm_roomy_of (by rw [kfX4_shortEndOf, kfX7_isInPhrase]; rfl) (by rw [kmX4_shortEndOf, klX4_shortEndOf, klX7_isInPhrase]; rfl) (by rw [kmX4_shortEndOf]; exact h3) h4
theorem yX7_isPhrase_X7_isBeat {na : Nat} {r : List mm_V} (h3 : Nat.ble na 2 = true) (h4 : Nat.ble r.length 8 = true) : mm_roomy 94 92 na r = true := mm_roomy_of (by rw [kfX7_isBeat, kfX7_isPhrase]; rfl) (by rw [kmX7_isBeat, klX7_isBeat, klX7_isPhrase]; rfl) (by rw [kmX7_isBeat]; exact h3) h4
theorem yX7_isPhrase_X7_isWithin {na : Nat} {r : List mm_V} (h3 : Nat.ble na 3 = true) (h4 : Nat.ble r.length 8 = true) : mm_roomy 94 89 na r = true := mm_roomy_of (by rw [kfX7_isWithin, kfX7_isPhrase]; rfl) (by rw [kmX7_isWithin, klX7_isWithin, klX7_isPhrase]; rfl) (by rw [kmX7_isWithin]; exact h3) h4
theorem yX7_isSpan_X7_isBeat {na : Nat} {r : List mm_V} (h3 : Nat.ble na 2 = true) (h4 : Nat.ble r.length 8 = true) : mm_roomy 93 92 na r = true := mm_roomy_of (by rw [kfX7_isBeat, kfX7_isSpan]; rfl) (by rw [kmX7_isBeat, klX7_isBeat, klX7_isSpan]; rfl) (by rw [kmX7_isBeat]; exact h3) h4
theorem yX7_isSpan_X7_isWithin {na : Nat} {r : List mm_V} (h3 : Nat.ble na 3 = true) (h4 : Nat.ble r.length 8 = true) : mm_roomy 93 89 na r = true := mm_roomy_of (by rw [kfX7_isWithin, kfX7_isSpan]; rfl) (by rw [kmX7_isWithin, klX7_isWithin, klX7_isSpan]; rfl) (by rw [kmX7_isWithin]; exact h3) h4
theorem yX7_lay_X1_keep {na : Nat} {r : List mm_V} (h3 : Nat.ble na 4 = true) (h4 : Nat.ble r.length 8 = true) : mm_roomy 70 3 na r = true := mm_roomy_of (by rw [kfX1_keep, kfX7_lay]; rfl) (by rw [kmX1_keep, klX1_keep, klX7_lay]; rfl) (by rw [kmX1_keep]; exact h3) h4
theorem yX7_lay_X2_become {na : Nat} {r : List mm_V} (h3 : Nat.ble na 2 = true) (h4 : Nat.ble r.length 8 = true) : mm_roomy 70 7 na r = true := mm_roomy_of (by rw [kfX2_become, kfX7_lay]; rfl) (by rw [kmX2_become, klX2_become, klX7_lay]; rfl) (by rw [kmX2_become]; exact h3) h4
theorem yX7_lay_X3_readFor {na : Nat} {r : List mm_V} (h3 : Nat.ble na 5 = true) (h4 : Nat.ble r.length 8 = true) : mm_roomy 70 16 na r = true := mm_roomy_of (by rw [kfX3_readFor, kfX7_lay]; rfl) (by rw [kmX3_readFor, klX3_readFor, klX7_lay]; rfl) (by rw [kmX3_readFor]; exact h3) h4
theorem yX7_leastLeap_X6_isAnyLegTold {na : Nat} {r : List mm_V} (h3 : Nat.ble na 2 = true) (h4 : Nat.ble r.length 8 = true) : mm_roomy 80 61 na r = true := mm_roomy_of (by rw [kfX6_isAnyLegTold, kfX7_leastLeap]; rfl) (by rw [kmX6_isAnyLegTold, klX6_isAnyLegTold, klX7_leastLeap]; rfl) (by rw [kmX6_isAnyLegTold]; exact h3) h4
theorem yX7_leastLeap_X6_longestFlight {na : Nat} {r : List mm_V} (h3 : Nat.ble na 3 = true) (h4 : Nat.ble r.length 8 = true) : mm_roomy 80 59 na r = true := mm_roomy_of (by rw [kfX6_longestFlight, kfX7_leastLeap]; rfl) (by rw [kmX6_longestFlight, klX6_longestFlight, klX7_leastLeap]; rfl) (by rw [kmX6_longestFlight]; exact h3) h4
theorem yX7_leastLeap_X6_weigh {na : Nat} {r : List mm_V} (h3 : Nat.ble na 2 = true) (h4 : Nat.ble r.length 8 = true) : mm_roomy 80 52 na r = true := mm_roomy_of (by rw [kfX6_weigh, kfX7_leastLeap]; rfl) (by rw [kmX6_weigh, klX6_weigh, klX7_leastLeap]; rfl) (by rw [kmX6_weigh]; exact h3) h4
theorem yX7_nextFault_X6_isWrong {na : Nat} {r : List mm_V} (h3 : Nat.ble na 2 = true) (h4 : Nat.ble r.length 8 = true) : mm_roomy 78 56 na r = true := mm_roomy_of (by rw [kfX6_isWrong, kfX7_nextFault]; rfl) (by rw [kmX6_isWrong, klX6_isWrong, klX7_nextFault]; rfl) (by rw [kmX6_isWrong]; exact h3) h4
theorem yX7_nextFault_X6_weigh {na : Nat} {r : List mm_V} (h3 : Nat.ble na 2 = true) (h4 : Nat.ble r.length 8 = true) : mm_roomy 78 52 na r = true := mm_roomy_of (by rw [kfX6_weigh, kfX7_nextFault]; rfl) (by rw [kmX6_weigh, klX6_weigh, klX7_nextFault]; rfl) (by rw [kmX6_weigh]; exact h3) h4
theorem yX7_nextFault_X7_isBeat {na : Nat} {r : List mm_V} (h3 : Nat.ble na 2 = true) (h4 : Nat.ble r.length 8 = true) : mm_roomy 78 92 na r = true := mm_roomy_of (by rw [kfX7_isBeat, kfX7_nextFault]; rfl) (by rw [kmX7_isBeat, klX7_isBeat, klX7_nextFault]; rfl) (by rw [kmX7_isBeat]; exact h3) h4
theorem yX7_removeSign_X1_keep {na : Nat} {r : List mm_V} (h3 : Nat.ble na 4 = true) (h4 : Nat.ble r.length 8 = true) : mm_roomy 67 3 na r = true := mm_roomy_of (by rw [kfX1_keep, kfX7_removeSign]; rfl) (by rw [kmX1_keep, klX1_keep, klX7_removeSign]; rfl) (by rw [kmX1_keep]; exact h3) h4
theorem yX7_removeSign_X2_takeOut {na : Nat} {r : List mm_V} (h3 : Nat.ble na 3 = true) (h4 : Nat.ble r.length 8 = true) : mm_roomy 67 11 na r = true := mm_roomy_of (by rw [kfX2_takeOut, kfX7_removeSign]; rfl) (by rw [kmX2_takeOut, klX2_takeOut, klX7_removeSign]; rfl) (by rw [kmX2_takeOut]; exact h3) h4
theorem yX7_removeSign_X7_isWithin {na : Nat} {r : List mm_V} (h3 : Nat.ble na 3 = true) (h4 : Nat.ble r.length 8 = true) : mm_roomy 67 89 na r = true := mm_roomy_of (by rw [kfX7_isWithin, kfX7_removeSign]; rfl) (by rw [kmX7_isWithin, klX7_isWithin, klX7_removeSign]; rfl) (by rw [kmX7_isWithin]; exact h3) h4
theorem yX7_reset_X1_keep {na : Nat} {r : List mm_V} (h3 : Nat.ble na 4 = true) (h4 : Nat.ble r.length 8 = true) : mm_roomy 62 3 na r = true := mm_roomy_of (by rw [kfX1_keep, kfX7_reset]; rfl) (by rw [kmX1_keep, klX1_keep, klX7_reset]; rfl) (by rw [kmX1_keep]; exact h3) h4
theorem yX7_reset_X2_empty {na : Nat} {r : List mm_V} (h3 : Nat.ble na 2 = true) (h4 : Nat.ble r.length 8 = true) : mm_roomy 62 5 na r = true := mm_roomy_of (by rw [kfX2_empty, kfX7_reset]; rfl) (by rw [kmX2_empty, klX2_empty, klX7_reset]; rfl) (by rw [kmX2_empty]; exact h3) h4
theorem yX7_reset_X7_isWithin {na : Nat} {r : List mm_V} (h3 : Nat.ble na 3 = true) (h4 : Nat.ble r.length 8 = true) : mm_roomy 62 89 na r = true := mm_roomy_of (by rw [kfX7_isWithin, kfX7_reset]; rfl) (by rw [kmX7_isWithin, klX7_isWithin, klX7_reset]; rfl) (by rw [kmX7_isWithin]; exact h3) h4
theorem yX7_setLeap_X1_keep {na : Nat} {r : List mm_V} (h3 : Nat.ble na 4 = true) (h4 : Nat.ble r.length 8 = true) : mm_roomy 69 3 na r = true := mm_roomy_of (by rw [kfX1_keep, kfX7_setLeap]; rfl) (by rw [kmX1_keep, klX1_keep, klX7_setLeap]; rfl) (by rw [kmX1_keep]; exact h3) h4
theorem yX7_setLeap_X7_isWithin {na : Nat} {r : List mm_V} (h3 : Nat.ble na 3 = true) (h4 : Nat.ble r.length 8 = true) : mm_roomy 69 89 na r = true := mm_roomy_of (by rw [kfX7_isWithin, kfX7_setLeap]; rfl) (by rw [kmX7_isWithin, klX7_isWithin, klX7_setLeap]; rfl) (by rw [kmX7_isWithin]; exact h3) h4
theorem yX7_sign_X2_at {na : Nat} {r : List mm_V} (h3 : Nat.ble na 2 = true) (h4 : Nat.ble r.length 8 = true) : mm_roomy 73 8 na r = true := mm_roomy_of (by rw [kfX2_at, kfX7_sign]; rfl) (by rw [kmX2_at, klX2_at, klX7_sign]; rfl) (by rw [kmX2_at]; exact h3) h4
theorem yX7_sign_X2_endOf {na : Nat} {r : List mm_V} (h3 : Nat.ble na 4 = true) (h4 : Nat.ble r.length 8 = true) : mm_roomy 73 12 na r = true := mm_roomy_of (by rw [kfX2_endOf, kfX7_sign]; rfl) (by rw [kmX2_endOf, klX2_endOf, klX7_sign]; rfl) (by rw [kmX2_endOf]; exact h3) h4
theorem yX7_sign_X4_amountOf {na : Nat} {r : List mm_V} (h3 : Nat.ble na 1 = true) (h4 : Nat.ble r.length 8 = true) : mm_roomy 73 39 na r = true := mm_roomy_of (by rw [kfX4_amountOf, kfX7_sign]; rfl) (by rw [kmX4_amountOf, klX4_amountOf, klX7_sign]; rfl) (by rw [kmX4_amountOf]; exact h3) h4
theorem yX7_sign_X4_beginOf {na : Nat} {r : List mm_V} (h3 : Nat.ble na 1 = true) (h4 : Nat.ble r.length 8 = true) : mm_roomy 73 33 na r = true := mm_roomy_of (by rw [kfX4_beginOf, kfX7_sign]; rfl) (by rw [kmX4_beginOf, klX4_beginOf, klX7_sign]; rfl) (by rw [kmX4_beginOf]; exact h3) h4
theorem yX7_sign_X4_columnOf {na : Nat} {r : List mm_V} (h3 : Nat.ble na 1 = true) (h4 : Nat.ble r.length 8 = true) : mm_roomy 73 34 na r = true := mm_roomy_of (by rw [kfX4_columnOf, kfX7_sign]; rfl) (by rw [kmX4_columnOf, klX4_columnOf, klX7_sign]; rfl) (by rw [kmX4_columnOf]; exact h3) h4
theorem yX7_sign_X4_directionOf {na : Nat} {r : List mm_V} (h3 : Nat.ble na 1 = true) (h4 : Nat.ble r.length 8 = true) : mm_roomy 73 37 na r = true := mm_roomy_of (by rw [kfX4_directionOf, kfX7_sign]; rfl) (by rw [kmX4_directionOf, klX4_directionOf, klX7_sign]; rfl) (by rw [kmX4_directionOf]; exact h3) h4
theorem yX7_sign_X4_kindOf {na : Nat} {r : List mm_V} (h3 : Nat.ble na 1 = true) (h4 : Nat.ble r.length 8 = true) : mm_roomy 73 36 na r = true := mm_roomy_of (by rw [kfX4_kindOf, kfX7_sign]; rfl) (by rw [kmX4_kindOf, klX4_kindOf, klX7_sign]; rfl) (by rw [kmX4_kindOf]; exact h3) h4
theorem yX7_sign_X4_levelOf {na : Nat} {r : List mm_V} (h3 : Nat.ble na 1 = true) (h4 : Nat.ble r.length 8 = true) : mm_roomy 73 38 na r = true := mm_roomy_of (by rw [kfX4_levelOf, kfX7_sign]; rfl) (by rw [kmX4_levelOf, klX4_levelOf, klX7_sign]; rfl) (by rw [kmX4_levelOf]; exact h3) h4
theorem yX7_sign_X7_isWithin {na : Nat} {r : List mm_V} (h3 : Nat.ble na 3 = true) (h4 : Nat.ble r.length 8 = true) : mm_roomy 73 89 na r = true := mm_roomy_of (by rw [kfX7_isWithin, kfX7_sign]; rfl) (by rw [kmX7_isWithin, klX7_isWithin, klX7_sign]; rfl) (by rw [kmX7_isWithin]; exact h3) h4
theorem yX7_signAt_X2_numberCovering {na : Nat} {r : List mm_V} (h3 : Nat.ble na 5 = true) (h4 : Nat.ble r.length 8 = true) : mm_roomy 74 13 na r = true := mm_roomy_of (by rw [kfX2_numberCovering, kfX7_signAt]; rfl) (by rw [kmX2_numberCovering, klX2_numberCovering, klX7_signAt]; rfl) (by rw [kmX2_numberCovering]; exact h3) h4
theorem yX7_signAt_X7_isBeat {na : Nat} {r : List mm_V} (h3 : Nat.ble na 2 = true) (h4 : Nat.ble r.length 8 = true) : mm_roomy 74 92 na r = true := mm_roomy_of (by rw [kfX7_isBeat, kfX7_signAt]; rfl) (by rw [kmX7_isBeat, klX7_isBeat, klX7_signAt]; rfl) (by rw [kmX7_isBeat]; exact h3) h4
theorem yX7_signAt_X7_isColumn {na : Nat} {r : List mm_V} (h3 : Nat.ble na 1 = true) (h4 : Nat.ble r.length 8 = true) : mm_roomy 74 91 na r = true := mm_roomy_of (by rw [kfX7_isColumn, kfX7_signAt]; rfl) (by rw [kmX7_isColumn, klX7_isColumn, klX7_signAt]; rfl) (by rw [kmX7_isColumn]; exact h3) h4
theorem yX7_type_X3_append {na : Nat} {r : List mm_V} (h3 : Nat.ble na 2 = true) (h4 : Nat.ble r.length 8 = true) : mm_roomy 86 15 na r = true := mm_roomy_of (by rw [kfX3_append, kfX7_type]; rfl) (by rw [kmX3_append, klX3_append, klX7_type]; rfl) (by rw [kmX3_append]; exact h3) h4
theorem yX7_type_X7_isWithin {na : Nat} {r : List mm_V} (h3 : Nat.ble na 3 = true) (h4 : Nat.ble r.length 8 = true) : mm_roomy 86 89 na r = true := mm_roomy_of (by rw [kfX7_isWithin, kfX7_type]; rfl) (by rw [kmX7_isWithin, klX7_isWithin, klX7_type]; rfl) (by rw [kmX7_isWithin]; exact h3) h4
theorem yX7_undo_X1_restore {na : Nat} {r : List mm_V} (h3 : Nat.ble na 4 = true) (h4 : Nat.ble r.length 8 = true) : mm_roomy 71 4 na r = true := mm_roomy_of (by rw [kfX1_restore, kfX7_undo]; rfl) (by rw [kmX1_restore, klX1_restore, klX7_undo]; rfl) (by rw [kmX1_restore]; exact h3) h4
theorem cB_6 : (Int8.ofInt (6)).toInt32 = (nI 6) := by decide +kernel
theorem cB_7 : (Int8.ofInt (7)).toInt32 = (nI 7) := by decide +kernel
theorem cB_8 : (Int8.ofInt (8)).toInt32 = (nI 8) := by decide +kernel
theorem cB_9 : (Int8.ofInt (9)).toInt32 = (nI 9) := by decide +kernel
theorem cB_10 : (Int8.ofInt (10)).toInt32 = (nI 10) := by decide +kernel
theorem cB_11 : (Int8.ofInt (11)).toInt32 = (nI 11) := by decide +kernel
theorem cB_13 : (Int8.ofInt (13)).toInt32 = (nI 13) := by decide +kernel
theorem cB_14 : (Int8.ofInt (14)).toInt32 = (nI 14) := by decide +kernel
theorem cB_15 : (Int8.ofInt (15)).toInt32 = (nI 15) := by decide +kernel
theorem cB_18 : (Int8.ofInt (18)).toInt32 = (nI 18) := by decide +kernel
theorem cB_20 : (Int8.ofInt (20)).toInt32 = (nI 20) := by decide +kernel
theorem cB_23 : (Int8.ofInt (23)).toInt32 = (nI 23) := by decide +kernel
theorem cB_30 : (Int8.ofInt (30)).toInt32 = (nI 30) := by decide +kernel
theorem cB_31 : (Int8.ofInt (31)).toInt32 = (nI 31) := by decide +kernel
theorem cB_32 : (Int8.ofInt (32)).toInt32 = (nI 32) := by decide +kernel
theorem cB_33 : (Int8.ofInt (33)).toInt32 = (nI 33) := by decide +kernel
theorem cB_40 : (Int8.ofInt (40)).toInt32 = (nI 40) := by decide +kernel
theorem cB_43 : (Int8.ofInt (43)).toInt32 = (nI 43) := by decide +kernel
theorem cB_45 : (Int8.ofInt (45)).toInt32 = (nI 45) := by decide +kernel
theorem cB_47 : (Int8.ofInt (47)).toInt32 = (nI 47) := by decide +kernel
theorem cB_48 : (Int8.ofInt (48)).toInt32 = (nI 48) := by decide +kernel
theorem cB_49 : (Int8.ofInt (49)).toInt32 = (nI 49) := by decide +kernel
theorem cB_57 : (Int8.ofInt (57)).toInt32 = (nI 57) := by decide +kernel
theorem cB_59 : (Int8.ofInt (59)).toInt32 = (nI 59) := by decide +kernel
theorem cB_60 : (Int8.ofInt (60)).toInt32 = (nI 60) := by decide +kernel
theorem cB_63 : (Int8.ofInt (63)).toInt32 = (nI 63) := by decide +kernel
theorem cB_101 : (Int8.ofInt (101)).toInt32 = (nI 101) := by decide +kernel
theorem cB_104 : (Int8.ofInt (104)).toInt32 = (nI 104) := by decide +kernel
theorem cB_107 : (Int8.ofInt (107)).toInt32 = (nI 107) := by decide +kernel
theorem cB_108 : (Int8.ofInt (108)).toInt32 = (nI 108) := by decide +kernel
theorem cB_109 : (Int8.ofInt (109)).toInt32 = (nI 109) := by decide +kernel
theorem cB_110 : (Int8.ofInt (110)).toInt32 = (nI 110) := by decide +kernel
theorem cB_116 : (Int8.ofInt (116)).toInt32 = (nI 116) := by decide +kernel
theorem cB_120 : (Int8.ofInt (120)).toInt32 = (nI 120) := by decide +kernel
theorem cB_126 : (Int8.ofInt (126)).toInt32 = (nI 126) := by decide +kernel
theorem cB_127 : (Int8.ofInt (127)).toInt32 = (nI 127) := by decide +kernel
theorem cI_m1 : Int32.ofInt (-1) = (-1) := by decide +kernel
theorem cI_0 : Int32.ofInt (0) = (nI 0) := by decide +kernel
theorem cI_1 : Int32.ofInt (1) = (nI 1) := by decide +kernel
theorem cI_2 : Int32.ofInt (2) = (nI 2) := by decide +kernel
theorem cI_3 : Int32.ofInt (3) = (nI 3) := by decide +kernel
theorem cI_4 : Int32.ofInt (4) = (nI 4) := by decide +kernel
theorem cI_5 : Int32.ofInt (5) = (nI 5) := by decide +kernel
theorem cS_m1004 : (Int16.ofInt (-1004)).toInt32 = (-1004) := by decide +kernel
theorem cS_m1003 : (Int16.ofInt (-1003)).toInt32 = (-1003) := by decide +kernel
theorem cS_m1002 : (Int16.ofInt (-1002)).toInt32 = (-1002) := by decide +kernel
theorem cS_m1001 : (Int16.ofInt (-1001)).toInt32 = (-1001) := by decide +kernel
theorem cS_315 : (Int16.ofInt (315)).toInt32 = (nI 315) := by decide +kernel
theorem cS_8191 : (Int16.ofInt (8191)).toInt32 = (nI 8191) := by decide +kernel
/-- one of the three scores -/
def isSc (o : Nat) : Prop := o = 1 ∨ o = 3 ∨ o = 5
theorem isSc1 : isSc 1 := Or.inl rfl
theorem isSc3 : isSc 3 := Or.inr (Or.inl rfl)
theorem isSc5 : isSc 5 := Or.inr (Or.inr rfl)
theorem sc_shape {o : Nat} (h : isSc o) : mm_shape[o]? = some (.inl (2, [none, none, none, some (o + 1)])) := by
  rcases h with rfl | rfl | rfl <;> rfl
theorem sc_ln {o : Nat} (h : isSc o) : mm_ln (o + 1) = 120 := by
  rcases h with rfl | rfl | rfl <;> rfl
theorem sc_lt {o : Nat} (h : isSc o) : o + 1 < 30 := by
  rcases h with rfl | rfl | rfl <;> decide
theorem ln_2 : mm_ln 2 = 120 := rfl
theorem ln_4 : mm_ln 4 = 120 := rfl
theorem ln_6 : mm_ln 6 = 120 := rfl
theorem ln_8 : mm_ln 8 = 378 := rfl
theorem ln_10 : mm_ln 10 = 48 := rfl
theorem ln_11 : mm_ln 11 = 48 := rfl
theorem ln_12 : mm_ln 12 = 48 := rfl
theorem ln_13 : mm_ln 13 = 48 := rfl
theorem ln_14 : mm_ln 14 = 48 := rfl
theorem ln_16 : mm_ln 16 = 49 := rfl
theorem ln_17 : mm_ln 17 = 49 := rfl
theorem ln_18 : mm_ln 18 = 49 := rfl
theorem ln_19 : mm_ln 19 = 49 := rfl
theorem ln_20 : mm_ln 20 = 49 := rfl
theorem ln_21 : mm_ln 21 = 49 := rfl
theorem ln_23 : mm_ln 23 = 48 := rfl
theorem ln_24 : mm_ln 24 = 48 := rfl
theorem ln_25 : mm_ln 25 = 48 := rfl
theorem ln_27 : mm_ln 27 = 120 := rfl
theorem ln_28 : mm_ln 28 = 7 := rfl
theorem ln_29 : mm_ln 29 = 48 := rfl
