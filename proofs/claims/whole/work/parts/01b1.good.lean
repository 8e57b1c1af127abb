set_option maxRecDepth 20000 in
theorem ggX5_count_X4_openCells : GoodIn wsX5_count wsX4_openCells := goodIn_r _ [17, 18, 62, 63, 64, 65, 66, 67, 68, 69] (by decide +kernel) (by decide +kernel)
set_option maxRecDepth 20000 in
theorem gX5_count_X4_openCells : GoodIn wsX5_count (wsV RX5 92 RX4 yX4_openCells wsX4_openCells) := goodIn_app (goodIn_of _ (by decide +kernel)) ggX5_count_X4_openCells
set_option maxRecDepth 20000 in
theorem ggX5_count_X4_restlessCells : GoodIn wsX5_count wsX4_restlessCells := goodIn_r _ [22, 18, 23, 24, 25, 16, 26, 27, 28, 29, 30, 31, 32, 33, 34, 35, 36, 37, 62, 63, 64, 65, 66, 67, 68, 69] (by decide +kernel) (by decide +kernel)
set_option maxRecDepth 20000 in
theorem gX5_count_X4_restlessCells : GoodIn wsX5_count (wsV RX5 142 RX4 yX4_restlessCells wsX4_restlessCells) := goodIn_app (goodIn_of _ (by decide +kernel)) ggX5_count_X4_restlessCells
set_option maxRecDepth 20000 in
theorem ggX5_count_X4_sum : GoodIn wsX5_count wsX4_sum := goodIn_r _ [41, 37, 62, 63, 64, 65, 66, 67, 68, 69] (by decide +kernel) (by decide +kernel)
set_option maxRecDepth 20000 in
theorem gX5_count_X4_sum : GoodIn wsX5_count (wsV RX5 188 RX4 yX4_sum wsX4_sum) := goodIn_app (goodIn_of _ (by decide +kernel)) ggX5_count_X4_sum
set_option maxRecDepth 20000 in
theorem ggX5_count_X4_loudness : GoodIn wsX5_count wsX4_loudness := goodIn_r _ [45, 33, 34, 35, 16, 36, 37, 29, 30, 31, 32, 62, 63, 64, 65, 66, 67, 68, 69] (by decide +kernel) (by decide +kernel)
set_option maxRecDepth 20000 in
theorem gX5_count_X4_loudness : GoodIn wsX5_count (wsV RX5 95 RX4 yX4_loudness wsX4_loudness) := goodIn_app (goodIn_of _ (by decide +kernel)) ggX5_count_X4_loudness
set_option maxRecDepth 20000 in
theorem ggX5_count_X4_loudestCell : GoodIn wsX5_count wsX4_loudestCell := goodIn_r _ [49, 33, 34, 35, 16, 36, 37, 29, 30, 31, 32, 62, 63, 64, 65, 66, 67, 68, 69] (by decide +kernel) (by decide +kernel)
set_option maxRecDepth 20000 in
theorem gX5_count_X4_loudestCell : GoodIn wsX5_count (wsV RX5 192 RX4 yX4_loudestCell wsX4_loudestCell) := goodIn_app (goodIn_of _ (by decide +kernel)) ggX5_count_X4_loudestCell
set_option maxRecDepth 20000 in
theorem ggX5_count_X4_loudnessOf : GoodIn wsX5_count wsX4_loudnessOf := goodIn_r _ [36, 37, 29, 30, 31, 32, 62, 63, 64, 65, 66, 67, 68, 69] (by decide +kernel) (by decide +kernel)
set_option maxRecDepth 20000 in
theorem gX5_count_X4_loudnessOf : GoodIn wsX5_count (wsV RX5 195 RX4 yX4_loudnessOf wsX4_loudnessOf) := goodIn_app (goodIn_of _ (by decide +kernel)) ggX5_count_X4_loudnessOf
set_option maxRecDepth 20000 in
theorem ggX5_count_X4_reachedCells : GoodIn wsX5_count wsX4_reachedCells := goodIn_r _ [54, 55, 62, 63, 64, 65, 66, 67, 68, 69] (by decide +kernel) (by decide +kernel)
set_option maxRecDepth 20000 in
theorem gX5_count_X4_reachedCells : GoodIn wsX5_count (wsV RX5 198 RX4 yX4_reachedCells wsX4_reachedCells) := goodIn_app (goodIn_of _ (by decide +kernel)) ggX5_count_X4_reachedCells
set_option maxRecDepth 20000 in
theorem ggX5_loudest_X5_isIn : GoodIn wsX5_loudest wsX5_isIn := goodIn_r _ [5] (by decide +kernel) (by decide +kernel)
set_option maxRecDepth 20000 in
theorem gX5_loudest_X5_isIn : GoodIn wsX5_loudest (va_wsS RX5 101 yX5_isIn wsX5_isIn) := goodIn_app (goodIn_of _ (by decide +kernel)) ggX5_loudest_X5_isIn
set_option maxRecDepth 20000 in
theorem ggX5_loudest_X4_loudestCell : GoodIn wsX5_loudest wsX4_loudestCell := goodIn_r _ [10, 11, 12, 13, 9, 14, 15, 16, 17, 18, 19, 27, 28, 29, 30, 31, 32, 33, 34] (by decide +kernel) (by decide +kernel)
set_option maxRecDepth 20000 in
theorem gX5_loudest_X4_loudestCell : GoodIn wsX5_loudest (wsV RX5 192 RX4 yX4_loudestCell wsX4_loudestCell) := goodIn_app (goodIn_of _ (by decide +kernel)) ggX5_loudest_X4_loudestCell
set_option maxRecDepth 20000 in
theorem ggX5_loudest_X4_loudnessOf : GoodIn wsX5_loudest wsX4_loudnessOf := goodIn_r _ [14, 15, 16, 17, 18, 19, 27, 28, 29, 30, 31, 32, 33, 34] (by decide +kernel) (by decide +kernel)
set_option maxRecDepth 20000 in
theorem gX5_loudest_X4_loudnessOf : GoodIn wsX5_loudest (wsV RX5 195 RX4 yX4_loudnessOf wsX4_loudnessOf) := goodIn_app (goodIn_of _ (by decide +kernel)) ggX5_loudest_X4_loudnessOf
set_option maxRecDepth 20000 in
theorem ggX5_crests_X5_isIn : GoodIn wsX5_crests wsX5_isIn := goodIn_r _ [5] (by decide +kernel) (by decide +kernel)
set_option maxRecDepth 20000 in
theorem gX5_crests_X5_isIn : GoodIn wsX5_crests (va_wsS RX5 101 yX5_isIn wsX5_isIn) := goodIn_app (goodIn_of _ (by decide +kernel)) ggX5_crests_X5_isIn
set_option maxRecDepth 20000 in
theorem ggX5_crests_X4_isCrest : GoodIn wsX5_crests wsX4_isCrest := goodIn_r _ [10, 11, 12, 13, 9, 14, 15, 16, 4, 17, 2, 3, 5, 18, 19, 26, 27, 28, 29, 30, 31, 32, 33] (by decide +kernel) (by decide +kernel)
set_option maxRecDepth 20000 in
theorem gX5_crests_X4_isCrest : GoodIn wsX5_crests (wsV RX5 202 RX4 yX4_isCrest wsX4_isCrest) := goodIn_app (goodIn_of _ (by decide +kernel)) ggX5_crests_X4_isCrest
set_option maxRecDepth 20000 in
theorem ggX5_ifPassed_X5_isCell : GoodIn wsX5_ifPassed wsX5_isCell := goodIn_r _ [7, 8, 9, 6, 10] (by decide +kernel) (by decide +kernel)
set_option maxRecDepth 20000 in
theorem gX5_ifPassed_X5_isCell : GoodIn wsX5_ifPassed (va_wsS RX5 55 yX5_isCell wsX5_isCell) := goodIn_app (goodIn_of _ (by decide +kernel)) ggX5_ifPassed_X5_isCell
set_option maxRecDepth 20000 in
theorem ggX5_ifPassed_X5_isIn : GoodIn wsX5_ifPassed wsX5_isIn := goodIn_r _ [10] (by decide +kernel) (by decide +kernel)
set_option maxRecDepth 20000 in
theorem gX5_ifPassed_X5_isIn : GoodIn wsX5_ifPassed (va_wsS RX5 101 yX5_isIn wsX5_isIn) := goodIn_app (goodIn_of _ (by decide +kernel)) ggX5_ifPassed_X5_isIn
set_option maxRecDepth 20000 in
theorem ggX5_ifPassed_X4_become : GoodIn wsX5_ifPassed wsX4_become := goodIn_r _ [15, 16, 17, 18, 19, 20, 21, 22, 23, 24, 25, 26, 27, 28, 29, 30, 31, 32, 33, 34, 35, 36, 37, 38, 39, 40, 41, 42, 43, 44, 45, 46, 47, 48, 111, 112, 113, 114, 115, 116, 117, 118, 119, 120, 121, 122, 123, 124, 125, 126, 127] (by decide +kernel) (by decide +kernel)
set_option maxRecDepth 20000 in
theorem gX5_ifPassed_X4_become : GoodIn wsX5_ifPassed (wsV RX5 205 RX4 yX4_become wsX4_become) := goodIn_app (goodIn_of _ (by decide +kernel)) ggX5_ifPassed_X4_become
set_option maxRecDepth 20000 in
theorem ggX5_ifPassed_X4_run : GoodIn wsX5_ifPassed wsX4_run := goodIn_r _ [52, 53, 54, 55, 14, 56, 23, 21, 25, 27, 22, 26, 57, 58, 59, 60, 16, 61, 62, 63, 64, 65, 66, 67, 68, 69, 6, 70, 71, 72, 73, 74, 75, 76, 77, 78, 79, 80, 31, 81, 38, 33, 36, 82, 83, 84, 85, 35, 37, 86, 87, 88, 89, 24, 90, 91, 92, 93, 94, 95, 96, 97, 98, 99, 42, 100, 48, 47, 45, 18, 19, 20, 44, 46, 101, 111, 112, 113, 114, 115, 116, 117, 118, 119, 120, 121, 122, 123, 124, 125, 126, 127] (by decide +kernel) (by decide +kernel)
set_option maxRecDepth 20000 in
theorem gX5_ifPassed_X4_run : GoodIn wsX5_ifPassed (wsV RX5 139 RX4 yX4_run wsX4_run) := goodIn_app (goodIn_of _ (by decide +kernel)) ggX5_ifPassed_X4_run
set_option maxRecDepth 20000 in
theorem ggX5_ifPassed_X5_placeOf : GoodIn wsX5_ifPassed wsX5_placeOf := goodIn_r _ [104] (by decide +kernel) (by decide +kernel)
set_option maxRecDepth 20000 in
theorem gX5_ifPassed_X5_placeOf : GoodIn wsX5_ifPassed (va_wsS RX5 59 yX5_placeOf wsX5_placeOf) := goodIn_app (goodIn_of _ (by decide +kernel)) ggX5_ifPassed_X5_placeOf
set_option maxRecDepth 20000 in
theorem ggX5_comes_X5_isCell : GoodIn wsX5_comes wsX5_isCell := goodIn_r _ [6, 7, 8, 5, 9] (by decide +kernel) (by decide +kernel)
set_option maxRecDepth 20000 in
theorem gX5_comes_X5_isCell : GoodIn wsX5_comes (va_wsS RX5 55 yX5_isCell wsX5_isCell) := goodIn_app (goodIn_of _ (by decide +kernel)) ggX5_comes_X5_isCell
set_option maxRecDepth 20000 in
theorem ggX5_comes_X5_placeOf : GoodIn wsX5_comes wsX5_placeOf := goodIn_r _ [12] (by decide +kernel) (by decide +kernel)
set_option maxRecDepth 20000 in
theorem gX5_comes_X5_placeOf : GoodIn wsX5_comes (va_wsS RX5 59 yX5_placeOf wsX5_placeOf) := goodIn_app (goodIn_of _ (by decide +kernel)) ggX5_comes_X5_placeOf
set_option maxRecDepth 20000 in
theorem ggX5_comes_X4_isStill : GoodIn wsX5_comes wsX4_isStill := goodIn_r _ [17, 18, 19, 20, 21, 22, 23, 24, 25, 26, 16, 27, 28, 110, 111, 112, 113, 114, 115, 116, 117] (by decide +kernel) (by decide +kernel)
set_option maxRecDepth 20000 in
theorem gX5_comes_X4_isStill : GoodIn wsX5_comes (wsV RX5 151 RX4 yX4_isStill wsX4_isStill) := goodIn_app (goodIn_of _ (by decide +kernel)) ggX5_comes_X4_isStill
set_option maxRecDepth 20000 in
theorem ggX5_comes_X4_become : GoodIn wsX5_comes wsX4_become := goodIn_r _ [32, 18, 33, 34, 35, 36, 37, 28, 19, 38, 39, 40, 41, 42, 43, 44, 45, 46, 47, 48, 49, 50, 51, 52, 53, 54, 55, 56, 57, 58, 59, 60, 61, 62, 110, 111, 112, 113, 114, 115, 116, 117, 118, 119, 120, 121, 122, 123, 124, 125, 126] (by decide +kernel) (by decide +kernel)
set_option maxRecDepth 20000 in
theorem gX5_comes_X4_become : GoodIn wsX5_comes (wsV RX5 205 RX4 yX4_become wsX4_become) := goodIn_app (goodIn_of _ (by decide +kernel)) ggX5_comes_X4_become
set_option maxRecDepth 20000 in
theorem ggX5_comes_X4_step : GoodIn wsX5_comes wsX4_step := goodIn_r _ [66, 19, 37, 39, 41, 28, 40, 67, 68, 69, 16, 70, 18, 71, 72, 73, 74, 75, 76, 77, 78, 79, 5, 80, 81, 82, 22, 83, 84, 85, 86, 87, 88, 89, 45, 90, 52, 47, 50, 91, 92, 93, 94, 49, 51, 95, 96, 97, 98, 38, 24, 25, 26, 27, 20, 21, 23, 99, 100, 101, 56, 102, 62, 61, 59, 34, 35, 36, 58, 60, 103, 110, 111, 112, 113, 114, 115, 116, 117, 118, 119, 120, 121, 122, 123, 124, 125, 126] (by decide +kernel) (by decide +kernel)
set_option maxRecDepth 20000 in
theorem gX5_comes_X4_step : GoodIn wsX5_comes (wsV RX5 208 RX4 yX4_step wsX4_step) := goodIn_app (goodIn_of _ (by decide +kernel)) ggX5_comes_X4_step
set_option maxRecDepth 20000 in
theorem ggX5_hush_X5_isDipper : GoodIn wsX5_hush wsX5_isDipper := goodIn_r _ [8, 1, 2, 9, 10, 11, 7, 12, 117, 118, 119, 120, 121, 122, 123, 124, 125, 126, 127, 128, 129, 130, 131, 132, 133, 134, 135] (by decide +kernel) (by decide +kernel)
set_option maxRecDepth 20000 in
theorem gX5_hush_X5_isDipper : GoodIn wsX5_hush (wsV RX5 112 RX5 yX5_isDipper wsX5_isDipper) := goodIn_app (goodIn_of _ (by decide +kernel)) ggX5_hush_X5_isDipper
set_option maxRecDepth 20000 in
theorem ggX5_hush_X5_isCell : GoodIn wsX5_hush wsX5_isCell := goodIn_r _ [15, 10, 11, 7, 12] (by decide +kernel) (by decide +kernel)
set_option maxRecDepth 20000 in
theorem gX5_hush_X5_isCell : GoodIn wsX5_hush (va_wsS RX5 55 yX5_isCell wsX5_isCell) := goodIn_app (goodIn_of _ (by decide +kernel)) ggX5_hush_X5_isCell
set_option maxRecDepth 20000 in
theorem ggX5_hush_X5_isIn : GoodIn wsX5_hush wsX5_isIn := goodIn_r _ [12] (by decide +kernel) (by decide +kernel)
set_option maxRecDepth 20000 in
theorem gX5_hush_X5_isIn : GoodIn wsX5_hush (va_wsS RX5 101 yX5_isIn wsX5_isIn) := goodIn_app (goodIn_of _ (by decide +kernel)) ggX5_hush_X5_isIn
set_option maxRecDepth 20000 in
theorem ggX5_hush_X5_placeOf : GoodIn wsX5_hush wsX5_placeOf := goodIn_r _ [18] (by decide +kernel) (by decide +kernel)
set_option maxRecDepth 20000 in
theorem gX5_hush_X5_placeOf : GoodIn wsX5_hush (va_wsS RX5 59 yX5_placeOf wsX5_placeOf) := goodIn_app (goodIn_of _ (by decide +kernel)) ggX5_hush_X5_placeOf
set_option maxRecDepth 20000 in
theorem ggX5_hush_X5_loudnessWith : GoodIn wsX5_hush wsX5_loudnessWith := goodIn_r _ [22, 23, 1, 2, 24, 25, 26, 27, 28, 29, 30, 31, 32, 33, 34, 35, 36, 37, 38, 39, 40, 41, 42, 43, 44, 45, 46, 47, 48, 49, 50, 51, 52, 53, 54, 55, 56, 57, 58, 59, 60, 61, 62, 63, 64, 65, 66, 67, 68, 69, 70, 71, 72, 73, 74, 75, 76, 77, 78, 79, 80, 81, 82, 83, 7, 84, 85, 86, 87, 88, 89, 90, 91, 92, 93, 94, 95, 96, 97, 98, 99, 100, 101, 102, 103, 104, 105, 106, 107, 108, 109, 110, 111, 112, 113, 114, 115, 116, 117, 118, 119, 120, 121, 122, 123, 124, 125, 126, 127, 128, 129, 130, 131, 132, 133, 134, 135, 136, 137, 138, 139] (by decide +kernel) (by decide +kernel)
set_option maxRecDepth 20000 in
theorem gX5_hush_X5_loudnessWith : GoodIn wsX5_hush (wsV RX5 211 RX5 yX5_loudnessWith wsX5_loudnessWith) := goodIn_app (goodIn_of _ (by decide +kernel)) ggX5_hush_X5_loudnessWith
set_option maxRecDepth 20000 in
theorem ggX5_put_X2_charactersIn : GoodIn wsX5_put wsX2_charactersIn := goodIn_r _ [6, 7, 8, 9, 10] (by decide +kernel) (by decide +kernel)
set_option maxRecDepth 20000 in
theorem gX5_put_X2_charactersIn : GoodIn wsX5_put (va_wsS RX5 214 yX2_charactersIn wsX2_charactersIn) := goodIn_app (goodIn_of _ (by decide +kernel)) ggX5_put_X2_charactersIn
set_option maxRecDepth 20000 in
theorem ggX5_put_X2_append : GoodIn wsX5_put wsX2_append := goodIn_r _ [14, 15, 16, 7, 23, 24] (by decide +kernel) (by decide +kernel)
set_option maxRecDepth 20000 in
theorem gX5_put_X2_append : GoodIn wsX5_put (wsV RX5 218 RX2 yX2_append wsX2_append) := goodIn_app (goodIn_of _ (by decide +kernel)) ggX5_put_X2_append
set_option maxRecDepth 20000 in
theorem ggX5_fault_X2_firstFault : GoodIn wsX5_fault wsX2_firstFault := goodIn_r _ [6, 7, 8, 9, 10, 5, 11, 12, 13, 14, 15, 16, 17, 18, 19, 20, 21, 22, 23, 24, 25, 26, 27, 28, 29, 30, 31, 32, 33, 34, 35, 36, 37, 38, 39, 40, 41, 42, 43, 44, 45, 46, 47, 48, 49, 50, 51, 52, 53, 54, 55, 56, 57, 58, 59, 60, 61, 62, 63, 64, 65, 66, 67, 68, 69, 70, 71, 72, 73, 74, 75, 76, 77, 78, 79, 80, 81, 82, 83, 84, 85, 86, 87, 88, 89, 90, 91, 92, 93, 94, 95, 96, 97, 98, 99, 100, 107, 108] (by decide +kernel) (by decide +kernel)
set_option maxRecDepth 20000 in
theorem gX5_fault_X2_firstFault : GoodIn wsX5_fault (wsV RX5 80 RX2 yX2_firstFault wsX2_firstFault) := goodIn_app (goodIn_of _ (by decide +kernel)) ggX5_fault_X2_firstFault
set_option maxRecDepth 20000 in
theorem ggX5_undo_X1_giveBack : GoodIn wsX5_undo wsX1_giveBack := goodIn_r _ [8, 9, 10, 11, 12, 13, 14, 15, 16, 17, 18, 19, 20, 21, 22, 23, 24, 25, 26, 27, 28, 29, 30, 31, 32, 33, 34, 35, 36, 37, 38, 39, 40, 41, 42, 43, 44, 45, 46, 47, 48, 55, 56, 57, 58, 59, 60, 61, 62, 63, 64, 65, 66, 67, 68, 69, 70, 71, 72, 73] (by decide +kernel) (by decide +kernel)
set_option maxRecDepth 20000 in
theorem gX5_undo_X1_giveBack : GoodIn wsX5_undo (wsV RX5 221 RX1 yX1_giveBack wsX1_giveBack) := goodIn_app (goodIn_of _ (by decide +kernel)) ggX5_undo_X1_giveBack
set_option maxRecDepth 20000 in
theorem ggX5_save_X5_isIn : GoodIn wsX5_save wsX5_isIn := goodIn_r _ [8] (by decide +kernel) (by decide +kernel)
set_option maxRecDepth 20000 in
theorem gX5_save_X5_isIn : GoodIn wsX5_save (va_wsS RX5 101 yX5_isIn wsX5_isIn) := goodIn_app (goodIn_of _ (by decide +kernel)) ggX5_save_X5_isIn
set_option maxRecDepth 20000 in
theorem ggX5_save_X4_become : GoodIn wsX5_save wsX4_become := goodIn_r _ [13, 14, 15, 16, 17, 18, 19, 20, 21, 22, 23, 24, 25, 26, 27, 28, 29, 30, 31, 32, 33, 34, 35, 36, 37, 38, 39, 40, 41, 42, 43, 44, 45, 46, 53, 54, 55, 56, 57, 58, 59, 60, 61, 62, 63, 64, 65, 66, 67, 68, 69] (by decide +kernel) (by decide +kernel)
set_option maxRecDepth 20000 in
theorem gX5_save_X4_become : GoodIn wsX5_save (wsV RX5 205 RX4 yX4_become wsX4_become) := goodIn_app (goodIn_of _ (by decide +kernel)) ggX5_save_X4_become
set_option maxRecDepth 20000 in
theorem ggX5_restore_X5_isIn : GoodIn wsX5_restore wsX5_isIn := goodIn_r _ [9] (by decide +kernel) (by decide +kernel)
set_option maxRecDepth 20000 in
theorem gX5_restore_X5_isIn : GoodIn wsX5_restore (va_wsS RX5 101 yX5_isIn wsX5_isIn) := goodIn_app (goodIn_of _ (by decide +kernel)) ggX5_restore_X5_isIn
set_option maxRecDepth 20000 in
theorem ggX5_restore_X1_keep : GoodIn wsX5_restore wsX1_keep := goodIn_r _ [14, 15, 16, 17, 18, 19, 13, 20, 21, 22, 23, 24, 25, 26, 27, 28, 29, 30, 31, 32, 33, 34, 35, 36, 37, 38, 39, 40, 41, 42, 43, 44, 45, 46, 47, 48, 49, 50, 51, 52, 53, 54, 55, 56, 57, 58, 74, 75, 66, 67, 68, 69, 70, 71, 72, 73, 76, 77, 78, 79, 80, 81, 82, 83, 84] (by decide +kernel) (by decide +kernel)
set_option maxRecDepth 20000 in
theorem gX5_restore_X1_keep : GoodIn wsX5_restore (wsV RX5 48 RX1 yX1_keep wsX1_keep) := goodIn_app (goodIn_of _ (by decide +kernel)) ggX5_restore_X1_keep
set_option maxRecDepth 20000 in
theorem ggX5_restore_X4_become : GoodIn wsX5_restore wsX4_become := goodIn_r _ [25, 26, 27, 28, 29, 30, 31, 32, 33, 34, 35, 36, 37, 38, 39, 40, 41, 42, 43, 44, 45, 46, 47, 48, 49, 50, 51, 52, 53, 54, 55, 56, 57, 58, 66, 67, 68, 69, 70, 71, 72, 73, 76, 77, 78, 79, 80, 81, 82, 83, 84] (by decide +kernel) (by decide +kernel)
set_option maxRecDepth 20000 in
theorem gX5_restore_X4_become : GoodIn wsX5_restore (wsV RX5 205 RX4 yX4_become wsX4_become) := goodIn_app (goodIn_of _ (by decide +kernel)) ggX5_restore_X4_become
set_option maxRecDepth 20000 in
theorem ggX5_loudnessWith_X4_become : GoodIn wsX5_loudnessWith wsX4_become := goodIn_r _ [9, 10, 11, 12, 13, 14, 15, 16, 17, 18, 19, 20, 21, 22, 23, 24, 25, 26, 27, 28, 29, 30, 31, 32, 33, 34, 35, 36, 37, 38, 39, 40, 41, 42, 104, 105, 106, 107, 108, 109, 110, 111, 112, 113, 114, 115, 116, 117, 118, 119, 120] (by decide +kernel) (by decide +kernel)
set_option maxRecDepth 20000 in
theorem gX5_loudnessWith_X4_become : GoodIn wsX5_loudnessWith (wsV RX5 205 RX4 yX4_become wsX4_become) := goodIn_app (goodIn_of _ (by decide +kernel)) ggX5_loudnessWith_X4_become
set_option maxRecDepth 20000 in
theorem ggX5_loudnessWith_X4_run : GoodIn wsX5_loudnessWith wsX4_run := goodIn_r _ [46, 47, 48, 49, 8, 50, 17, 15, 19, 21, 16, 20, 51, 52, 53, 54, 10, 55, 56, 57, 58, 59, 60, 61, 62, 63, 64, 65, 66, 67, 68, 69, 70, 71, 72, 73, 74, 75, 25, 76, 32, 27, 30, 77, 78, 79, 80, 29, 31, 81, 82, 83, 84, 18, 85, 86, 87, 88, 89, 90, 91, 92, 93, 94, 36, 95, 42, 41, 39, 12, 13, 14, 38, 40, 96, 104, 105, 106, 107, 108, 109, 110, 111, 112, 113, 114, 115, 116, 117, 118, 119, 120] (by decide +kernel) (by decide +kernel)
set_option maxRecDepth 20000 in
theorem gX5_loudnessWith_X4_run : GoodIn wsX5_loudnessWith (wsV RX5 139 RX4 yX4_run wsX4_run) := goodIn_app (goodIn_of _ (by decide +kernel)) ggX5_loudnessWith_X4_run
set_option maxRecDepth 20000 in
theorem ggX5_loudnessWith_X4_loudnessOf : GoodIn wsX5_loudnessWith wsX4_loudnessOf := goodIn_r _ [88, 16, 89, 90, 68, 91, 104, 105, 106, 107, 108, 109, 110, 111] (by decide +kernel) (by decide +kernel)
set_option maxRecDepth 20000 in
theorem gX5_loudnessWith_X4_loudnessOf : GoodIn wsX5_loudnessWith (wsV RX5 195 RX4 yX4_loudnessOf wsX4_loudnessOf) := goodIn_app (goodIn_of _ (by decide +kernel)) ggX5_loudnessWith_X4_loudnessOf
set_option maxRecDepth 20000 in
theorem ggX5_isDipper_X5_isIn : GoodIn wsX5_isDipper wsX5_isIn := goodIn_r _ [7] (by decide +kernel) (by decide +kernel)
set_option maxRecDepth 20000 in
theorem gX5_isDipper_X5_isIn : GoodIn wsX5_isDipper (va_wsS RX5 101 yX5_isIn wsX5_isIn) := goodIn_app (goodIn_of _ (by decide +kernel)) ggX5_isDipper_X5_isIn
set_option maxRecDepth 20000 in
theorem ggX5_isProbe_X5_isIn : GoodIn wsX5_isProbe wsX5_isIn := goodIn_r _ [7] (by decide +kernel) (by decide +kernel)
set_option maxRecDepth 20000 in
theorem gX5_isProbe_X5_isIn : GoodIn wsX5_isProbe (va_wsS RX5 101 yX5_isIn wsX5_isIn) := goodIn_app (goodIn_of _ (by decide +kernel)) ggX5_isProbe_X5_isIn
set_option maxRecDepth 20000 in
theorem ggX5_isCell_X5_isIn : GoodIn wsX5_isCell wsX5_isIn := goodIn_r _ [4] (by decide +kernel) (by decide +kernel)
set_option maxRecDepth 20000 in
theorem gX5_isCell_X5_isIn : GoodIn wsX5_isCell (va_wsS RX5 101 yX5_isIn wsX5_isIn) := goodIn_app (goodIn_of _ (by decide +kernel)) ggX5_isCell_X5_isIn
set_option maxRecDepth 20000 in
theorem ggX6_init_X6_forgetFirst : GoodIn wsX6_init wsX6_forgetFirst := goodIn_r _ [18, 5, 19, 20, 21, 22, 23, 24, 25, 26, 27] (by decide +kernel) (by decide +kernel)
set_option maxRecDepth 20000 in
theorem gX6_init_X6_forgetFirst : GoodIn wsX6_init (wsV RX6 33 RX6 yX6_forgetFirst wsX6_forgetFirst) := goodIn_app (goodIn_of _ (by decide +kernel)) ggX6_init_X6_forgetFirst
set_option maxRecDepth 20000 in
theorem ggX6_isCell_X6_in : GoodIn wsX6_isCell wsX6_in := goodIn_r _ [4] (by decide +kernel) (by decide +kernel)
set_option maxRecDepth 20000 in
theorem gX6_isCell_X6_in : GoodIn wsX6_isCell (va_wsS RX6 36 yX6_in wsX6_in) := goodIn_app (goodIn_of _ (by decide +kernel)) ggX6_isCell_X6_in
set_option maxRecDepth 20000 in
theorem ggX6_save_X6_in : GoodIn wsX6_save wsX6_in := goodIn_r _ [7] (by decide +kernel) (by decide +kernel)
set_option maxRecDepth 20000 in
theorem gX6_save_X6_in : GoodIn wsX6_save (va_wsS RX6 36 yX6_in wsX6_in) := goodIn_app (goodIn_of _ (by decide +kernel)) ggX6_save_X6_in
set_option maxRecDepth 20000 in
theorem ggX6_restore_X6_in : GoodIn wsX6_restore wsX6_in := goodIn_r _ [7] (by decide +kernel) (by decide +kernel)
set_option maxRecDepth 20000 in
theorem gX6_restore_X6_in : GoodIn wsX6_restore (va_wsS RX6 36 yX6_in wsX6_in) := goodIn_app (goodIn_of _ (by decide +kernel)) ggX6_restore_X6_in
set_option maxRecDepth 20000 in
theorem ggX6_restore_X6_record : GoodIn wsX6_restore wsX6_record := goodIn_r _ [11, 12, 13, 2, 14, 15, 16, 17, 18, 19, 20, 21, 22] (by decide +kernel) (by decide +kernel)
set_option maxRecDepth 20000 in
theorem gX6_restore_X6_record : GoodIn wsX6_restore (wsV RX6 44 RX6 yX6_record wsX6_record) := goodIn_app (goodIn_of _ (by decide +kernel)) ggX6_restore_X6_record
set_option maxRecDepth 20000 in
theorem ggX6_set_X6_in : GoodIn wsX6_set wsX6_in := goodIn_r _ [5] (by decide +kernel) (by decide +kernel)
set_option maxRecDepth 20000 in
theorem gX6_set_X6_in : GoodIn wsX6_set (va_wsS RX6 36 yX6_in wsX6_in) := goodIn_app (goodIn_of _ (by decide +kernel)) ggX6_set_X6_in
set_option maxRecDepth 20000 in
theorem ggX6_set_X6_leastOf : GoodIn wsX6_set wsX6_leastOf := goodIn_r _ [8] (by decide +kernel) (by decide +kernel)
set_option maxRecDepth 20000 in
theorem gX6_set_X6_leastOf : GoodIn wsX6_set (va_wsS RX6 47 yX6_leastOf wsX6_leastOf) := goodIn_app (goodIn_of _ (by decide +kernel)) ggX6_set_X6_leastOf
set_option maxRecDepth 20000 in
theorem ggX6_set_X6_mostOf : GoodIn wsX6_set wsX6_mostOf := goodIn_r _ [11] (by decide +kernel) (by decide +kernel)
set_option maxRecDepth 20000 in
theorem gX6_set_X6_mostOf : GoodIn wsX6_set (va_wsS RX6 51 yX6_mostOf wsX6_mostOf) := goodIn_app (goodIn_of _ (by decide +kernel)) ggX6_set_X6_mostOf
set_option maxRecDepth 20000 in
theorem ggX6_set_X6_record : GoodIn wsX6_set wsX6_record := goodIn_r _ [15, 16, 17, 1, 18, 19, 20, 21, 22, 23, 24, 25, 26] (by decide +kernel) (by decide +kernel)
set_option maxRecDepth 20000 in
theorem gX6_set_X6_record : GoodIn wsX6_set (wsV RX6 44 RX6 yX6_record wsX6_record) := goodIn_app (goodIn_of _ (by decide +kernel)) ggX6_set_X6_record
set_option maxRecDepth 20000 in
theorem ggX6_dipperIn_X6_ofDipper : GoodIn wsX6_dipperIn wsX6_ofDipper := goodIn_r _ [6, 1, 7, 8, 9, 10, 11, 12, 13, 14, 15] (by decide +kernel) (by decide +kernel)
set_option maxRecDepth 20000 in
theorem gX6_dipperIn_X6_ofDipper : GoodIn wsX6_dipperIn (wsV RX6 54 RX6 yX6_ofDipper wsX6_ofDipper) := goodIn_app (goodIn_of _ (by decide +kernel)) ggX6_dipperIn_X6_ofDipper
set_option maxRecDepth 20000 in
theorem ggX6_floor_X6_isCell : GoodIn wsX6_floor wsX6_isCell := goodIn_r _ [5, 6, 7, 4, 8] (by decide +kernel) (by decide +kernel)
set_option maxRecDepth 20000 in
theorem gX6_floor_X6_isCell : GoodIn wsX6_floor (va_wsS RX6 58 yX6_isCell wsX6_isCell) := goodIn_app (goodIn_of _ (by decide +kernel)) ggX6_floor_X6_isCell
set_option maxRecDepth 20000 in
theorem ggX6_floor_X6_in : GoodIn wsX6_floor wsX6_in := goodIn_r _ [8] (by decide +kernel) (by decide +kernel)
set_option maxRecDepth 20000 in
theorem gX6_floor_X6_in : GoodIn wsX6_floor (va_wsS RX6 36 yX6_in wsX6_in) := goodIn_app (goodIn_of _ (by decide +kernel)) ggX6_floor_X6_in
set_option maxRecDepth 20000 in
theorem ggX6_floor_X6_dipperIn : GoodIn wsX6_floor wsX6_dipperIn := goodIn_r _ [12, 1, 13, 14, 15, 4, 16, 23, 24, 25, 26, 27, 28, 29, 30, 31] (by decide +kernel) (by decide +kernel)
set_option maxRecDepth 20000 in
theorem gX6_floor_X6_dipperIn : GoodIn wsX6_floor (wsV RX6 62 RX6 yX6_dipperIn wsX6_dipperIn) := goodIn_app (goodIn_of _ (by decide +kernel)) ggX6_floor_X6_dipperIn
set_option maxRecDepth 20000 in
theorem ggX6_floor_X6_record : GoodIn wsX6_floor wsX6_record := goodIn_r _ [20, 21, 22, 1, 23, 24, 25, 26, 27, 28, 29, 30, 31] (by decide +kernel) (by decide +kernel)
set_option maxRecDepth 20000 in
theorem gX6_floor_X6_record : GoodIn wsX6_floor (wsV RX6 44 RX6 yX6_record wsX6_record) := goodIn_app (goodIn_of _ (by decide +kernel)) ggX6_floor_X6_record
set_option maxRecDepth 20000 in
theorem ggX6_water_X6_isWall : GoodIn wsX6_water wsX6_isWall := goodIn_r _ [5, 6, 7, 8, 9, 10, 11, 12, 13, 14, 15] (by decide +kernel) (by decide +kernel)
set_option maxRecDepth 20000 in
theorem gX6_water_X6_isWall : GoodIn wsX6_water (wsV RX6 65 RX6 yX6_isWall wsX6_isWall) := goodIn_app (goodIn_of _ (by decide +kernel)) ggX6_water_X6_isWall
set_option maxRecDepth 20000 in
theorem ggX6_calm_X6_forgetFirst : GoodIn wsX6_calm wsX6_forgetFirst := goodIn_r _ [6, 1, 7, 8, 9, 10, 11, 12, 13, 14, 15] (by decide +kernel) (by decide +kernel)
set_option maxRecDepth 20000 in
theorem gX6_calm_X6_forgetFirst : GoodIn wsX6_calm (wsV RX6 33 RX6 yX6_forgetFirst wsX6_forgetFirst) := goodIn_app (goodIn_of _ (by decide +kernel)) ggX6_calm_X6_forgetFirst
set_option maxRecDepth 20000 in
theorem ggX6_read_X6_readPad : GoodIn wsX6_read wsX6_readPad := goodIn_r _ [8, 3, 2, 9, 10, 7, 11, 34, 35, 36, 37, 38, 39, 40, 41, 42] (by decide +kernel) (by decide +kernel)
set_option maxRecDepth 20000 in
theorem gX6_read_X6_readPad : GoodIn wsX6_read (wsV RX6 69 RX6 yX6_readPad wsX6_readPad) := goodIn_app (goodIn_of _ (by decide +kernel)) ggX6_read_X6_readPad
set_option maxRecDepth 20000 in
theorem ggX6_read_X6_record : GoodIn wsX6_read wsX6_record := goodIn_r _ [15, 16, 17, 1, 34, 35, 36, 37, 38, 39, 40, 41, 42] (by decide +kernel) (by decide +kernel)
set_option maxRecDepth 20000 in
theorem gX6_read_X6_record : GoodIn wsX6_read (wsV RX6 44 RX6 yX6_record wsX6_record) := goodIn_app (goodIn_of _ (by decide +kernel)) ggX6_read_X6_record
set_option maxRecDepth 20000 in
theorem ggX6_read_X6_floorOf : GoodIn wsX6_read wsX6_floorOf := goodIn_r _ [11] (by decide +kernel) (by decide +kernel)
set_option maxRecDepth 20000 in
theorem gX6_read_X6_floorOf : GoodIn wsX6_read (va_wsS RX6 73 yX6_floorOf wsX6_floorOf) := goodIn_app (goodIn_of _ (by decide +kernel)) ggX6_read_X6_floorOf
set_option maxRecDepth 20000 in
theorem ggX6_read_X6_calm : GoodIn wsX6_read wsX6_calm := goodIn_r _ [21, 1, 22, 23, 24, 7, 25, 34, 35, 36, 37, 38, 39, 40, 41, 42] (by decide +kernel) (by decide +kernel)
set_option maxRecDepth 20000 in
theorem gX6_read_X6_calm : GoodIn wsX6_read (wsV RX6 76 RX6 yX6_calm wsX6_calm) := goodIn_app (goodIn_of _ (by decide +kernel)) ggX6_read_X6_calm
set_option maxRecDepth 20000 in
theorem ggX6_read_X6_water : GoodIn wsX6_read wsX6_water := goodIn_r _ [29, 30, 31, 32, 7, 33, 1, 34, 35, 36, 37, 38, 39, 40, 41, 42] (by decide +kernel) (by decide +kernel)
set_option maxRecDepth 20000 in
theorem gX6_read_X6_water : GoodIn wsX6_read (wsV RX6 82 RX6 yX6_water wsX6_water) := goodIn_app (goodIn_of _ (by decide +kernel)) ggX6_read_X6_water
set_option maxRecDepth 20000 in
theorem ggX6_allSizes_X6_now : GoodIn wsX6_allSizes wsX6_now := goodIn_r _ [5, 6, 10, 11, 12, 13, 14, 15, 16, 17, 18] (by decide +kernel) (by decide +kernel)
set_option maxRecDepth 20000 in
theorem gX6_allSizes_X6_now : GoodIn wsX6_allSizes (wsV RX6 85 RX6 yX6_now wsX6_now) := goodIn_app (goodIn_of _ (by decide +kernel)) ggX6_allSizes_X6_now
set_option maxRecDepth 20000 in
theorem ggX6_allSizes_X6_size : GoodIn wsX6_allSizes wsX6_size := goodIn_r _ [9] (by decide +kernel) (by decide +kernel)
set_option maxRecDepth 20000 in
theorem gX6_allSizes_X6_size : GoodIn wsX6_allSizes (va_wsS RX6 88 yX6_size wsX6_size) := goodIn_app (goodIn_of _ (by decide +kernel)) ggX6_allSizes_X6_size
set_option maxRecDepth 20000 in
theorem ggX6_clear_X6_record : GoodIn wsX6_clear wsX6_record := goodIn_r _ [6, 7, 8, 1, 28, 29, 30, 31, 32, 33, 34, 35, 36] (by decide +kernel) (by decide +kernel)
set_option maxRecDepth 20000 in
theorem gX6_clear_X6_record : GoodIn wsX6_clear (wsV RX6 44 RX6 yX6_record wsX6_record) := goodIn_app (goodIn_of _ (by decide +kernel)) ggX6_clear_X6_record
set_option maxRecDepth 20000 in
theorem ggX6_clear_X6_allSizes : GoodIn wsX6_clear wsX6_allSizes := goodIn_r _ [12, 13, 14, 15, 5, 16, 1, 17, 18, 19, 28, 29, 30, 31, 32, 33, 34, 35, 36] (by decide +kernel) (by decide +kernel)
set_option maxRecDepth 20000 in
theorem gX6_clear_X6_allSizes : GoodIn wsX6_clear (wsV RX6 91 RX6 yX6_allSizes wsX6_allSizes) := goodIn_app (goodIn_of _ (by decide +kernel)) ggX6_clear_X6_allSizes
set_option maxRecDepth 20000 in
theorem ggX6_clear_X6_calm : GoodIn wsX6_clear wsX6_calm := goodIn_r _ [23, 1, 24, 25, 26, 5, 27, 28, 29, 30, 31, 32, 33, 34, 35, 36] (by decide +kernel) (by decide +kernel)
set_option maxRecDepth 20000 in
theorem gX6_clear_X6_calm : GoodIn wsX6_clear (wsV RX6 76 RX6 yX6_calm wsX6_calm) := goodIn_app (goodIn_of _ (by decide +kernel)) ggX6_clear_X6_calm
set_option maxRecDepth 20000 in
theorem ggX6_dip_X6_isCell : GoodIn wsX6_dip wsX6_isCell := goodIn_r _ [5, 6, 7, 4, 8] (by decide +kernel) (by decide +kernel)
set_option maxRecDepth 20000 in
theorem gX6_dip_X6_isCell : GoodIn wsX6_dip (va_wsS RX6 58 yX6_isCell wsX6_isCell) := goodIn_app (goodIn_of _ (by decide +kernel)) ggX6_dip_X6_isCell
set_option maxRecDepth 20000 in
theorem ggX6_dip_X6_in : GoodIn wsX6_dip wsX6_in := goodIn_r _ [8] (by decide +kernel) (by decide +kernel)
set_option maxRecDepth 20000 in
theorem gX6_dip_X6_in : GoodIn wsX6_dip (va_wsS RX6 36 yX6_in wsX6_in) := goodIn_app (goodIn_of _ (by decide +kernel)) ggX6_dip_X6_in
set_option maxRecDepth 20000 in
theorem ggX6_dip_X6_isWall : GoodIn wsX6_dip wsX6_isWall := goodIn_r _ [12, 1, 19, 20, 21, 22, 23, 24, 25, 26, 27] (by decide +kernel) (by decide +kernel)
set_option maxRecDepth 20000 in
theorem gX6_dip_X6_isWall : GoodIn wsX6_dip (wsV RX6 65 RX6 yX6_isWall wsX6_isWall) := goodIn_app (goodIn_of _ (by decide +kernel)) ggX6_dip_X6_isWall
set_option maxRecDepth 20000 in
theorem ggX6_dip_X6_record : GoodIn wsX6_dip wsX6_record := goodIn_r _ [16, 17, 18, 1, 19, 20, 21, 22, 23, 24, 25, 26, 27] (by decide +kernel) (by decide +kernel)
set_option maxRecDepth 20000 in
theorem gX6_dip_X6_record : GoodIn wsX6_dip (wsV RX6 44 RX6 yX6_record wsX6_record) := goodIn_app (goodIn_of _ (by decide +kernel)) ggX6_dip_X6_record
set_option maxRecDepth 20000 in
theorem ggX6_takeOut_X6_isDipper : GoodIn wsX6_takeOut wsX6_isDipper := goodIn_r _ [6, 1, 13, 14, 15, 16, 17, 18, 19, 20, 21] (by decide +kernel) (by decide +kernel)
set_option maxRecDepth 20000 in
theorem gX6_takeOut_X6_isDipper : GoodIn wsX6_takeOut (wsV RX6 94 RX6 yX6_isDipper wsX6_isDipper) := goodIn_app (goodIn_of _ (by decide +kernel)) ggX6_takeOut_X6_isDipper
set_option maxRecDepth 20000 in
theorem ggX6_takeOut_X6_record : GoodIn wsX6_takeOut wsX6_record := goodIn_r _ [10, 11, 12, 1, 13, 14, 15, 16, 17, 18, 19, 20, 21] (by decide +kernel) (by decide +kernel)
set_option maxRecDepth 20000 in
theorem gX6_takeOut_X6_record : GoodIn wsX6_takeOut (wsV RX6 44 RX6 yX6_record wsX6_record) := goodIn_app (goodIn_of _ (by decide +kernel)) ggX6_takeOut_X6_record
set_option maxRecDepth 20000 in
theorem ggX6_drop_X6_isCell : GoodIn wsX6_drop wsX6_isCell := goodIn_r _ [5, 6, 7, 4, 8] (by decide +kernel) (by decide +kernel)
set_option maxRecDepth 20000 in
theorem gX6_drop_X6_isCell : GoodIn wsX6_drop (va_wsS RX6 58 yX6_isCell wsX6_isCell) := goodIn_app (goodIn_of _ (by decide +kernel)) ggX6_drop_X6_isCell
set_option maxRecDepth 20000 in
theorem ggX6_drop_X6_in : GoodIn wsX6_drop wsX6_in := goodIn_r _ [8] (by decide +kernel) (by decide +kernel)
set_option maxRecDepth 20000 in
theorem gX6_drop_X6_in : GoodIn wsX6_drop (va_wsS RX6 36 yX6_in wsX6_in) := goodIn_app (goodIn_of _ (by decide +kernel)) ggX6_drop_X6_in
set_option maxRecDepth 20000 in
theorem ggX6_drop_X6_isWall : GoodIn wsX6_drop wsX6_isWall := goodIn_r _ [12, 1, 26, 27, 28, 29, 30, 31, 32, 33, 34] (by decide +kernel) (by decide +kernel)
set_option maxRecDepth 20000 in
theorem gX6_drop_X6_isWall : GoodIn wsX6_drop (wsV RX6 65 RX6 yX6_isWall wsX6_isWall) := goodIn_app (goodIn_of _ (by decide +kernel)) ggX6_drop_X6_isWall
set_option maxRecDepth 20000 in
theorem ggX6_drop_X6_record : GoodIn wsX6_drop wsX6_record := goodIn_r _ [16, 17, 18, 1, 26, 27, 28, 29, 30, 31, 32, 33, 34] (by decide +kernel) (by decide +kernel)
set_option maxRecDepth 20000 in
theorem gX6_drop_X6_record : GoodIn wsX6_drop (wsV RX6 44 RX6 yX6_record wsX6_record) := goodIn_app (goodIn_of _ (by decide +kernel)) ggX6_drop_X6_record
set_option maxRecDepth 20000 in
theorem ggX6_drop_X6_now : GoodIn wsX6_drop wsX6_now := goodIn_r _ [22, 1, 26, 27, 28, 29, 30, 31, 32, 33, 34] (by decide +kernel) (by decide +kernel)
set_option maxRecDepth 20000 in
theorem gX6_drop_X6_now : GoodIn wsX6_drop (wsV RX6 85 RX6 yX6_now wsX6_now) := goodIn_app (goodIn_of _ (by decide +kernel)) ggX6_drop_X6_now
set_option maxRecDepth 20000 in
theorem ggX6_drop_X6_kept : GoodIn wsX6_drop wsX6_kept := goodIn_r _ [25] (by decide +kernel) (by decide +kernel)
set_option maxRecDepth 20000 in
theorem gX6_drop_X6_kept : GoodIn wsX6_drop (va_wsS RX6 97 yX6_kept wsX6_kept) := goodIn_app (goodIn_of _ (by decide +kernel)) ggX6_drop_X6_kept
set_option maxRecDepth 20000 in
theorem ggX6_probe_X6_isCell : GoodIn wsX6_probe wsX6_isCell := goodIn_r _ [5, 6, 7, 4, 8] (by decide +kernel) (by decide +kernel)
set_option maxRecDepth 20000 in
theorem gX6_probe_X6_isCell : GoodIn wsX6_probe (va_wsS RX6 58 yX6_isCell wsX6_isCell) := goodIn_app (goodIn_of _ (by decide +kernel)) ggX6_probe_X6_isCell
set_option maxRecDepth 20000 in
theorem ggX6_probe_X6_record : GoodIn wsX6_probe wsX6_record := goodIn_r _ [12, 13, 14, 1, 15, 16, 17, 18, 19, 20, 21, 22, 23] (by decide +kernel) (by decide +kernel)
set_option maxRecDepth 20000 in
theorem gX6_probe_X6_record : GoodIn wsX6_probe (wsV RX6 44 RX6 yX6_record wsX6_record) := goodIn_app (goodIn_of _ (by decide +kernel)) ggX6_probe_X6_record
set_option maxRecDepth 20000 in
theorem ggX6_from_X6_isCell : GoodIn wsX6_from wsX6_isCell := goodIn_r _ [4, 5, 6, 3, 7] (by decide +kernel) (by decide +kernel)
set_option maxRecDepth 20000 in
theorem gX6_from_X6_isCell : GoodIn wsX6_from (va_wsS RX6 58 yX6_isCell wsX6_isCell) := goodIn_app (goodIn_of _ (by decide +kernel)) ggX6_from_X6_isCell
set_option maxRecDepth 20000 in
theorem ggX6_from_X6_isWall : GoodIn wsX6_from wsX6_isWall := goodIn_r _ [11, 12, 17, 18, 19, 20, 21, 22, 23, 24, 25] (by decide +kernel) (by decide +kernel)
set_option maxRecDepth 20000 in
theorem gX6_from_X6_isWall : GoodIn wsX6_from (wsV RX6 65 RX6 yX6_isWall wsX6_isWall) := goodIn_app (goodIn_of _ (by decide +kernel)) ggX6_from_X6_isWall
set_option maxRecDepth 20000 in
theorem ggX6_from_X6_now : GoodIn wsX6_from wsX6_now := goodIn_r _ [16, 12, 17, 18, 19, 20, 21, 22, 23, 24, 25] (by decide +kernel) (by decide +kernel)
set_option maxRecDepth 20000 in
theorem gX6_from_X6_now : GoodIn wsX6_from (wsV RX6 85 RX6 yX6_now wsX6_now) := goodIn_app (goodIn_of _ (by decide +kernel)) ggX6_from_X6_now
