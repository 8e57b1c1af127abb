set_option maxRecDepth 20000 in
theorem ggX0_beat_X0_isUp : GoodIn wsX0_beat wsX0_isUp := goodIn_r _ [8, 9, 10, 11, 12, 13, 14, 15] (by decide +kernel) (by decide +kernel)
set_option maxRecDepth 20000 in
theorem gX0_beat_X0_isUp : GoodIn wsX0_beat (wsV RX0 34 RX0 yX0_isUp wsX0_isUp) := goodIn_app (goodIn_of _ (by decide +kernel)) ggX0_beat_X0_isUp
set_option maxRecDepth 20000 in
theorem ggX1_init_X4_init : GoodIn wsX1_init wsX4_init := goodIn_r _ [11, 12, 2, 3, 13, 14, 15, 16, 17, 18, 19, 20, 21, 22, 23, 24, 25, 26, 27, 28, 29, 30, 31, 32, 33, 34, 35, 36, 37, 38, 39, 40, 41, 42, 43, 44, 45, 46, 47, 48, 49, 50, 51, 52, 53, 56, 57, 58, 59, 60, 61, 62, 63, 64, 65, 66, 67, 68, 69, 70, 71, 72] (by decide +kernel) (by decide +kernel)
set_option maxRecDepth 20000 in
theorem gX1_init_X4_init : GoodIn wsX1_init (wsX4_init) := ggX1_init_X4_init
set_option maxRecDepth 20000 in
theorem ggX1_keep_X1_loseOldest : GoodIn wsX1_keep wsX1_loseOldest := goodIn_r _ [7, 2, 1, 46, 47] (by decide +kernel) (by decide +kernel)
set_option maxRecDepth 20000 in
theorem gX1_keep_X1_loseOldest : GoodIn wsX1_keep (wsV RX1 22 RX1 yX1_loseOldest wsX1_loseOldest) := goodIn_app (goodIn_of _ (by decide +kernel)) ggX1_keep_X1_loseOldest
set_option maxRecDepth 20000 in
theorem ggX1_keep_X4_become : GoodIn wsX1_keep wsX4_become := goodIn_r _ [12, 13, 14, 15, 16, 17, 18, 19, 20, 21, 22, 23, 24, 25, 26, 27, 28, 29, 30, 31, 32, 33, 34, 35, 36, 37, 38, 39, 40, 41, 42, 43, 44, 45, 48, 49, 50, 51, 52, 53, 54, 55, 56, 57, 58, 59, 60, 61, 62, 63, 64] (by decide +kernel) (by decide +kernel)
set_option maxRecDepth 20000 in
theorem gX1_keep_X4_become : GoodIn wsX1_keep (wsV RX1 25 RX4 yX4_become wsX4_become) := goodIn_app (goodIn_of _ (by decide +kernel)) ggX1_keep_X4_become
set_option maxRecDepth 20000 in
theorem ggX3_beatOf_X3_differences : GoodIn wsX3_beatOf wsX3_differences := goodIn_r _ [6, 7, 8, 9, 10, 11, 12, 13, 14, 15] (by decide +kernel) (by decide +kernel)
set_option maxRecDepth 20000 in
theorem gX3_beatOf_X3_differences : GoodIn wsX3_beatOf (wsV RX3 48 RX3 yX3_differences wsX3_differences) := goodIn_app (goodIn_of _ (by decide +kernel)) ggX3_beatOf_X3_differences
set_option maxRecDepth 20000 in
theorem ggX4_init_X0_init : GoodIn wsX4_init wsX0_init := goodIn_r _ [26, 27, 2, 3, 11, 28, 29, 30, 31, 32, 53, 54, 55, 56, 57] (by decide +kernel) (by decide +kernel)
set_option maxRecDepth 20000 in
theorem gX4_init_X0_init_n37 : GoodIn wsX4_init (wsX0_init) := ggX4_init_X0_init
set_option maxRecDepth 20000 in
theorem ggX4_init_X3_init : GoodIn wsX4_init wsX3_init := goodIn_r _ [34, 35, 2, 3, 11, 36, 37, 38, 39, 40, 58, 59, 60, 61] (by decide +kernel) (by decide +kernel)
set_option maxRecDepth 20000 in
theorem gX4_init_X3_init_n44 : GoodIn wsX4_init (wsX3_init) := ggX4_init_X3_init
set_option maxRecDepth 20000 in
theorem ggX4_init_J7_fill_53178 : GoodIn wsX4_init wsJ7_fill_53178 := goodIn_r _ [44] (by decide +kernel) (by decide +kernel)
set_option maxRecDepth 20000 in
theorem gX4_init_J7_fill_53178 : GoodIn wsX4_init (va_wsS RX4 53 yJ7_fill_53178 wsJ7_fill_53178) := goodIn_app (goodIn_of _ (by decide +kernel)) ggX4_init_J7_fill_53178
set_option maxRecDepth 20000 in
theorem ggX4_become_X0_become : GoodIn wsX4_become wsX0_become := goodIn_r _ [17, 18, 19, 3, 4, 5, 20, 21, 22, 23, 42, 43, 44, 45, 46] (by decide +kernel) (by decide +kernel)
set_option maxRecDepth 20000 in
theorem gX4_become_X0_become : GoodIn wsX4_become (wsV RX4 65 RX0 yX0_become wsX0_become) := goodIn_app (goodIn_of _ (by decide +kernel)) ggX4_become_X0_become
set_option maxRecDepth 20000 in
theorem ggX4_become_X3_become : GoodIn wsX4_become wsX3_become := goodIn_r _ [28, 29, 30, 3, 4, 5, 31, 32, 33, 47, 48, 49, 50] (by decide +kernel) (by decide +kernel)
set_option maxRecDepth 20000 in
theorem gX4_become_X3_become : GoodIn wsX4_become (wsV RX4 69 RX3 yX3_become wsX3_become) := goodIn_app (goodIn_of _ (by decide +kernel)) ggX4_become_X3_become
set_option maxRecDepth 20000 in
theorem ggX4_run_X4_step : GoodIn wsX4_run wsX4_step := goodIn_r _ [5, 6, 7, 8, 9, 10, 11, 12, 13, 14, 4, 15, 16, 17, 18, 19, 20, 21, 22, 23, 24, 25, 26, 27, 28, 29, 30, 31, 32, 33, 34, 35, 36, 37, 38, 39, 40, 41, 42, 43, 44, 45, 46, 47, 48, 49, 50, 51, 52, 53, 54, 55, 56, 57, 58, 59, 60, 61, 62, 63, 64, 65, 66, 67, 68, 69, 70, 71, 72, 73, 74, 75, 76, 77, 78, 79, 80, 81, 82, 83, 84, 85, 86, 87, 88, 89, 90, 91] (by decide +kernel) (by decide +kernel)
set_option maxRecDepth 20000 in
theorem gX4_run_X4_step : GoodIn wsX4_run (wsV RX4 88 RX4 yX4_step wsX4_step) := goodIn_app (goodIn_of _ (by decide +kernel)) ggX4_run_X4_step
set_option maxRecDepth 20000 in
theorem ggX4_step_X4_nextHeight : GoodIn wsX4_step wsX4_nextHeight := goodIn_r _ [11, 2, 12, 5, 1, 13, 14, 15, 10, 16, 17, 18, 19, 20, 21, 22, 23, 24, 25, 26, 27, 28, 29, 30, 71, 72, 73, 74, 75, 76, 77, 78] (by decide +kernel) (by decide +kernel)
set_option maxRecDepth 20000 in
theorem gX4_step_X4_nextHeight : GoodIn wsX4_step (wsV RX4 91 RX4 yX4_nextHeight wsX4_nextHeight) := goodIn_app (goodIn_of _ (by decide +kernel)) ggX4_step_X4_nextHeight
set_option maxRecDepth 20000 in
theorem ggX4_step_X0_beat : GoodIn wsX4_step wsX0_beat := goodIn_r _ [35, 36, 37, 38, 39, 40, 41, 34, 42, 43, 44, 79, 80, 81, 82, 83] (by decide +kernel) (by decide +kernel)
set_option maxRecDepth 20000 in
theorem gX4_step_X0_beat : GoodIn wsX4_step (wsV RX4 94 RX0 yX0_beat wsX0_beat) := goodIn_app (goodIn_of _ (by decide +kernel)) ggX4_step_X0_beat
set_option maxRecDepth 20000 in
theorem ggX4_step_X4_keepFirsts : GoodIn wsX4_step wsX4_keepFirsts := goodIn_r _ [48, 49, 12, 4, 50, 51, 52, 10, 53, 5, 54, 55, 26, 56, 71, 72, 73, 74, 75, 76, 77, 78] (by decide +kernel) (by decide +kernel)
set_option maxRecDepth 20000 in
theorem gX4_step_X4_keepFirsts : GoodIn wsX4_step (wsV RX4 97 RX4 yX4_keepFirsts wsX4_keepFirsts) := goodIn_app (goodIn_of _ (by decide +kernel)) ggX4_step_X4_keepFirsts
set_option maxRecDepth 20000 in
theorem ggX4_step_X3_look : GoodIn wsX4_step wsX3_look := goodIn_r _ [61, 62, 63, 64, 65, 66, 67, 68, 69, 70, 25, 26, 27, 84, 85, 86, 87] (by decide +kernel) (by decide +kernel)
set_option maxRecDepth 20000 in
theorem gX4_step_X3_look : GoodIn wsX4_step (wsV RX4 100 RX3 yX3_look wsX3_look) := goodIn_app (goodIn_of _ (by decide +kernel)) ggX4_step_X3_look
set_option maxRecDepth 20000 in
theorem ggX4_nextHeight_X4_slopeAt : GoodIn wsX4_nextHeight wsX4_slopeAt := goodIn_r _ [9, 1, 10, 11, 12, 8, 13, 3, 24, 25, 26, 27, 28, 29, 30, 31] (by decide +kernel) (by decide +kernel)
set_option maxRecDepth 20000 in
theorem gX4_nextHeight_X4_slopeAt : GoodIn wsX4_nextHeight (wsV RX4 104 RX4 yX4_slopeAt wsX4_slopeAt) := goodIn_app (goodIn_of _ (by decide +kernel)) ggX4_nextHeight_X4_slopeAt
set_option maxRecDepth 20000 in
theorem ggX4_nextHeight_X5_bounded : GoodIn wsX4_nextHeight wsX5_bounded := goodIn_r _ [16, 17, 18, 19, 20, 21, 22, 23] (by decide +kernel) (by decide +kernel)
set_option maxRecDepth 20000 in
theorem gX4_nextHeight_X5_bounded_n107 : GoodIn wsX4_nextHeight (wsX5_bounded) := ggX4_nextHeight_X5_bounded
set_option maxRecDepth 20000 in
theorem ggX4_keepFirsts_X4_loudnessOf : GoodIn wsX4_keepFirsts wsX4_loudnessOf := goodIn_r _ [8, 9, 10, 11, 12, 13, 14, 15, 16, 17, 18, 19, 20, 21] (by decide +kernel) (by decide +kernel)
set_option maxRecDepth 20000 in
theorem gX4_keepFirsts_X4_loudnessOf : GoodIn wsX4_keepFirsts (wsV RX4 110 RX4 yX4_loudnessOf wsX4_loudnessOf) := goodIn_app (goodIn_of _ (by decide +kernel)) ggX4_keepFirsts_X4_loudnessOf
set_option maxRecDepth 20000 in
theorem ggX4_slopeAt_X4_rise : GoodIn wsX4_slopeAt wsX4_rise := goodIn_r _ [6, 1, 7, 8, 9, 10, 11, 12, 13, 14, 15] (by decide +kernel) (by decide +kernel)
set_option maxRecDepth 20000 in
theorem gX4_slopeAt_X4_rise : GoodIn wsX4_slopeAt (wsV RX4 113 RX4 yX4_rise wsX4_rise) := goodIn_app (goodIn_of _ (by decide +kernel)) ggX4_slopeAt_X4_rise
set_option maxRecDepth 20000 in
theorem ggX4_heightAt_X5_isCell : GoodIn wsX4_heightAt wsX5_isCell := goodIn_r _ [4, 5, 6, 3, 7] (by decide +kernel) (by decide +kernel)
set_option maxRecDepth 20000 in
theorem gX4_heightAt_X5_isCell_n117 : GoodIn wsX4_heightAt (wsX5_isCell) := ggX4_heightAt_X5_isCell
set_option maxRecDepth 20000 in
theorem ggX4_heightAt_X5_placeOf : GoodIn wsX4_heightAt wsX5_placeOf := goodIn_r _ [9] (by decide +kernel) (by decide +kernel)
set_option maxRecDepth 20000 in
theorem gX4_heightAt_X5_placeOf_n121 : GoodIn wsX4_heightAt (wsX5_placeOf) := ggX4_heightAt_X5_placeOf
set_option maxRecDepth 20000 in
theorem ggX4_isStill_X4_loudnessOf : GoodIn wsX4_isStill wsX4_loudnessOf := goodIn_r _ [11, 12, 3, 4, 5, 6, 13, 14, 15, 16, 17, 18, 19, 20] (by decide +kernel) (by decide +kernel)
set_option maxRecDepth 20000 in
theorem gX4_isStill_X4_loudnessOf : GoodIn wsX4_isStill (wsV RX4 110 RX4 yX4_loudnessOf wsX4_loudnessOf) := goodIn_app (goodIn_of _ (by decide +kernel)) ggX4_isStill_X4_loudnessOf
set_option maxRecDepth 20000 in
theorem ggX4_isCrest_X4_heightAt : GoodIn wsX4_isCrest wsX4_heightAt := goodIn_r _ [5, 6, 7, 8, 9, 10, 11, 12, 13, 14, 15, 16, 17, 18, 19, 20, 21, 22] (by decide +kernel) (by decide +kernel)
set_option maxRecDepth 20000 in
theorem gX4_isCrest_X4_heightAt : GoodIn wsX4_isCrest (wsV RX4 129 RX4 yX4_heightAt wsX4_heightAt) := goodIn_app (goodIn_of _ (by decide +kernel)) ggX4_isCrest_X4_heightAt
set_option maxRecDepth 20000 in
theorem ggX4_restlessCells_X4_isStill : GoodIn wsX4_restlessCells wsX4_isStill := goodIn_r _ [6, 7, 8, 9, 10, 11, 12, 13, 14, 15, 5, 16, 17, 18, 19, 20, 21, 22, 23, 24, 25] (by decide +kernel) (by decide +kernel)
set_option maxRecDepth 20000 in
theorem gX4_restlessCells_X4_isStill : GoodIn wsX4_restlessCells (wsV RX4 132 RX4 yX4_isStill wsX4_isStill) := goodIn_app (goodIn_of _ (by decide +kernel)) ggX4_restlessCells_X4_isStill
set_option maxRecDepth 20000 in
theorem ggX4_loudness_X4_loudnessOf : GoodIn wsX4_loudness wsX4_loudnessOf := goodIn_r _ [5, 6, 7, 8, 9, 10, 11, 12, 13, 14, 15, 16, 17, 18] (by decide +kernel) (by decide +kernel)
set_option maxRecDepth 20000 in
theorem gX4_loudness_X4_loudnessOf : GoodIn wsX4_loudness (wsV RX4 110 RX4 yX4_loudnessOf wsX4_loudnessOf) := goodIn_app (goodIn_of _ (by decide +kernel)) ggX4_loudness_X4_loudnessOf
set_option maxRecDepth 20000 in
theorem ggX4_loudestCell_X4_loudnessOf : GoodIn wsX4_loudestCell wsX4_loudnessOf := goodIn_r _ [5, 6, 7, 8, 9, 10, 11, 12, 13, 14, 15, 16, 17, 18] (by decide +kernel) (by decide +kernel)
set_option maxRecDepth 20000 in
theorem gX4_loudestCell_X4_loudnessOf : GoodIn wsX4_loudestCell (wsV RX4 110 RX4 yX4_loudnessOf wsX4_loudnessOf) := goodIn_app (goodIn_of _ (by decide +kernel)) ggX4_loudestCell_X4_loudnessOf
set_option maxRecDepth 20000 in
theorem ggX5_init_X4_init : GoodIn wsX5_init wsX4_init := goodIn_r _ [22, 23, 2, 3, 24, 25, 26, 27, 28, 29, 30, 31, 32, 33, 34, 35, 36, 37, 38, 39, 40, 41, 42, 43, 44, 45, 46, 47, 48, 49, 50, 51, 52, 53, 54, 55, 56, 57, 58, 59, 60, 61, 62, 63, 64, 79, 80, 81, 82, 83, 84, 85, 86, 97, 98, 99, 100, 101, 102, 103, 104, 105] (by decide +kernel) (by decide +kernel)
set_option maxRecDepth 20000 in
theorem gX5_init_X4_init : GoodIn wsX5_init (wsX4_init) := ggX5_init_X4_init
set_option maxRecDepth 20000 in
theorem ggX5_init_X1_init : GoodIn wsX5_init wsX1_init := goodIn_r _ [67, 68, 2, 3, 69, 70, 71, 5, 6, 72, 21, 22, 23, 24, 25, 26, 27, 28, 29, 30, 31, 32, 33, 34, 35, 36, 37, 38, 39, 40, 41, 42, 43, 44, 45, 46, 47, 48, 49, 50, 51, 52, 53, 54, 55, 56, 57, 58, 59, 60, 61, 62, 63, 64, 93, 94, 79, 80, 81, 82, 83, 84, 85, 86, 97, 98, 99, 100, 101, 102, 103, 104, 105] (by decide +kernel) (by decide +kernel)
set_option maxRecDepth 20000 in
theorem gX5_init_X1_init : GoodIn wsX5_init (wsX1_init) := ggX5_init_X1_init
set_option maxRecDepth 20000 in
theorem ggX5_init_X2_init : GoodIn wsX5_init wsX2_init := goodIn_r _ [74, 75, 2, 3, 76, 77, 78, 95, 96] (by decide +kernel) (by decide +kernel)
set_option maxRecDepth 20000 in
theorem gX5_init_X2_init_n36 : GoodIn wsX5_init (wsX2_init) := ggX5_init_X2_init
set_option maxRecDepth 20000 in
theorem ggX5_set_X1_keep : GoodIn wsX5_set wsX1_keep := goodIn_r _ [10, 11, 12, 13, 14, 15, 9, 16, 17, 18, 19, 20, 21, 22, 23, 24, 25, 26, 27, 28, 29, 30, 31, 32, 33, 34, 35, 36, 37, 38, 39, 40, 41, 42, 43, 44, 45, 46, 47, 48, 49, 50, 51, 52, 53, 54, 69, 70, 61, 62, 63, 64, 65, 66, 67, 68, 71, 72, 73, 74, 75, 76, 77, 78, 79] (by decide +kernel) (by decide +kernel)
set_option maxRecDepth 20000 in
theorem gX5_set_X1_keep : GoodIn wsX5_set (wsV RX5 48 RX1 yX1_keep wsX1_keep) := goodIn_app (goodIn_of _ (by decide +kernel)) ggX5_set_X1_keep
set_option maxRecDepth 20000 in
theorem ggX5_floor_X5_isCell : GoodIn wsX5_floor wsX5_isCell := goodIn_r _ [8, 9, 10, 7, 11] (by decide +kernel) (by decide +kernel)
set_option maxRecDepth 20000 in
theorem gX5_floor_X5_isCell : GoodIn wsX5_floor (va_wsS RX5 55 yX5_isCell wsX5_isCell) := goodIn_app (goodIn_of _ (by decide +kernel)) ggX5_floor_X5_isCell
set_option maxRecDepth 20000 in
theorem ggX5_floor_X5_placeOf : GoodIn wsX5_floor wsX5_placeOf := goodIn_r _ [14] (by decide +kernel) (by decide +kernel)
set_option maxRecDepth 20000 in
theorem gX5_floor_X5_placeOf : GoodIn wsX5_floor (va_wsS RX5 59 yX5_placeOf wsX5_placeOf) := goodIn_app (goodIn_of _ (by decide +kernel)) ggX5_floor_X5_placeOf
set_option maxRecDepth 20000 in
theorem ggX5_floor_X0_lastIn : GoodIn wsX5_floor wsX0_lastIn := goodIn_r _ [19, 20, 21, 86, 87, 88, 89, 90] (by decide +kernel) (by decide +kernel)
set_option maxRecDepth 20000 in
theorem gX5_floor_X0_lastIn : GoodIn wsX5_floor (wsV RX5 67 RX0 yX0_lastIn wsX0_lastIn) := goodIn_app (goodIn_of _ (by decide +kernel)) ggX5_floor_X0_lastIn
set_option maxRecDepth 20000 in
theorem ggX5_floor_X1_keep : GoodIn wsX5_floor wsX1_keep := goodIn_r _ [26, 27, 28, 29, 30, 31, 25, 32, 33, 34, 35, 36, 37, 38, 39, 40, 41, 42, 43, 44, 45, 46, 47, 48, 49, 50, 51, 52, 18, 53, 21, 54, 55, 56, 57, 20, 58, 59, 60, 61, 62, 63, 64, 65, 66, 67, 91, 92, 78, 79, 80, 81, 82, 83, 84, 85, 86, 87, 88, 89, 90, 93, 94, 95, 96] (by decide +kernel) (by decide +kernel)
set_option maxRecDepth 20000 in
theorem gX5_floor_X1_keep : GoodIn wsX5_floor (wsV RX5 48 RX1 yX1_keep wsX1_keep) := goodIn_app (goodIn_of _ (by decide +kernel)) ggX5_floor_X1_keep
set_option maxRecDepth 20000 in
theorem ggX5_floor_X4_lay : GoodIn wsX5_floor wsX4_lay := goodIn_r _ [71, 43, 44, 45, 78, 79, 80, 81, 82, 83, 84, 85] (by decide +kernel) (by decide +kernel)
set_option maxRecDepth 20000 in
theorem gX5_floor_X4_lay : GoodIn wsX5_floor (wsV RX5 76 RX4 yX4_lay wsX4_lay) := goodIn_app (goodIn_of _ (by decide +kernel)) ggX5_floor_X4_lay
set_option maxRecDepth 20000 in
theorem ggX5_dip_X5_isCell : GoodIn wsX5_dip wsX5_isCell := goodIn_r _ [9, 10, 11, 8, 12] (by decide +kernel) (by decide +kernel)
set_option maxRecDepth 20000 in
theorem gX5_dip_X5_isCell : GoodIn wsX5_dip (va_wsS RX5 55 yX5_isCell wsX5_isCell) := goodIn_app (goodIn_of _ (by decide +kernel)) ggX5_dip_X5_isCell
set_option maxRecDepth 20000 in
theorem ggX5_dip_X5_isIn : GoodIn wsX5_dip wsX5_isIn := goodIn_r _ [12] (by decide +kernel) (by decide +kernel)
set_option maxRecDepth 20000 in
theorem gX5_dip_X5_isIn : GoodIn wsX5_dip (va_wsS RX5 101 yX5_isIn wsX5_isIn) := goodIn_app (goodIn_of _ (by decide +kernel)) ggX5_dip_X5_isIn
set_option maxRecDepth 20000 in
theorem ggX5_dip_X5_placeOf : GoodIn wsX5_dip wsX5_placeOf := goodIn_r _ [15] (by decide +kernel) (by decide +kernel)
set_option maxRecDepth 20000 in
theorem gX5_dip_X5_placeOf : GoodIn wsX5_dip (va_wsS RX5 59 yX5_placeOf wsX5_placeOf) := goodIn_app (goodIn_of _ (by decide +kernel)) ggX5_dip_X5_placeOf
set_option maxRecDepth 20000 in
theorem ggX5_dip_X1_keep : GoodIn wsX5_dip wsX1_keep := goodIn_r _ [20, 21, 22, 23, 24, 25, 19, 26, 27, 28, 29, 30, 31, 32, 33, 34, 35, 36, 37, 38, 39, 40, 41, 42, 43, 44, 45, 46, 47, 48, 49, 50, 51, 52, 53, 54, 55, 56, 57, 58, 59, 60, 61, 62, 63, 64, 88, 89, 75, 76, 77, 78, 79, 80, 81, 82, 83, 84, 85, 86, 87, 90, 91, 92, 93] (by decide +kernel) (by decide +kernel)
set_option maxRecDepth 20000 in
theorem gX5_dip_X1_keep : GoodIn wsX5_dip (wsV RX5 48 RX1 yX1_keep wsX1_keep) := goodIn_app (goodIn_of _ (by decide +kernel)) ggX5_dip_X1_keep
set_option maxRecDepth 20000 in
theorem ggX5_dip_X0_append : GoodIn wsX5_dip wsX0_append := goodIn_r _ [68, 49, 54, 51, 52, 53, 83, 84, 85, 86, 87] (by decide +kernel) (by decide +kernel)
set_option maxRecDepth 20000 in
theorem gX5_dip_X0_append : GoodIn wsX5_dip (wsV RX5 108 RX0 yX0_append wsX0_append) := goodIn_app (goodIn_of _ (by decide +kernel)) ggX5_dip_X0_append
set_option maxRecDepth 20000 in
theorem ggX5_takeOut_X5_isDipper : GoodIn wsX5_takeOut wsX5_isDipper := goodIn_r _ [9, 2, 3, 4, 10, 11, 8, 12, 66, 67, 68, 69, 70, 71, 72, 73, 74, 75, 76, 77, 78, 79, 80, 81, 82, 83, 84] (by decide +kernel) (by decide +kernel)
set_option maxRecDepth 20000 in
theorem gX5_takeOut_X5_isDipper : GoodIn wsX5_takeOut (wsV RX5 112 RX5 yX5_isDipper wsX5_isDipper) := goodIn_app (goodIn_of _ (by decide +kernel)) ggX5_takeOut_X5_isDipper
set_option maxRecDepth 20000 in
theorem ggX5_takeOut_X1_keep : GoodIn wsX5_takeOut wsX1_keep := goodIn_r _ [17, 18, 19, 20, 21, 22, 16, 23, 24, 25, 26, 27, 28, 29, 30, 31, 32, 33, 34, 35, 36, 37, 38, 39, 40, 41, 42, 43, 44, 45, 46, 47, 48, 49, 50, 51, 52, 53, 54, 55, 56, 57, 58, 59, 60, 61, 85, 86, 72, 73, 74, 75, 76, 77, 78, 79, 80, 81, 82, 83, 84, 87, 88, 89, 90] (by decide +kernel) (by decide +kernel)
set_option maxRecDepth 20000 in
theorem gX5_takeOut_X1_keep : GoodIn wsX5_takeOut (wsV RX5 48 RX1 yX1_keep wsX1_keep) := goodIn_app (goodIn_of _ (by decide +kernel)) ggX5_takeOut_X1_keep
set_option maxRecDepth 20000 in
theorem ggX5_takeOut_X0_remove : GoodIn wsX5_takeOut wsX0_remove := goodIn_r _ [65, 51, 46, 48, 49, 50, 80, 81, 82, 83, 84] (by decide +kernel) (by decide +kernel)
set_option maxRecDepth 20000 in
theorem gX5_takeOut_X0_remove : GoodIn wsX5_takeOut (wsV RX5 116 RX0 yX0_remove wsX0_remove) := goodIn_app (goodIn_of _ (by decide +kernel)) ggX5_takeOut_X0_remove
set_option maxRecDepth 20000 in
theorem ggX5_drop_X5_isCell : GoodIn wsX5_drop wsX5_isCell := goodIn_r _ [8, 9, 10, 7, 11] (by decide +kernel) (by decide +kernel)
set_option maxRecDepth 20000 in
theorem gX5_drop_X5_isCell : GoodIn wsX5_drop (va_wsS RX5 55 yX5_isCell wsX5_isCell) := goodIn_app (goodIn_of _ (by decide +kernel)) ggX5_drop_X5_isCell
set_option maxRecDepth 20000 in
theorem ggX5_drop_X5_isIn : GoodIn wsX5_drop wsX5_isIn := goodIn_r _ [11] (by decide +kernel) (by decide +kernel)
set_option maxRecDepth 20000 in
theorem gX5_drop_X5_isIn : GoodIn wsX5_drop (va_wsS RX5 101 yX5_isIn wsX5_isIn) := goodIn_app (goodIn_of _ (by decide +kernel)) ggX5_drop_X5_isIn
set_option maxRecDepth 20000 in
theorem ggX5_drop_X5_placeOf : GoodIn wsX5_drop wsX5_placeOf := goodIn_r _ [14] (by decide +kernel) (by decide +kernel)
set_option maxRecDepth 20000 in
theorem gX5_drop_X5_placeOf : GoodIn wsX5_drop (va_wsS RX5 59 yX5_placeOf wsX5_placeOf) := goodIn_app (goodIn_of _ (by decide +kernel)) ggX5_drop_X5_placeOf
set_option maxRecDepth 20000 in
theorem ggX5_drop_X1_keep : GoodIn wsX5_drop wsX1_keep := goodIn_r _ [19, 20, 21, 22, 23, 24, 18, 25, 26, 27, 28, 29, 30, 31, 32, 33, 34, 35, 36, 37, 38, 39, 40, 41, 42, 43, 44, 45, 46, 47, 48, 49, 50, 51, 52, 53, 54, 55, 56, 57, 58, 59, 60, 61, 62, 63, 88, 89, 80, 81, 82, 83, 84, 85, 86, 87, 90, 91, 92, 93, 94, 95, 96, 97, 98] (by decide +kernel) (by decide +kernel)
set_option maxRecDepth 20000 in
theorem gX5_drop_X1_keep : GoodIn wsX5_drop (wsV RX5 48 RX1 yX1_keep wsX1_keep) := goodIn_app (goodIn_of _ (by decide +kernel)) ggX5_drop_X1_keep
set_option maxRecDepth 20000 in
theorem ggX5_drop_X5_bounded : GoodIn wsX5_drop wsX5_bounded := goodIn_r _ [66, 67, 68, 69, 70, 71, 72, 73] (by decide +kernel) (by decide +kernel)
set_option maxRecDepth 20000 in
theorem gX5_drop_X5_bounded : GoodIn wsX5_drop (va_wsS RX5 123 yX5_bounded wsX5_bounded) := goodIn_app (goodIn_of _ (by decide +kernel)) ggX5_drop_X5_bounded
set_option maxRecDepth 20000 in
theorem ggX5_probe_X5_isCell : GoodIn wsX5_probe wsX5_isCell := goodIn_r _ [8, 9, 10, 7, 11] (by decide +kernel) (by decide +kernel)
set_option maxRecDepth 20000 in
theorem gX5_probe_X5_isCell : GoodIn wsX5_probe (va_wsS RX5 55 yX5_isCell wsX5_isCell) := goodIn_app (goodIn_of _ (by decide +kernel)) ggX5_probe_X5_isCell
set_option maxRecDepth 20000 in
theorem ggX5_probe_X1_keep : GoodIn wsX5_probe wsX1_keep := goodIn_r _ [16, 17, 18, 19, 20, 21, 15, 22, 23, 24, 25, 26, 27, 28, 29, 30, 31, 32, 33, 34, 35, 36, 37, 38, 39, 40, 41, 42, 43, 44, 45, 46, 47, 48, 49, 50, 51, 52, 53, 54, 55, 56, 57, 58, 59, 60, 86, 87, 74, 75, 76, 77, 78, 79, 80, 81, 88, 89, 90, 91, 92, 82, 83, 84, 85] (by decide +kernel) (by decide +kernel)
set_option maxRecDepth 20000 in
theorem gX5_probe_X1_keep : GoodIn wsX5_probe (wsV RX5 48 RX1 yX1_keep wsX1_keep) := goodIn_app (goodIn_of _ (by decide +kernel)) ggX5_probe_X1_keep
set_option maxRecDepth 20000 in
theorem ggX5_probe_X5_placeOf : GoodIn wsX5_probe wsX5_placeOf := goodIn_r _ [63] (by decide +kernel) (by decide +kernel)
set_option maxRecDepth 20000 in
theorem gX5_probe_X5_placeOf : GoodIn wsX5_probe (va_wsS RX5 59 yX5_placeOf wsX5_placeOf) := goodIn_app (goodIn_of _ (by decide +kernel)) ggX5_probe_X5_placeOf
set_option maxRecDepth 20000 in
theorem ggX5_probe_X3_append : GoodIn wsX5_probe wsX3_append := goodIn_r _ [67, 56, 60, 58, 82, 83, 84, 85] (by decide +kernel) (by decide +kernel)
set_option maxRecDepth 20000 in
theorem gX5_probe_X3_append : GoodIn wsX5_probe (wsV RX5 133 RX3 yX3_append wsX3_append) := goodIn_app (goodIn_of _ (by decide +kernel)) ggX5_probe_X3_append
set_option maxRecDepth 20000 in
theorem ggX5_pass_X5_isIn : GoodIn wsX5_pass wsX5_isIn := goodIn_r _ [8] (by decide +kernel) (by decide +kernel)
set_option maxRecDepth 20000 in
theorem gX5_pass_X5_isIn : GoodIn wsX5_pass (va_wsS RX5 101 yX5_isIn wsX5_isIn) := goodIn_app (goodIn_of _ (by decide +kernel)) ggX5_pass_X5_isIn
set_option maxRecDepth 20000 in
theorem ggX5_pass_X1_keep : GoodIn wsX5_pass wsX1_keep := goodIn_r _ [13, 14, 15, 16, 17, 18, 12, 19, 20, 21, 22, 23, 24, 25, 26, 27, 28, 29, 30, 31, 32, 33, 34, 35, 36, 37, 38, 39, 40, 41, 42, 43, 44, 45, 46, 47, 48, 49, 50, 51, 52, 53, 54, 55, 56, 57, 133, 134, 125, 126, 127, 128, 129, 130, 131, 132, 135, 136, 137, 138, 139, 140, 141, 142, 143] (by decide +kernel) (by decide +kernel)
set_option maxRecDepth 20000 in
theorem gX5_pass_X1_keep : GoodIn wsX5_pass (wsV RX5 48 RX1 yX1_keep wsX1_keep) := goodIn_app (goodIn_of _ (by decide +kernel)) ggX5_pass_X1_keep
set_option maxRecDepth 20000 in
theorem ggX5_pass_X4_run : GoodIn wsX5_pass wsX4_run := goodIn_r _ [61, 62, 63, 64, 23, 65, 32, 30, 34, 36, 31, 35, 66, 67, 68, 69, 25, 70, 71, 72, 73, 74, 75, 76, 77, 78, 7, 79, 80, 81, 82, 83, 84, 85, 86, 87, 88, 89, 40, 90, 47, 42, 45, 91, 92, 93, 94, 44, 46, 95, 96, 97, 98, 33, 99, 100, 101, 102, 103, 104, 105, 106, 107, 108, 51, 109, 57, 56, 54, 27, 28, 29, 53, 55, 110, 125, 126, 127, 128, 129, 130, 131, 132, 135, 136, 137, 138, 139, 140, 141, 142, 143] (by decide +kernel) (by decide +kernel)
set_option maxRecDepth 20000 in
theorem gX5_pass_X4_run : GoodIn wsX5_pass (wsV RX5 139 RX4 yX4_run wsX4_run) := goodIn_app (goodIn_of _ (by decide +kernel)) ggX5_pass_X4_run
set_option maxRecDepth 20000 in
theorem ggX5_pass_X4_restlessCells : GoodIn wsX5_pass wsX4_restlessCells := goodIn_r _ [114, 30, 115, 116, 117, 23, 118, 25, 32, 103, 104, 82, 105, 99, 100, 101, 102, 31, 125, 126, 127, 128, 129, 130, 131, 132] (by decide +kernel) (by decide +kernel)
set_option maxRecDepth 20000 in
theorem gX5_pass_X4_restlessCells : GoodIn wsX5_pass (wsV RX5 142 RX4 yX4_restlessCells wsX4_restlessCells) := goodIn_app (goodIn_of _ (by decide +kernel)) ggX5_pass_X4_restlessCells
set_option maxRecDepth 20000 in
theorem ggX5_cell_X5_isCell : GoodIn wsX5_cell wsX5_isCell := goodIn_r _ [11, 12, 13, 10, 14] (by decide +kernel) (by decide +kernel)
set_option maxRecDepth 20000 in
theorem gX5_cell_X5_isCell : GoodIn wsX5_cell (va_wsS RX5 55 yX5_isCell wsX5_isCell) := goodIn_app (goodIn_of _ (by decide +kernel)) ggX5_cell_X5_isCell
set_option maxRecDepth 20000 in
theorem ggX5_cell_X5_placeOf : GoodIn wsX5_cell wsX5_placeOf := goodIn_r _ [17] (by decide +kernel) (by decide +kernel)
set_option maxRecDepth 20000 in
theorem gX5_cell_X5_placeOf : GoodIn wsX5_cell (va_wsS RX5 59 yX5_placeOf wsX5_placeOf) := goodIn_app (goodIn_of _ (by decide +kernel)) ggX5_cell_X5_placeOf
set_option maxRecDepth 20000 in
theorem ggX5_cell_X4_slopeAt : GoodIn wsX5_cell wsX4_slopeAt := goodIn_r _ [22, 23, 24, 25, 26, 21, 27, 28, 56, 57, 58, 59, 60, 61, 62, 63] (by decide +kernel) (by decide +kernel)
set_option maxRecDepth 20000 in
theorem gX5_cell_X4_slopeAt : GoodIn wsX5_cell (wsV RX5 148 RX4 yX4_slopeAt wsX4_slopeAt) := goodIn_app (goodIn_of _ (by decide +kernel)) ggX5_cell_X4_slopeAt
set_option maxRecDepth 20000 in
theorem ggX5_cell_X4_isStill : GoodIn wsX5_cell wsX4_isStill := goodIn_r _ [32, 33, 34, 35, 36, 37, 38, 39, 40, 41, 21, 42, 28, 56, 57, 58, 59, 60, 61, 62, 63] (by decide +kernel) (by decide +kernel)
set_option maxRecDepth 20000 in
theorem gX5_cell_X4_isStill : GoodIn wsX5_cell (wsV RX5 151 RX4 yX4_isStill wsX4_isStill) := goodIn_app (goodIn_of _ (by decide +kernel)) ggX5_cell_X4_isStill
set_option maxRecDepth 20000 in
theorem ggX5_cell_X0_lastIn : GoodIn wsX5_cell wsX0_lastIn := goodIn_r _ [47, 48, 49, 64, 65, 66, 67, 68] (by decide +kernel) (by decide +kernel)
set_option maxRecDepth 20000 in
theorem gX5_cell_X0_lastIn : GoodIn wsX5_cell (wsV RX5 67 RX0 yX0_lastIn wsX0_lastIn) := goodIn_app (goodIn_of _ (by decide +kernel)) ggX5_cell_X0_lastIn
set_option maxRecDepth 20000 in
theorem ggX5_ofProbe_X5_isProbe : GoodIn wsX5_ofProbe wsX5_isProbe := goodIn_r _ [9, 1, 2, 10, 11, 12, 8, 13, 36, 37, 38, 39, 40, 41, 42, 43, 44, 45, 46, 47, 48, 49, 50, 51, 52, 53] (by decide +kernel) (by decide +kernel)
set_option maxRecDepth 20000 in
theorem gX5_ofProbe_X5_isProbe : GoodIn wsX5_ofProbe (wsV RX5 172 RX5 yX5_isProbe wsX5_isProbe) := goodIn_app (goodIn_of _ (by decide +kernel)) ggX5_ofProbe_X5_isProbe
set_option maxRecDepth 20000 in
theorem ggX5_ofProbe_X3_beatOf : GoodIn wsX5_ofProbe wsX3_beatOf := goodIn_r _ [18, 19, 20, 21, 22, 17, 23, 24, 25, 26, 27, 28, 50, 51, 52, 53] (by decide +kernel) (by decide +kernel)
set_option maxRecDepth 20000 in
theorem gX5_ofProbe_X3_beatOf : GoodIn wsX5_ofProbe (wsV RX5 179 RX3 yX3_beatOf wsX3_beatOf) := goodIn_app (goodIn_of _ (by decide +kernel)) ggX5_ofProbe_X3_beatOf
set_option maxRecDepth 20000 in
theorem ggX5_ofProbe_X3_greatestOf : GoodIn wsX5_ofProbe wsX3_greatestOf := goodIn_r _ [32, 24, 19, 33, 34, 27, 35, 50, 51, 52, 53] (by decide +kernel) (by decide +kernel)
set_option maxRecDepth 20000 in
theorem gX5_ofProbe_X3_greatestOf : GoodIn wsX5_ofProbe (wsV RX5 182 RX3 yX3_greatestOf wsX3_greatestOf) := goodIn_app (goodIn_of _ (by decide +kernel)) ggX5_ofProbe_X3_greatestOf
set_option maxRecDepth 20000 in
theorem ggX5_seen_X5_isProbe : GoodIn wsX5_seen wsX5_isProbe := goodIn_r _ [9, 1, 2, 10, 11, 12, 8, 13, 14, 15, 16, 17, 18, 19, 20, 21, 22, 23, 24, 25, 26, 27, 28, 29, 30, 31] (by decide +kernel) (by decide +kernel)
set_option maxRecDepth 20000 in
theorem gX5_seen_X5_isProbe : GoodIn wsX5_seen (wsV RX5 172 RX5 yX5_isProbe wsX5_isProbe) := goodIn_app (goodIn_of _ (by decide +kernel)) ggX5_seen_X5_isProbe
set_option maxRecDepth 20000 in
theorem ggX5_seen_X5_isIn : GoodIn wsX5_seen wsX5_isIn := goodIn_r _ [13] (by decide +kernel) (by decide +kernel)
set_option maxRecDepth 20000 in
theorem gX5_seen_X5_isIn : GoodIn wsX5_seen (va_wsS RX5 101 yX5_isIn wsX5_isIn) := goodIn_app (goodIn_of _ (by decide +kernel)) ggX5_seen_X5_isIn
set_option maxRecDepth 20000 in
theorem ggX5_count_X4_openCells : GoodIn wsX5_count wsX4_openCells := goodIn_r _ [17, 18, 62, 63, 64, 65, 66, 67, 68, 69] (by decide +kernel) (by decide +kernel)
set_option maxRecDepth 20000 in
theorem gX5_count_X4_openCells : GoodIn wsX5_count (wsV RX5 92 RX4 yX4_openCells wsX4_openCells) := goodIn_app (goodIn_of _ (by decide +kernel)) ggX5_count_X4_openCells
set_option maxRecDepth 20000 in
theorem ggX5_count_X4_restlessCells : GoodIn wsX5_count wsX4_restlessCells := goodIn_r _ [22, 18, 23, 24, 25, 16, 26, 27, 28, 29, 30, 31, 32, 33, 34, 35, 36, 37, 62, 63, 64, 65, 66, 67, 68, 69] (by decide +kernel) (by decide +kernel)
set_option maxRecDepth 20000 in
theorem gX5_count_X4_restlessCells : GoodIn wsX5_count (wsV RX5 142 RX4 yX4_restlessCells wsX4_restlessCells) := goodIn_app (goodIn_of _ (by decide +kernel)) ggX5_count_X4_restlessCells
set_option maxRecDepth 20000 in
theorem ggX5_count_X4_sum : GoodIn wsX5_count wsX4_sum := goodIn_r _ [41, 37, 62, 63, 64, 65, 66, 67, 68, 69] (by decide +kernel) (by decide +kernel)
set_option maxRecDepth 20000 in
theorem gX5_count_X4_sum : GoodIn wsX5_count (wsV RX5 188 RX4 yX4_sum wsX4_sum) := goodIn_app (goodIn_of _ (by decide +kernel)) ggX5_count_X4_sum
set_option maxRecDepth 20000 in
theorem ggX5_count_X4_loudness : GoodIn wsX5_count wsX4_loudness := goodIn_r _ [45, 33, 34, 35, 16, 36, 37, 29, 30, 31, 32, 62, 63, 64, 65, 66, 67, 68, 69] (by decide +kernel) (by decide +kernel)
set_option maxRecDepth 20000 in
theorem gX5_count_X4_loudness : GoodIn wsX5_count (wsV RX5 95 RX4 yX4_loudness wsX4_loudness) := goodIn_app (goodIn_of _ (by decide +kernel)) ggX5_count_X4_loudness
set_option maxRecDepth 20000 in
theorem ggX5_count_X4_loudestCell : GoodIn wsX5_count wsX4_loudestCell := goodIn_r _ [49, 33, 34, 35, 16, 36, 37, 29, 30, 31, 32, 62, 63, 64, 65, 66, 67, 68, 69] (by decide +kernel) (by decide +kernel)
set_option maxRecDepth 20000 in
theorem gX5_count_X4_loudestCell : GoodIn wsX5_count (wsV RX5 192 RX4 yX4_loudestCell wsX4_loudestCell) := goodIn_app (goodIn_of _ (by decide +kernel)) ggX5_count_X4_loudestCell
set_option maxRecDepth 20000 in
theorem ggX5_count_X4_loudnessOf : GoodIn wsX5_count wsX4_loudnessOf := goodIn_r _ [36, 37, 29, 30, 31, 32, 62, 63, 64, 65, 66, 67, 68, 69] (by decide +kernel) (by decide +kernel)
set_option maxRecDepth 20000 in
theorem gX5_count_X4_loudnessOf : GoodIn wsX5_count (wsV RX5 195 RX4 yX4_loudnessOf wsX4_loudnessOf) := goodIn_app (goodIn_of _ (by decide +kernel)) ggX5_count_X4_loudnessOf
set_option maxRecDepth 20000 in
theorem ggX5_count_X4_reachedCells : GoodIn wsX5_count wsX4_reachedCells := goodIn_r _ [54, 55, 62, 63, 64, 65, 66, 67, 68, 69] (by decide +kernel) (by decide +kernel)
set_option maxRecDepth 20000 in
theorem gX5_count_X4_reachedCells : GoodIn wsX5_count (wsV RX5 198 RX4 yX4_reachedCells wsX4_reachedCells) := goodIn_app (goodIn_of _ (by decide +kernel)) ggX5_count_X4_reachedCells
set_option maxRecDepth 20000 in
theorem ggX5_loudest_X5_isIn : GoodIn wsX5_loudest wsX5_isIn := goodIn_r _ [5] (by decide +kernel) (by decide +kernel)
set_option maxRecDepth 20000 in
theorem gX5_loudest_X5_isIn : GoodIn wsX5_loudest (va_wsS RX5 101 yX5_isIn wsX5_isIn) := goodIn_app (goodIn_of _ (by decide +kernel)) ggX5_loudest_X5_isIn
set_option maxRecDepth 20000 in
theorem ggX5_loudest_X4_loudestCell : GoodIn wsX5_loudest wsX4_loudestCell := goodIn_r _ [10, 11, 12, 13, 9, 14, 15, 16, 17, 18, 19, 27, 28, 29, 30, 31, 32, 33, 34] (by decide +kernel) (by decide +kernel)
set_option maxRecDepth 20000 in
theorem gX5_loudest_X4_loudestCell : GoodIn wsX5_loudest (wsV RX5 192 RX4 yX4_loudestCell wsX4_loudestCell) := goodIn_app (goodIn_of _ (by decide +kernel)) ggX5_loudest_X4_loudestCell
set_option maxRecDepth 20000 in
theorem ggX5_loudest_X4_loudnessOf : GoodIn wsX5_loudest wsX4_loudnessOf := goodIn_r _ [14, 15, 16, 17, 18, 19, 27, 28, 29, 30, 31, 32, 33, 34] (by decide +kernel) (by decide +kernel)
set_option maxRecDepth 20000 in
theorem gX5_loudest_X4_loudnessOf : GoodIn wsX5_loudest (wsV RX5 195 RX4 yX4_loudnessOf wsX4_loudnessOf) := goodIn_app (goodIn_of _ (by decide +kernel)) ggX5_loudest_X4_loudnessOf
set_option maxRecDepth 20000 in
theorem ggX5_crests_X5_isIn : GoodIn wsX5_crests wsX5_isIn := goodIn_r _ [5] (by decide +kernel) (by decide +kernel)
set_option maxRecDepth 20000 in
theorem gX5_crests_X5_isIn : GoodIn wsX5_crests (va_wsS RX5 101 yX5_isIn wsX5_isIn) := goodIn_app (goodIn_of _ (by decide +kernel)) ggX5_crests_X5_isIn
set_option maxRecDepth 20000 in
theorem ggX5_crests_X4_isCrest : GoodIn wsX5_crests wsX4_isCrest := goodIn_r _ [10, 11, 12, 13, 9, 14, 15, 16, 4, 17, 2, 3, 5, 18, 19, 26, 27, 28, 29, 30, 31, 32, 33] (by decide +kernel) (by decide +kernel)
set_option maxRecDepth 20000 in
theorem gX5_crests_X4_isCrest : GoodIn wsX5_crests (wsV RX5 202 RX4 yX4_isCrest wsX4_isCrest) := goodIn_app (goodIn_of _ (by decide +kernel)) ggX5_crests_X4_isCrest
set_option maxRecDepth 20000 in
theorem ggX5_isDipper_X5_isIn : GoodIn wsX5_isDipper wsX5_isIn := goodIn_r _ [7] (by decide +kernel) (by decide +kernel)
set_option maxRecDepth 20000 in
theorem gX5_isDipper_X5_isIn : GoodIn wsX5_isDipper (va_wsS RX5 101 yX5_isIn wsX5_isIn) := goodIn_app (goodIn_of _ (by decide +kernel)) ggX5_isDipper_X5_isIn
set_option maxRecDepth 20000 in
theorem ggX5_isProbe_X5_isIn : GoodIn wsX5_isProbe wsX5_isIn := goodIn_r _ [7] (by decide +kernel) (by decide +kernel)
set_option maxRecDepth 20000 in
theorem gX5_isProbe_X5_isIn : GoodIn wsX5_isProbe (va_wsS RX5 101 yX5_isIn wsX5_isIn) := goodIn_app (goodIn_of _ (by decide +kernel)) ggX5_isProbe_X5_isIn
set_option maxRecDepth 20000 in
theorem ggX5_isCell_X5_isIn : GoodIn wsX5_isCell wsX5_isIn := goodIn_r _ [4] (by decide +kernel) (by decide +kernel)
set_option maxRecDepth 20000 in
theorem gX5_isCell_X5_isIn : GoodIn wsX5_isCell (va_wsS RX5 101 yX5_isIn wsX5_isIn) := goodIn_app (goodIn_of _ (by decide +kernel)) ggX5_isCell_X5_isIn
set_option maxRecDepth 20000 in
theorem ggL_slope_L_at : GoodIn wsL_slope wsL_at := goodIn_r _ [4] (by decide +kernel) (by decide +kernel)
set_option maxRecDepth 20000 in
theorem gL_slope_L_at : GoodIn wsL_slope (va_wsS RL 10 yL_at wsL_at) := goodIn_app (goodIn_of _ (by decide +kernel)) ggL_slope_L_at
set_option maxRecDepth 20000 in
theorem ggL_tick_L_slope : GoodIn wsL_tick wsL_slope := goodIn_r _ [5, 6, 7, 4, 8] (by decide +kernel) (by decide +kernel)
set_option maxRecDepth 20000 in
theorem gL_tick_L_slope : GoodIn wsL_tick (va_wsS RL 16 yL_slope wsL_slope) := goodIn_app (goodIn_of _ (by decide +kernel)) ggL_tick_L_slope
set_option maxRecDepth 20000 in
theorem ggL_tick_L_amount : GoodIn wsL_tick wsL_amount := goodIn_r _ [11] (by decide +kernel) (by decide +kernel)
set_option maxRecDepth 20000 in
theorem gL_tick_L_amount : GoodIn wsL_tick (va_wsS RL 20 yL_amount wsL_amount) := goodIn_app (goodIn_of _ (by decide +kernel)) ggL_tick_L_amount
set_option maxRecDepth 20000 in
theorem ggL_isStill_L_amount : GoodIn wsL_isStill wsL_amount := goodIn_r _ [4] (by decide +kernel) (by decide +kernel)
set_option maxRecDepth 20000 in
theorem gL_isStill_L_amount : GoodIn wsL_isStill (va_wsS RL 20 yL_amount wsL_amount) := goodIn_app (goodIn_of _ (by decide +kernel)) ggL_isStill_L_amount
