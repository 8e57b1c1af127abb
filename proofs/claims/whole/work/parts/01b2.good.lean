set_option maxRecDepth 20000 in
theorem ggX6_slope_X6_isWall : GoodIn wsX6_slope wsX6_isWall := goodIn_r _ [5, 6, 21, 22, 23, 24, 25, 26, 27, 28, 29] (by decide +kernel) (by decide +kernel)
set_option maxRecDepth 20000 in
theorem gX6_slope_X6_isWall : GoodIn wsX6_slope (wsV RX6 65 RX6 yX6_isWall wsX6_isWall) := goodIn_app (goodIn_of _ (by decide +kernel)) ggX6_slope_X6_isWall
set_option maxRecDepth 20000 in
theorem ggX6_slope_X6_from : GoodIn wsX6_slope wsX6_from := goodIn_r _ [10, 11, 12, 4, 13, 14, 15, 16, 1, 2, 3, 5, 6, 17, 18, 19, 20, 21, 22, 23, 24, 25, 26, 27, 28, 29] (by decide +kernel) (by decide +kernel)
set_option maxRecDepth 20000 in
theorem gX6_slope_X6_from : GoodIn wsX6_slope (wsV RX6 100 RX6 yX6_from wsX6_from) := goodIn_app (goodIn_of _ (by decide +kernel)) ggX6_slope_X6_from
set_option maxRecDepth 20000 in
theorem ggX6_isUp_X6_ofDipper : GoodIn wsX6_isUp wsX6_ofDipper := goodIn_r _ [6, 1, 7, 8, 9, 10, 11, 12, 13, 14, 15] (by decide +kernel) (by decide +kernel)
set_option maxRecDepth 20000 in
theorem gX6_isUp_X6_ofDipper : GoodIn wsX6_isUp (wsV RX6 54 RX6 yX6_ofDipper wsX6_ofDipper) := goodIn_app (goodIn_of _ (by decide +kernel)) ggX6_isUp_X6_ofDipper
set_option maxRecDepth 20000 in
theorem ggX6_heightThen_X6_isWall : GoodIn wsX6_heightThen wsX6_isWall := goodIn_r _ [6, 1, 40, 41, 42, 43, 44, 45, 46, 47, 48] (by decide +kernel) (by decide +kernel)
set_option maxRecDepth 20000 in
theorem gX6_heightThen_X6_isWall : GoodIn wsX6_heightThen (wsV RX6 65 RX6 yX6_isWall wsX6_isWall) := goodIn_app (goodIn_of _ (by decide +kernel)) ggX6_heightThen_X6_isWall
set_option maxRecDepth 20000 in
theorem ggX6_heightThen_X6_dipperIn : GoodIn wsX6_heightThen wsX6_dipperIn := goodIn_r _ [10, 1, 11, 12, 13, 5, 14, 40, 41, 42, 43, 44, 45, 46, 47, 48] (by decide +kernel) (by decide +kernel)
set_option maxRecDepth 20000 in
theorem gX6_heightThen_X6_dipperIn : GoodIn wsX6_heightThen (wsV RX6 62 RX6 yX6_dipperIn wsX6_dipperIn) := goodIn_app (goodIn_of _ (by decide +kernel)) ggX6_heightThen_X6_dipperIn
set_option maxRecDepth 20000 in
theorem ggX6_heightThen_X6_isUp : GoodIn wsX6_heightThen wsX6_isUp := goodIn_r _ [18, 1, 11, 12, 13, 5, 14, 40, 41, 42, 43, 44, 45, 46, 47, 48] (by decide +kernel) (by decide +kernel)
set_option maxRecDepth 20000 in
theorem gX6_heightThen_X6_isUp : GoodIn wsX6_heightThen (wsV RX6 104 RX6 yX6_isUp wsX6_isUp) := goodIn_app (goodIn_of _ (by decide +kernel)) ggX6_heightThen_X6_isUp
set_option maxRecDepth 20000 in
theorem ggX6_heightThen_X6_ofDipper : GoodIn wsX6_heightThen wsX6_ofDipper := goodIn_r _ [14, 1, 40, 41, 42, 43, 44, 45, 46, 47, 48] (by decide +kernel) (by decide +kernel)
set_option maxRecDepth 20000 in
theorem gX6_heightThen_X6_ofDipper : GoodIn wsX6_heightThen (wsV RX6 54 RX6 yX6_ofDipper wsX6_ofDipper) := goodIn_app (goodIn_of _ (by decide +kernel)) ggX6_heightThen_X6_ofDipper
set_option maxRecDepth 20000 in
theorem ggX6_heightThen_X6_now : GoodIn wsX6_heightThen wsX6_now := goodIn_r _ [22, 1, 40, 41, 42, 43, 44, 45, 46, 47, 48] (by decide +kernel) (by decide +kernel)
set_option maxRecDepth 20000 in
theorem gX6_heightThen_X6_now : GoodIn wsX6_heightThen (wsV RX6 85 RX6 yX6_now wsX6_now) := goodIn_app (goodIn_of _ (by decide +kernel)) ggX6_heightThen_X6_now
set_option maxRecDepth 20000 in
theorem ggX6_heightThen_X6_slope : GoodIn wsX6_heightThen wsX6_slope := goodIn_r _ [26, 2, 3, 4, 5, 6, 1, 27, 28, 29, 30, 31, 32, 33, 34, 35, 36, 19, 20, 21, 22, 40, 41, 42, 43, 44, 45, 46, 47, 48] (by decide +kernel) (by decide +kernel)
set_option maxRecDepth 20000 in
theorem gX6_heightThen_X6_slope : GoodIn wsX6_heightThen (wsV RX6 107 RX6 yX6_slope wsX6_slope) := goodIn_app (goodIn_of _ (by decide +kernel)) ggX6_heightThen_X6_slope
set_option maxRecDepth 20000 in
theorem ggX6_heightThen_X6_kept : GoodIn wsX6_heightThen wsX6_kept := goodIn_r _ [39] (by decide +kernel) (by decide +kernel)
set_option maxRecDepth 20000 in
theorem gX6_heightThen_X6_kept : GoodIn wsX6_heightThen (va_wsS RX6 97 yX6_kept wsX6_kept) := goodIn_app (goodIn_of _ (by decide +kernel)) ggX6_heightThen_X6_kept
set_option maxRecDepth 20000 in
theorem ggX6_see_X6_now : GoodIn wsX6_see wsX6_now := goodIn_r _ [6, 1, 7, 8, 9, 10, 11, 12, 13, 14, 15] (by decide +kernel) (by decide +kernel)
set_option maxRecDepth 20000 in
theorem gX6_see_X6_now : GoodIn wsX6_see (wsV RX6 85 RX6 yX6_now wsX6_now) := goodIn_app (goodIn_of _ (by decide +kernel)) ggX6_see_X6_now
set_option maxRecDepth 20000 in
theorem ggX6_tick_X6_heightThen : GoodIn wsX6_tick wsX6_heightThen := goodIn_r _ [7, 2, 8, 9, 10, 6, 11, 12, 13, 14, 15, 16, 17, 18, 19, 20, 21, 22, 23, 24, 25, 26, 27, 28, 29, 30, 31, 32, 33, 34, 35, 36, 37, 38, 39, 40, 41, 42, 43, 44, 52, 53, 54, 55, 56, 57, 58, 59, 60] (by decide +kernel) (by decide +kernel)
set_option maxRecDepth 20000 in
theorem gX6_tick_X6_heightThen : GoodIn wsX6_tick (wsV RX6 110 RX6 yX6_heightThen wsX6_heightThen) := goodIn_app (goodIn_of _ (by decide +kernel)) ggX6_tick_X6_heightThen
set_option maxRecDepth 20000 in
theorem ggX6_tick_X6_now : GoodIn wsX6_tick wsX6_now := goodIn_r _ [27, 2, 52, 53, 54, 55, 56, 57, 58, 59, 60] (by decide +kernel) (by decide +kernel)
set_option maxRecDepth 20000 in
theorem gX6_tick_X6_now : GoodIn wsX6_tick (wsV RX6 85 RX6 yX6_now wsX6_now) := goodIn_app (goodIn_of _ (by decide +kernel)) ggX6_tick_X6_now
set_option maxRecDepth 20000 in
theorem ggX6_tick_X6_size : GoodIn wsX6_tick wsX6_size := goodIn_r _ [47] (by decide +kernel) (by decide +kernel)
set_option maxRecDepth 20000 in
theorem gX6_tick_X6_size : GoodIn wsX6_tick (va_wsS RX6 88 yX6_size wsX6_size) := goodIn_app (goodIn_of _ (by decide +kernel)) ggX6_tick_X6_size
set_option maxRecDepth 20000 in
theorem ggX6_tick_X6_see : GoodIn wsX6_tick wsX6_see := goodIn_r _ [51, 2, 24, 25, 26, 6, 27, 52, 53, 54, 55, 56, 57, 58, 59, 60] (by decide +kernel) (by decide +kernel)
set_option maxRecDepth 20000 in
theorem gX6_tick_X6_see : GoodIn wsX6_tick (wsV RX6 113 RX6 yX6_see wsX6_see) := goodIn_app (goodIn_of _ (by decide +kernel)) ggX6_tick_X6_see
set_option maxRecDepth 20000 in
theorem ggX6_isStill_X6_now : GoodIn wsX6_isStill wsX6_now := goodIn_r _ [6, 1, 10, 11, 12, 13, 14, 15, 16, 17, 18] (by decide +kernel) (by decide +kernel)
set_option maxRecDepth 20000 in
theorem gX6_isStill_X6_now : GoodIn wsX6_isStill (wsV RX6 85 RX6 yX6_now wsX6_now) := goodIn_app (goodIn_of _ (by decide +kernel)) ggX6_isStill_X6_now
set_option maxRecDepth 20000 in
theorem ggX6_isStill_X6_size : GoodIn wsX6_isStill wsX6_size := goodIn_r _ [9] (by decide +kernel) (by decide +kernel)
set_option maxRecDepth 20000 in
theorem gX6_isStill_X6_size : GoodIn wsX6_isStill (va_wsS RX6 88 yX6_size wsX6_size) := goodIn_app (goodIn_of _ (by decide +kernel)) ggX6_isStill_X6_size
set_option maxRecDepth 20000 in
theorem ggX6_stillOnes_X6_isWall : GoodIn wsX6_stillOnes wsX6_isWall := goodIn_r _ [5, 6, 18, 19, 20, 21, 22, 23, 24, 25, 26] (by decide +kernel) (by decide +kernel)
set_option maxRecDepth 20000 in
theorem gX6_stillOnes_X6_isWall : GoodIn wsX6_stillOnes (wsV RX6 65 RX6 yX6_isWall wsX6_isWall) := goodIn_app (goodIn_of _ (by decide +kernel)) ggX6_stillOnes_X6_isWall
set_option maxRecDepth 20000 in
theorem ggX6_stillOnes_X6_isStill : GoodIn wsX6_stillOnes wsX6_isStill := goodIn_r _ [10, 6, 11, 12, 13, 4, 14, 15, 16, 17, 18, 19, 20, 21, 22, 23, 24, 25, 26] (by decide +kernel) (by decide +kernel)
set_option maxRecDepth 20000 in
theorem gX6_stillOnes_X6_isStill : GoodIn wsX6_stillOnes (wsV RX6 117 RX6 yX6_isStill wsX6_isStill) := goodIn_app (goodIn_of _ (by decide +kernel)) ggX6_stillOnes_X6_isStill
set_option maxRecDepth 20000 in
theorem ggX6_ticks_X6_tick : GoodIn wsX6_ticks wsX6_tick := goodIn_r _ [5, 6, 7, 8, 9, 10, 4, 11, 12, 13, 14, 15, 16, 17, 18, 19, 20, 21, 22, 23, 24, 25, 26, 27, 28, 29, 30, 31, 32, 33, 34, 35, 36, 37, 38, 39, 40, 41, 42, 43, 44, 45, 46, 47, 48, 49, 50, 51, 52, 53, 54, 55, 56, 57, 58, 59, 60, 61, 62, 63, 64] (by decide +kernel) (by decide +kernel)
set_option maxRecDepth 20000 in
theorem gX6_ticks_X6_tick : GoodIn wsX6_ticks (wsV RX6 120 RX6 yX6_tick wsX6_tick) := goodIn_app (goodIn_of _ (by decide +kernel)) ggX6_ticks_X6_tick
set_option maxRecDepth 20000 in
theorem ggX6_pass_X6_in : GoodIn wsX6_pass wsX6_in := goodIn_r _ [6] (by decide +kernel) (by decide +kernel)
set_option maxRecDepth 20000 in
theorem gX6_pass_X6_in : GoodIn wsX6_pass (va_wsS RX6 36 yX6_in wsX6_in) := goodIn_app (goodIn_of _ (by decide +kernel)) ggX6_pass_X6_in
set_option maxRecDepth 20000 in
theorem ggX6_pass_X6_record : GoodIn wsX6_pass wsX6_record := goodIn_r _ [10, 11, 12, 1, 79, 80, 81, 82, 83, 84, 85, 86, 87] (by decide +kernel) (by decide +kernel)
set_option maxRecDepth 20000 in
theorem gX6_pass_X6_record : GoodIn wsX6_pass (wsV RX6 44 RX6 yX6_record wsX6_record) := goodIn_app (goodIn_of _ (by decide +kernel)) ggX6_pass_X6_record
set_option maxRecDepth 20000 in
theorem ggX6_pass_X6_ticks : GoodIn wsX6_pass wsX6_ticks := goodIn_r _ [16, 17, 18, 19, 5, 20, 21, 1, 22, 23, 24, 25, 26, 27, 28, 29, 30, 31, 32, 33, 34, 35, 36, 37, 38, 39, 40, 41, 42, 43, 44, 45, 46, 47, 48, 49, 50, 51, 52, 53, 54, 55, 56, 3, 4, 6, 57, 58, 59, 60, 61, 62, 63, 64, 65, 66, 79, 80, 81, 82, 83, 84, 85, 86, 87] (by decide +kernel) (by decide +kernel)
set_option maxRecDepth 20000 in
theorem gX6_pass_X6_ticks : GoodIn wsX6_pass (wsV RX6 124 RX6 yX6_ticks wsX6_ticks) := goodIn_app (goodIn_of _ (by decide +kernel)) ggX6_pass_X6_ticks
set_option maxRecDepth 20000 in
theorem ggX6_pass_X6_water : GoodIn wsX6_pass wsX6_water := goodIn_r _ [70, 26, 27, 28, 5, 29, 1, 79, 80, 81, 82, 83, 84, 85, 86, 87] (by decide +kernel) (by decide +kernel)
set_option maxRecDepth 20000 in
theorem gX6_pass_X6_water : GoodIn wsX6_pass (wsV RX6 82 RX6 yX6_water wsX6_water) := goodIn_app (goodIn_of _ (by decide +kernel)) ggX6_pass_X6_water
set_option maxRecDepth 20000 in
theorem ggX6_pass_X6_stillOnes : GoodIn wsX6_pass wsX6_stillOnes := goodIn_r _ [74, 26, 27, 28, 5, 29, 1, 75, 76, 77, 78, 42, 43, 44, 45, 60, 61, 62, 79, 80, 81, 82, 83, 84, 85, 86, 87] (by decide +kernel) (by decide +kernel)
set_option maxRecDepth 20000 in
theorem gX6_pass_X6_stillOnes : GoodIn wsX6_pass (wsV RX6 127 RX6 yX6_stillOnes wsX6_stillOnes) := goodIn_app (goodIn_of _ (by decide +kernel)) ggX6_pass_X6_stillOnes
set_option maxRecDepth 20000 in
theorem ggX6_cell_X6_isCell : GoodIn wsX6_cell wsX6_isCell := goodIn_r _ [6, 7, 8, 5, 9] (by decide +kernel) (by decide +kernel)
set_option maxRecDepth 20000 in
theorem gX6_cell_X6_isCell : GoodIn wsX6_cell (va_wsS RX6 58 yX6_isCell wsX6_isCell) := goodIn_app (goodIn_of _ (by decide +kernel)) ggX6_cell_X6_isCell
set_option maxRecDepth 20000 in
theorem ggX6_cell_X6_now : GoodIn wsX6_cell wsX6_now := goodIn_r _ [13, 1, 41, 42, 43, 44, 45, 46, 47, 48, 49] (by decide +kernel) (by decide +kernel)
set_option maxRecDepth 20000 in
theorem gX6_cell_X6_now : GoodIn wsX6_cell (wsV RX6 85 RX6 yX6_now wsX6_now) := goodIn_app (goodIn_of _ (by decide +kernel)) ggX6_cell_X6_now
set_option maxRecDepth 20000 in
theorem ggX6_cell_X6_slope : GoodIn wsX6_cell wsX6_slope := goodIn_r _ [17, 18, 19, 20, 5, 21, 1, 22, 23, 24, 25, 3, 4, 6, 7, 8, 9, 10, 11, 12, 13, 41, 42, 43, 44, 45, 46, 47, 48, 49] (by decide +kernel) (by decide +kernel)
set_option maxRecDepth 20000 in
theorem gX6_cell_X6_slope : GoodIn wsX6_cell (wsV RX6 107 RX6 yX6_slope wsX6_slope) := goodIn_app (goodIn_of _ (by decide +kernel)) ggX6_cell_X6_slope
set_option maxRecDepth 20000 in
theorem ggX6_cell_X6_isWall : GoodIn wsX6_cell wsX6_isWall := goodIn_r _ [21, 1, 41, 42, 43, 44, 45, 46, 47, 48, 49] (by decide +kernel) (by decide +kernel)
set_option maxRecDepth 20000 in
theorem gX6_cell_X6_isWall : GoodIn wsX6_cell (wsV RX6 65 RX6 yX6_isWall wsX6_isWall) := goodIn_app (goodIn_of _ (by decide +kernel)) ggX6_cell_X6_isWall
set_option maxRecDepth 20000 in
theorem ggX6_cell_X6_isStill : GoodIn wsX6_cell wsX6_isStill := goodIn_r _ [29, 1, 10, 11, 12, 5, 13, 30, 31, 32, 41, 42, 43, 44, 45, 46, 47, 48, 49] (by decide +kernel) (by decide +kernel)
set_option maxRecDepth 20000 in
theorem gX6_cell_X6_isStill : GoodIn wsX6_cell (wsV RX6 117 RX6 yX6_isStill wsX6_isStill) := goodIn_app (goodIn_of _ (by decide +kernel)) ggX6_cell_X6_isStill
set_option maxRecDepth 20000 in
theorem ggX6_cell_X6_dipperIn : GoodIn wsX6_cell wsX6_dipperIn := goodIn_r _ [36, 1, 37, 38, 39, 5, 40, 41, 42, 43, 44, 45, 46, 47, 48, 49] (by decide +kernel) (by decide +kernel)
set_option maxRecDepth 20000 in
theorem gX6_cell_X6_dipperIn : GoodIn wsX6_cell (wsV RX6 62 RX6 yX6_dipperIn wsX6_dipperIn) := goodIn_app (goodIn_of _ (by decide +kernel)) ggX6_cell_X6_dipperIn
set_option maxRecDepth 20000 in
theorem ggX6_dipper_X6_isDipper : GoodIn wsX6_dipper wsX6_isDipper := goodIn_r _ [5, 6, 15, 16, 17, 18, 19, 20, 21, 22, 23] (by decide +kernel) (by decide +kernel)
set_option maxRecDepth 20000 in
theorem gX6_dipper_X6_isDipper : GoodIn wsX6_dipper (wsV RX6 94 RX6 yX6_isDipper wsX6_isDipper) := goodIn_app (goodIn_of _ (by decide +kernel)) ggX6_dipper_X6_isDipper
set_option maxRecDepth 20000 in
theorem ggX6_dipper_X6_ofDipper : GoodIn wsX6_dipper wsX6_ofDipper := goodIn_r _ [10, 6, 15, 16, 17, 18, 19, 20, 21, 22, 23] (by decide +kernel) (by decide +kernel)
set_option maxRecDepth 20000 in
theorem gX6_dipper_X6_ofDipper : GoodIn wsX6_dipper (wsV RX6 54 RX6 yX6_ofDipper wsX6_ofDipper) := goodIn_app (goodIn_of _ (by decide +kernel)) ggX6_dipper_X6_ofDipper
set_option maxRecDepth 20000 in
theorem ggX6_dipper_X6_isUp : GoodIn wsX6_dipper wsX6_isUp := goodIn_r _ [14, 6, 7, 8, 9, 4, 10, 15, 16, 17, 18, 19, 20, 21, 22, 23] (by decide +kernel) (by decide +kernel)
set_option maxRecDepth 20000 in
theorem gX6_dipper_X6_isUp : GoodIn wsX6_dipper (wsV RX6 104 RX6 yX6_isUp wsX6_isUp) := goodIn_app (goodIn_of _ (by decide +kernel)) ggX6_dipper_X6_isUp
set_option maxRecDepth 20000 in
theorem ggX6_beat_X6_seenMany : GoodIn wsX6_beat wsX6_seenMany := goodIn_r _ [5, 6, 14, 15, 16, 17, 18, 19, 20, 21, 22] (by decide +kernel) (by decide +kernel)
set_option maxRecDepth 20000 in
theorem gX6_beat_X6_seenMany : GoodIn wsX6_beat (wsV RX6 130 RX6 yX6_seenMany wsX6_seenMany) := goodIn_app (goodIn_of _ (by decide +kernel)) ggX6_beat_X6_seenMany
set_option maxRecDepth 20000 in
theorem ggX6_beat_X6_seenBy : GoodIn wsX6_beat wsX6_seenBy := goodIn_r _ [10, 6, 14, 15, 16, 17, 18, 19, 20, 21, 22] (by decide +kernel) (by decide +kernel)
set_option maxRecDepth 20000 in
theorem gX6_beat_X6_seenBy : GoodIn wsX6_beat (wsV RX6 133 RX6 yX6_seenBy wsX6_seenBy) := goodIn_app (goodIn_of _ (by decide +kernel)) ggX6_beat_X6_seenBy
set_option maxRecDepth 20000 in
theorem ggX6_beat_X6_size : GoodIn wsX6_beat wsX6_size := goodIn_r _ [13] (by decide +kernel) (by decide +kernel)
set_option maxRecDepth 20000 in
theorem gX6_beat_X6_size : GoodIn wsX6_beat (va_wsS RX6 88 yX6_size wsX6_size) := goodIn_app (goodIn_of _ (by decide +kernel)) ggX6_beat_X6_size
set_option maxRecDepth 20000 in
theorem ggX6_greatestSeen_X6_seenMany : GoodIn wsX6_greatestSeen wsX6_seenMany := goodIn_r _ [5, 6, 11, 12, 13, 14, 15, 16, 17, 18, 19] (by decide +kernel) (by decide +kernel)
set_option maxRecDepth 20000 in
theorem gX6_greatestSeen_X6_seenMany : GoodIn wsX6_greatestSeen (wsV RX6 130 RX6 yX6_seenMany wsX6_seenMany) := goodIn_app (goodIn_of _ (by decide +kernel)) ggX6_greatestSeen_X6_seenMany
set_option maxRecDepth 20000 in
theorem ggX6_greatestSeen_X6_seenBy : GoodIn wsX6_greatestSeen wsX6_seenBy := goodIn_r _ [10, 6, 11, 12, 13, 14, 15, 16, 17, 18, 19] (by decide +kernel) (by decide +kernel)
set_option maxRecDepth 20000 in
theorem gX6_greatestSeen_X6_seenBy : GoodIn wsX6_greatestSeen (wsV RX6 133 RX6 yX6_seenBy wsX6_seenBy) := goodIn_app (goodIn_of _ (by decide +kernel)) ggX6_greatestSeen_X6_seenBy
set_option maxRecDepth 20000 in
theorem ggX6_ofProbe_X6_isProbe : GoodIn wsX6_ofProbe wsX6_isProbe := goodIn_r _ [6, 1, 26, 27, 28, 29, 30, 31, 32, 33, 34] (by decide +kernel) (by decide +kernel)
set_option maxRecDepth 20000 in
theorem gX6_ofProbe_X6_isProbe : GoodIn wsX6_ofProbe (wsV RX6 136 RX6 yX6_isProbe wsX6_isProbe) := goodIn_app (goodIn_of _ (by decide +kernel)) ggX6_ofProbe_X6_isProbe
set_option maxRecDepth 20000 in
theorem ggX6_ofProbe_X6_seenMany : GoodIn wsX6_ofProbe wsX6_seenMany := goodIn_r _ [10, 1, 26, 27, 28, 29, 30, 31, 32, 33, 34] (by decide +kernel) (by decide +kernel)
set_option maxRecDepth 20000 in
theorem gX6_ofProbe_X6_seenMany : GoodIn wsX6_ofProbe (wsV RX6 130 RX6 yX6_seenMany wsX6_seenMany) := goodIn_app (goodIn_of _ (by decide +kernel)) ggX6_ofProbe_X6_seenMany
set_option maxRecDepth 20000 in
theorem ggX6_ofProbe_X6_beat : GoodIn wsX6_ofProbe wsX6_beat := goodIn_r _ [14, 7, 8, 9, 5, 10, 1, 15, 16, 17, 18, 19, 20, 21, 26, 27, 28, 29, 30, 31, 32, 33, 34] (by decide +kernel) (by decide +kernel)
set_option maxRecDepth 20000 in
theorem gX6_ofProbe_X6_beat : GoodIn wsX6_ofProbe (wsV RX6 139 RX6 yX6_beat wsX6_beat) := goodIn_app (goodIn_of _ (by decide +kernel)) ggX6_ofProbe_X6_beat
set_option maxRecDepth 20000 in
theorem ggX6_ofProbe_X6_greatestSeen : GoodIn wsX6_ofProbe wsX6_greatestSeen := goodIn_r _ [25, 7, 8, 9, 5, 10, 1, 15, 16, 17, 18, 26, 27, 28, 29, 30, 31, 32, 33, 34] (by decide +kernel) (by decide +kernel)
set_option maxRecDepth 20000 in
theorem gX6_ofProbe_X6_greatestSeen : GoodIn wsX6_ofProbe (wsV RX6 142 RX6 yX6_greatestSeen wsX6_greatestSeen) := goodIn_app (goodIn_of _ (by decide +kernel)) ggX6_ofProbe_X6_greatestSeen
set_option maxRecDepth 20000 in
theorem ggX6_seen_X6_isProbe : GoodIn wsX6_seen wsX6_isProbe := goodIn_r _ [5, 6, 18, 19, 20, 21, 22, 23, 24, 25, 26] (by decide +kernel) (by decide +kernel)
set_option maxRecDepth 20000 in
theorem gX6_seen_X6_isProbe : GoodIn wsX6_seen (wsV RX6 136 RX6 yX6_isProbe wsX6_isProbe) := goodIn_app (goodIn_of _ (by decide +kernel)) ggX6_seen_X6_isProbe
set_option maxRecDepth 20000 in
theorem ggX6_seen_X6_seenMany : GoodIn wsX6_seen wsX6_seenMany := goodIn_r _ [10, 6, 18, 19, 20, 21, 22, 23, 24, 25, 26] (by decide +kernel) (by decide +kernel)
set_option maxRecDepth 20000 in
theorem gX6_seen_X6_seenMany : GoodIn wsX6_seen (wsV RX6 130 RX6 yX6_seenMany wsX6_seenMany) := goodIn_app (goodIn_of _ (by decide +kernel)) ggX6_seen_X6_seenMany
set_option maxRecDepth 20000 in
theorem ggX6_seen_X6_in : GoodIn wsX6_seen wsX6_in := goodIn_r _ [13] (by decide +kernel) (by decide +kernel)
set_option maxRecDepth 20000 in
theorem gX6_seen_X6_in : GoodIn wsX6_seen (va_wsS RX6 36 yX6_in wsX6_in) := goodIn_app (goodIn_of _ (by decide +kernel)) ggX6_seen_X6_in
set_option maxRecDepth 20000 in
theorem ggX6_seen_X6_seenBy : GoodIn wsX6_seen wsX6_seenBy := goodIn_r _ [17, 6, 18, 19, 20, 21, 22, 23, 24, 25, 26] (by decide +kernel) (by decide +kernel)
set_option maxRecDepth 20000 in
theorem gX6_seen_X6_seenBy : GoodIn wsX6_seen (wsV RX6 133 RX6 yX6_seenBy wsX6_seenBy) := goodIn_app (goodIn_of _ (by decide +kernel)) ggX6_seen_X6_seenBy
set_option maxRecDepth 20000 in
theorem ggX6_sum_X6_now : GoodIn wsX6_sum wsX6_now := goodIn_r _ [5, 6, 7, 8, 9, 10, 11, 12, 13, 14, 15] (by decide +kernel) (by decide +kernel)
set_option maxRecDepth 20000 in
theorem gX6_sum_X6_now : GoodIn wsX6_sum (wsV RX6 85 RX6 yX6_now wsX6_now) := goodIn_app (goodIn_of _ (by decide +kernel)) ggX6_sum_X6_now
set_option maxRecDepth 20000 in
theorem ggX6_greatest_X6_now : GoodIn wsX6_greatest wsX6_now := goodIn_r _ [5, 6, 10, 11, 12, 13, 14, 15, 16, 17, 18] (by decide +kernel) (by decide +kernel)
set_option maxRecDepth 20000 in
theorem gX6_greatest_X6_now : GoodIn wsX6_greatest (wsV RX6 85 RX6 yX6_now wsX6_now) := goodIn_app (goodIn_of _ (by decide +kernel)) ggX6_greatest_X6_now
set_option maxRecDepth 20000 in
theorem ggX6_greatest_X6_size : GoodIn wsX6_greatest wsX6_size := goodIn_r _ [9] (by decide +kernel) (by decide +kernel)
set_option maxRecDepth 20000 in
theorem gX6_greatest_X6_size : GoodIn wsX6_greatest (va_wsS RX6 88 yX6_size wsX6_size) := goodIn_app (goodIn_of _ (by decide +kernel)) ggX6_greatest_X6_size
set_option maxRecDepth 20000 in
theorem ggX6_count_X6_water : GoodIn wsX6_count wsX6_water := goodIn_r _ [9, 10, 11, 12, 8, 13, 1, 45, 46, 47, 48, 49, 50, 51, 52, 53] (by decide +kernel) (by decide +kernel)
set_option maxRecDepth 20000 in
theorem gX6_count_X6_water : GoodIn wsX6_count (wsV RX6 82 RX6 yX6_water wsX6_water) := goodIn_app (goodIn_of _ (by decide +kernel)) ggX6_count_X6_water
set_option maxRecDepth 20000 in
theorem ggX6_count_X6_stillOnes : GoodIn wsX6_count wsX6_stillOnes := goodIn_r _ [17, 10, 11, 12, 8, 13, 1, 18, 19, 20, 21, 22, 23, 24, 25, 26, 27, 28, 45, 46, 47, 48, 49, 50, 51, 52, 53] (by decide +kernel) (by decide +kernel)
set_option maxRecDepth 20000 in
theorem gX6_count_X6_stillOnes : GoodIn wsX6_count (wsV RX6 127 RX6 yX6_stillOnes wsX6_stillOnes) := goodIn_app (goodIn_of _ (by decide +kernel)) ggX6_count_X6_stillOnes
set_option maxRecDepth 20000 in
theorem ggX6_count_X6_sum : GoodIn wsX6_count wsX6_sum := goodIn_r _ [32, 22, 23, 24, 8, 25, 1, 45, 46, 47, 48, 49, 50, 51, 52, 53] (by decide +kernel) (by decide +kernel)
set_option maxRecDepth 20000 in
theorem gX6_count_X6_sum : GoodIn wsX6_count (wsV RX6 145 RX6 yX6_sum wsX6_sum) := goodIn_app (goodIn_of _ (by decide +kernel)) ggX6_count_X6_sum
set_option maxRecDepth 20000 in
theorem ggX6_count_X6_allSizes : GoodIn wsX6_count wsX6_allSizes := goodIn_r _ [36, 22, 23, 24, 8, 25, 1, 26, 27, 28, 45, 46, 47, 48, 49, 50, 51, 52, 53] (by decide +kernel) (by decide +kernel)
set_option maxRecDepth 20000 in
theorem gX6_count_X6_allSizes : GoodIn wsX6_count (wsV RX6 91 RX6 yX6_allSizes wsX6_allSizes) := goodIn_app (goodIn_of _ (by decide +kernel)) ggX6_count_X6_allSizes
set_option maxRecDepth 20000 in
theorem ggX6_count_X6_greatest : GoodIn wsX6_count wsX6_greatest := goodIn_r _ [40, 22, 23, 24, 8, 25, 1, 26, 27, 28, 45, 46, 47, 48, 49, 50, 51, 52, 53] (by decide +kernel) (by decide +kernel)
set_option maxRecDepth 20000 in
theorem gX6_count_X6_greatest : GoodIn wsX6_count (wsV RX6 149 RX6 yX6_greatest wsX6_greatest) := goodIn_app (goodIn_of _ (by decide +kernel)) ggX6_count_X6_greatest
set_option maxRecDepth 20000 in
theorem ggX6_count_X6_come : GoodIn wsX6_count wsX6_come := goodIn_r _ [44, 1, 45, 46, 47, 48, 49, 50, 51, 52, 53] (by decide +kernel) (by decide +kernel)
set_option maxRecDepth 20000 in
theorem gX6_count_X6_come : GoodIn wsX6_count (wsV RX6 152 RX6 yX6_come wsX6_come) := goodIn_app (goodIn_of _ (by decide +kernel)) ggX6_count_X6_come
set_option maxRecDepth 20000 in
theorem ggX6_loudest_X6_in : GoodIn wsX6_loudest wsX6_in := goodIn_r _ [4] (by decide +kernel) (by decide +kernel)
set_option maxRecDepth 20000 in
theorem gX6_loudest_X6_in : GoodIn wsX6_loudest (va_wsS RX6 36 yX6_in wsX6_in) := goodIn_app (goodIn_of _ (by decide +kernel)) ggX6_loudest_X6_in
set_option maxRecDepth 20000 in
theorem ggX6_loudest_X6_greatest : GoodIn wsX6_loudest wsX6_greatest := goodIn_r _ [8, 9, 10, 11, 3, 12, 13, 14, 15, 16, 17, 18, 19, 20, 21, 22, 23, 24, 25] (by decide +kernel) (by decide +kernel)
set_option maxRecDepth 20000 in
theorem gX6_loudest_X6_greatest : GoodIn wsX6_loudest (wsV RX6 149 RX6 yX6_greatest wsX6_greatest) := goodIn_app (goodIn_of _ (by decide +kernel)) ggX6_loudest_X6_greatest
set_option maxRecDepth 20000 in
theorem ggX6_loudest_X6_now : GoodIn wsX6_loudest wsX6_now := goodIn_r _ [12, 13, 17, 18, 19, 20, 21, 22, 23, 24, 25] (by decide +kernel) (by decide +kernel)
set_option maxRecDepth 20000 in
theorem gX6_loudest_X6_now : GoodIn wsX6_loudest (wsV RX6 85 RX6 yX6_now wsX6_now) := goodIn_app (goodIn_of _ (by decide +kernel)) ggX6_loudest_X6_now
set_option maxRecDepth 20000 in
theorem ggX6_loudest_X6_size : GoodIn wsX6_loudest wsX6_size := goodIn_r _ [16] (by decide +kernel) (by decide +kernel)
set_option maxRecDepth 20000 in
theorem gX6_loudest_X6_size : GoodIn wsX6_loudest (va_wsS RX6 88 yX6_size wsX6_size) := goodIn_app (goodIn_of _ (by decide +kernel)) ggX6_loudest_X6_size
set_option maxRecDepth 20000 in
theorem ggX6_heightAt_X6_isCell : GoodIn wsX6_heightAt wsX6_isCell := goodIn_r _ [4, 5, 6, 3, 7] (by decide +kernel) (by decide +kernel)
set_option maxRecDepth 20000 in
theorem gX6_heightAt_X6_isCell : GoodIn wsX6_heightAt (va_wsS RX6 58 yX6_isCell wsX6_isCell) := goodIn_app (goodIn_of _ (by decide +kernel)) ggX6_heightAt_X6_isCell
set_option maxRecDepth 20000 in
theorem ggX6_heightAt_X6_now : GoodIn wsX6_heightAt wsX6_now := goodIn_r _ [11, 12, 13, 14, 15, 16, 17, 18, 19, 20, 21] (by decide +kernel) (by decide +kernel)
set_option maxRecDepth 20000 in
theorem gX6_heightAt_X6_now : GoodIn wsX6_heightAt (wsV RX6 85 RX6 yX6_now wsX6_now) := goodIn_app (goodIn_of _ (by decide +kernel)) ggX6_heightAt_X6_now
set_option maxRecDepth 20000 in
theorem ggX6_crests_X6_in : GoodIn wsX6_crests wsX6_in := goodIn_r _ [4] (by decide +kernel) (by decide +kernel)
set_option maxRecDepth 20000 in
theorem gX6_crests_X6_in : GoodIn wsX6_crests (va_wsS RX6 36 yX6_in wsX6_in) := goodIn_app (goodIn_of _ (by decide +kernel)) ggX6_crests_X6_in
set_option maxRecDepth 20000 in
theorem ggX6_crests_X6_heightAt : GoodIn wsX6_crests wsX6_heightAt := goodIn_r _ [8, 9, 10, 3, 11, 1, 2, 4, 12, 13, 14, 15, 16, 17, 18, 19, 20, 21, 22, 23, 24, 25] (by decide +kernel) (by decide +kernel)
set_option maxRecDepth 20000 in
theorem gX6_crests_X6_heightAt : GoodIn wsX6_crests (wsV RX6 155 RX6 yX6_heightAt wsX6_heightAt) := goodIn_app (goodIn_of _ (by decide +kernel)) ggX6_crests_X6_heightAt
set_option maxRecDepth 20000 in
theorem ggX6_ifPassed_X6_isCell : GoodIn wsX6_ifPassed wsX6_isCell := goodIn_r _ [4, 5, 6, 3, 7] (by decide +kernel) (by decide +kernel)
set_option maxRecDepth 20000 in
theorem gX6_ifPassed_X6_isCell : GoodIn wsX6_ifPassed (va_wsS RX6 58 yX6_isCell wsX6_isCell) := goodIn_app (goodIn_of _ (by decide +kernel)) ggX6_ifPassed_X6_isCell
set_option maxRecDepth 20000 in
theorem ggX6_ifPassed_X6_in : GoodIn wsX6_ifPassed wsX6_in := goodIn_r _ [7] (by decide +kernel) (by decide +kernel)
set_option maxRecDepth 20000 in
theorem gX6_ifPassed_X6_in : GoodIn wsX6_ifPassed (va_wsS RX6 36 yX6_in wsX6_in) := goodIn_app (goodIn_of _ (by decide +kernel)) ggX6_ifPassed_X6_in
set_option maxRecDepth 20000 in
theorem ggX6_ifPassed_X6_putAside : GoodIn wsX6_ifPassed wsX6_putAside := goodIn_r _ [11, 12, 13, 69, 70, 71, 72, 73, 74, 75, 76, 77] (by decide +kernel) (by decide +kernel)
set_option maxRecDepth 20000 in
theorem gX6_ifPassed_X6_putAside : GoodIn wsX6_ifPassed (wsV RX6 158 RX6 yX6_putAside wsX6_putAside) := goodIn_app (goodIn_of _ (by decide +kernel)) ggX6_ifPassed_X6_putAside
set_option maxRecDepth 20000 in
theorem ggX6_ifPassed_X6_ticks : GoodIn wsX6_ifPassed wsX6_ticks := goodIn_r _ [17, 18, 19, 20, 3, 21, 22, 13, 23, 24, 25, 26, 27, 28, 29, 30, 31, 32, 33, 34, 35, 36, 37, 38, 39, 40, 41, 42, 43, 44, 45, 46, 47, 48, 49, 50, 51, 52, 53, 54, 1, 2, 4, 5, 6, 7, 55, 56, 57, 58, 59, 60, 61, 62, 63, 64, 69, 70, 71, 72, 73, 74, 75, 76, 77] (by decide +kernel) (by decide +kernel)
set_option maxRecDepth 20000 in
theorem gX6_ifPassed_X6_ticks : GoodIn wsX6_ifPassed (wsV RX6 124 RX6 yX6_ticks wsX6_ticks) := goodIn_app (goodIn_of _ (by decide +kernel)) ggX6_ifPassed_X6_ticks
set_option maxRecDepth 20000 in
theorem ggX6_ifPassed_X6_now : GoodIn wsX6_ifPassed wsX6_now := goodIn_r _ [46, 13, 69, 70, 71, 72, 73, 74, 75, 76, 77] (by decide +kernel) (by decide +kernel)
set_option maxRecDepth 20000 in
theorem gX6_ifPassed_X6_now : GoodIn wsX6_ifPassed (wsV RX6 85 RX6 yX6_now wsX6_now) := goodIn_app (goodIn_of _ (by decide +kernel)) ggX6_ifPassed_X6_now
set_option maxRecDepth 20000 in
theorem ggX6_ifPassed_X6_bringBack : GoodIn wsX6_ifPassed wsX6_bringBack := goodIn_r _ [68, 13, 12, 69, 70, 71, 72, 73, 74, 75, 76, 77] (by decide +kernel) (by decide +kernel)
set_option maxRecDepth 20000 in
theorem gX6_ifPassed_X6_bringBack : GoodIn wsX6_ifPassed (wsV RX6 161 RX6 yX6_bringBack wsX6_bringBack) := goodIn_app (goodIn_of _ (by decide +kernel)) ggX6_ifPassed_X6_bringBack
set_option maxRecDepth 20000 in
theorem ggX6_comes_X6_isCell : GoodIn wsX6_comes wsX6_isCell := goodIn_r _ [4, 5, 6, 3, 7] (by decide +kernel) (by decide +kernel)
set_option maxRecDepth 20000 in
theorem gX6_comes_X6_isCell : GoodIn wsX6_comes (va_wsS RX6 58 yX6_isCell wsX6_isCell) := goodIn_app (goodIn_of _ (by decide +kernel)) ggX6_comes_X6_isCell
set_option maxRecDepth 20000 in
theorem ggX6_comes_X6_isStill : GoodIn wsX6_comes wsX6_isStill := goodIn_r _ [11, 12, 13, 14, 15, 3, 16, 17, 18, 19, 69, 70, 71, 72, 73, 74, 75, 76, 77] (by decide +kernel) (by decide +kernel)
set_option maxRecDepth 20000 in
theorem gX6_comes_X6_isStill : GoodIn wsX6_comes (wsV RX6 117 RX6 yX6_isStill wsX6_isStill) := goodIn_app (goodIn_of _ (by decide +kernel)) ggX6_comes_X6_isStill
set_option maxRecDepth 20000 in
theorem ggX6_comes_X6_putAside : GoodIn wsX6_comes wsX6_putAside := goodIn_r _ [23, 24, 12, 69, 70, 71, 72, 73, 74, 75, 76, 77] (by decide +kernel) (by decide +kernel)
set_option maxRecDepth 20000 in
theorem gX6_comes_X6_putAside : GoodIn wsX6_comes (wsV RX6 158 RX6 yX6_putAside wsX6_putAside) := goodIn_app (goodIn_of _ (by decide +kernel)) ggX6_comes_X6_putAside
set_option maxRecDepth 20000 in
theorem ggX6_comes_X6_tick : GoodIn wsX6_comes wsX6_tick := goodIn_r _ [28, 29, 12, 30, 31, 32, 3, 33, 34, 35, 36, 37, 38, 39, 40, 41, 42, 43, 44, 45, 46, 47, 48, 49, 13, 14, 15, 16, 50, 51, 52, 53, 54, 55, 56, 57, 1, 2, 4, 5, 6, 7, 58, 59, 60, 17, 18, 19, 61, 62, 63, 64, 69, 70, 71, 72, 73, 74, 75, 76, 77] (by decide +kernel) (by decide +kernel)
set_option maxRecDepth 20000 in
theorem gX6_comes_X6_tick : GoodIn wsX6_comes (wsV RX6 120 RX6 yX6_tick wsX6_tick) := goodIn_app (goodIn_of _ (by decide +kernel)) ggX6_comes_X6_tick
set_option maxRecDepth 20000 in
theorem ggX6_comes_X6_bringBack : GoodIn wsX6_comes wsX6_bringBack := goodIn_r _ [68, 12, 24, 69, 70, 71, 72, 73, 74, 75, 76, 77] (by decide +kernel) (by decide +kernel)
set_option maxRecDepth 20000 in
theorem gX6_comes_X6_bringBack : GoodIn wsX6_comes (wsV RX6 161 RX6 yX6_bringBack wsX6_bringBack) := goodIn_app (goodIn_of _ (by decide +kernel)) ggX6_comes_X6_bringBack
set_option maxRecDepth 20000 in
theorem ggX6_hush_X6_isDipper : GoodIn wsX6_hush wsX6_isDipper := goodIn_r _ [7, 2, 73, 74, 75, 76, 77, 78, 79, 80, 81] (by decide +kernel) (by decide +kernel)
set_option maxRecDepth 20000 in
theorem gX6_hush_X6_isDipper : GoodIn wsX6_hush (wsV RX6 94 RX6 yX6_isDipper wsX6_isDipper) := goodIn_app (goodIn_of _ (by decide +kernel)) ggX6_hush_X6_isDipper
set_option maxRecDepth 20000 in
theorem ggX6_hush_X6_isCell : GoodIn wsX6_hush wsX6_isCell := goodIn_r _ [10, 11, 12, 6, 13] (by decide +kernel) (by decide +kernel)
set_option maxRecDepth 20000 in
theorem gX6_hush_X6_isCell : GoodIn wsX6_hush (va_wsS RX6 58 yX6_isCell wsX6_isCell) := goodIn_app (goodIn_of _ (by decide +kernel)) ggX6_hush_X6_isCell
set_option maxRecDepth 20000 in
theorem ggX6_hush_X6_in : GoodIn wsX6_hush wsX6_in := goodIn_r _ [13] (by decide +kernel) (by decide +kernel)
set_option maxRecDepth 20000 in
theorem gX6_hush_X6_in : GoodIn wsX6_hush (va_wsS RX6 36 yX6_in wsX6_in) := goodIn_app (goodIn_of _ (by decide +kernel)) ggX6_hush_X6_in
set_option maxRecDepth 20000 in
theorem ggX6_hush_X6_putAside : GoodIn wsX6_hush wsX6_putAside := goodIn_r _ [17, 1, 2, 73, 74, 75, 76, 77, 78, 79, 80, 81] (by decide +kernel) (by decide +kernel)
set_option maxRecDepth 20000 in
theorem gX6_hush_X6_putAside : GoodIn wsX6_hush (wsV RX6 158 RX6 yX6_putAside wsX6_putAside) := goodIn_app (goodIn_of _ (by decide +kernel)) ggX6_hush_X6_putAside
set_option maxRecDepth 20000 in
theorem ggX6_hush_X6_bringBack : GoodIn wsX6_hush wsX6_bringBack := goodIn_r _ [21, 2, 1, 73, 74, 75, 76, 77, 78, 79, 80, 81] (by decide +kernel) (by decide +kernel)
set_option maxRecDepth 20000 in
theorem gX6_hush_X6_bringBack : GoodIn wsX6_hush (wsV RX6 161 RX6 yX6_bringBack wsX6_bringBack) := goodIn_app (goodIn_of _ (by decide +kernel)) ggX6_hush_X6_bringBack
set_option maxRecDepth 20000 in
theorem ggX6_hush_X6_ticks : GoodIn wsX6_hush wsX6_ticks := goodIn_r _ [25, 26, 27, 28, 6, 29, 30, 2, 31, 32, 33, 34, 35, 36, 37, 38, 39, 40, 41, 42, 43, 44, 45, 46, 47, 48, 49, 50, 51, 52, 53, 54, 55, 56, 57, 58, 59, 60, 61, 62, 8, 9, 10, 11, 12, 13, 63, 64, 65, 66, 67, 68, 69, 70, 71, 72, 73, 74, 75, 76, 77, 78, 79, 80, 81] (by decide +kernel) (by decide +kernel)
set_option maxRecDepth 20000 in
theorem gX6_hush_X6_ticks : GoodIn wsX6_hush (wsV RX6 124 RX6 yX6_ticks wsX6_ticks) := goodIn_app (goodIn_of _ (by decide +kernel)) ggX6_hush_X6_ticks
set_option maxRecDepth 20000 in
theorem ggX6_hush_X6_now : GoodIn wsX6_hush wsX6_now := goodIn_r _ [54, 2, 73, 74, 75, 76, 77, 78, 79, 80, 81] (by decide +kernel) (by decide +kernel)
set_option maxRecDepth 20000 in
theorem gX6_hush_X6_now : GoodIn wsX6_hush (wsV RX6 85 RX6 yX6_now wsX6_now) := goodIn_app (goodIn_of _ (by decide +kernel)) ggX6_hush_X6_now
set_option maxRecDepth 20000 in
theorem ggX6_hush_X6_size : GoodIn wsX6_hush wsX6_size := goodIn_r _ [68] (by decide +kernel) (by decide +kernel)
set_option maxRecDepth 20000 in
theorem gX6_hush_X6_size : GoodIn wsX6_hush (va_wsS RX6 88 yX6_size wsX6_size) := goodIn_app (goodIn_of _ (by decide +kernel)) ggX6_hush_X6_size
set_option maxRecDepth 20000 in
theorem ggX6_put_X6_in : GoodIn wsX6_put wsX6_in := goodIn_r _ [7] (by decide +kernel) (by decide +kernel)
set_option maxRecDepth 20000 in
theorem gX6_put_X6_in : GoodIn wsX6_put (va_wsS RX6 36 yX6_in wsX6_in) := goodIn_app (goodIn_of _ (by decide +kernel)) ggX6_put_X6_in
set_option maxRecDepth 20000 in
theorem ggX6_readPad_X6_floorOf : GoodIn wsX6_readPad wsX6_floorOf := goodIn_r _ [6] (by decide +kernel) (by decide +kernel)
set_option maxRecDepth 20000 in
theorem gX6_readPad_X6_floorOf : GoodIn wsX6_readPad (va_wsS RX6 73 yX6_floorOf wsX6_floorOf) := goodIn_app (goodIn_of _ (by decide +kernel)) ggX6_readPad_X6_floorOf
