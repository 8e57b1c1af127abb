set_option maxRecDepth 20000 in
theorem ggL_cells_X5_cell : GoodIn wsL_cells wsX5_cell := goodIn_r _ [6, 7, 8, 9, 10, 11, 12, 13, 14, 15, 5, 16, 17, 18, 19, 20, 21, 22, 23, 24, 25, 26, 27, 28, 29, 30, 31, 32, 33, 34, 35, 36, 37, 38, 39, 40, 41, 42, 43, 44, 45, 46, 47, 48, 49, 50, 51, 52, 53, 54, 68, 69, 70, 71, 72, 73, 74, 75, 76, 77, 78, 79, 80, 81, 82, 83, 84, 85, 86] (by decide +kernel) (by decide +kernel)
set_option maxRecDepth 20000 in
theorem gL_cells_X5_cell : GoodIn wsL_cells (wsV RL 26 RX5 yX5_cell wsX5_cell) := goodIn_app (goodIn_of _ (by decide +kernel)) ggL_cells_X5_cell
set_option maxRecDepth 20000 in
theorem ggL_cells_L_slope : GoodIn wsL_cells wsL_slope := goodIn_r _ [58, 59, 60, 57, 61] (by decide +kernel) (by decide +kernel)
set_option maxRecDepth 20000 in
theorem gL_cells_L_slope : GoodIn wsL_cells (va_wsS RL 16 yL_slope wsL_slope) := goodIn_app (goodIn_of _ (by decide +kernel)) ggL_cells_L_slope
set_option maxRecDepth 20000 in
theorem ggL_cells_L_isStill : GoodIn wsL_cells wsL_isStill := goodIn_r _ [64, 65, 66, 57, 67] (by decide +kernel) (by decide +kernel)
set_option maxRecDepth 20000 in
theorem gL_cells_L_isStill : GoodIn wsL_cells (va_wsS RL 31 yL_isStill wsL_isStill) := goodIn_app (goodIn_of _ (by decide +kernel)) ggL_cells_L_isStill
set_option maxRecDepth 20000 in
theorem ggL_counts_L_isStill : GoodIn wsL_counts wsL_isStill := goodIn_r _ [5, 6, 7, 4, 8] (by decide +kernel) (by decide +kernel)
set_option maxRecDepth 20000 in
theorem gL_counts_L_isStill : GoodIn wsL_counts (va_wsS RL 31 yL_isStill wsL_isStill) := goodIn_app (goodIn_of _ (by decide +kernel)) ggL_counts_L_isStill
set_option maxRecDepth 20000 in
theorem ggL_counts_L_amount : GoodIn wsL_counts wsL_amount := goodIn_r _ [8] (by decide +kernel) (by decide +kernel)
set_option maxRecDepth 20000 in
theorem gL_counts_L_amount : GoodIn wsL_counts (va_wsS RL 20 yL_amount wsL_amount) := goodIn_app (goodIn_of _ (by decide +kernel)) ggL_counts_L_amount
set_option maxRecDepth 20000 in
theorem ggL_counts_X5_crests : GoodIn wsL_counts wsX5_crests := goodIn_r _ [13, 14, 15, 16, 12, 17, 18, 19, 20, 21, 22, 23, 24, 25, 26, 27, 28, 29, 30, 31, 92, 93, 94, 95, 96, 97, 98, 99, 100, 101, 102, 103, 104, 105] (by decide +kernel) (by decide +kernel)
set_option maxRecDepth 20000 in
theorem gL_counts_X5_crests : GoodIn wsL_counts (wsV RL 35 RX5 yX5_crests wsX5_crests) := goodIn_app (goodIn_of _ (by decide +kernel)) ggL_counts_X5_crests
set_option maxRecDepth 20000 in
theorem ggL_counts_X5_loudest : GoodIn wsL_counts wsX5_loudest := goodIn_r _ [35, 14, 15, 16, 12, 17, 36, 37, 38, 21, 39, 40, 41, 42, 43, 27, 44, 45, 46, 47, 48, 92, 93, 94, 95, 96, 97, 98, 99, 100, 101, 102, 103, 104, 105] (by decide +kernel) (by decide +kernel)
set_option maxRecDepth 20000 in
theorem gL_counts_X5_loudest : GoodIn wsL_counts (wsV RL 38 RX5 yX5_loudest wsX5_loudest) := goodIn_app (goodIn_of _ (by decide +kernel)) ggL_counts_X5_loudest
set_option maxRecDepth 20000 in
theorem ggL_counts_X5_count : GoodIn wsL_counts wsX5_count := goodIn_r _ [52, 14, 53, 54, 55, 56, 57, 58, 59, 60, 61, 62, 63, 64, 65, 66, 21, 67, 68, 69, 70, 71, 72, 73, 74, 75, 76, 77, 78, 44, 45, 46, 47, 40, 41, 42, 43, 27, 79, 80, 81, 82, 83, 84, 85, 86, 36, 37, 38, 39, 48, 87, 88, 89, 90, 91, 92, 93, 94, 95, 96, 97, 98, 99, 100, 101, 102, 103, 104, 105, 106, 107, 108, 109, 110, 111, 112, 113, 114, 115, 116, 117, 118] (by decide +kernel) (by decide +kernel)
set_option maxRecDepth 20000 in
theorem gL_counts_X5_count : GoodIn wsL_counts (wsV RL 41 RX5 yX5_count wsX5_count) := goodIn_app (goodIn_of _ (by decide +kernel)) ggL_counts_X5_count
set_option maxRecDepth 20000 in
theorem ggL_probe_X5_seen : GoodIn wsL_probe wsX5_seen := goodIn_r _ [5, 6, 7, 8, 9, 10, 11, 12, 4, 13, 14, 15, 16, 17, 49, 50, 51, 52, 53, 54, 55, 56, 57, 58, 59, 60, 61, 62, 63, 64, 65, 66] (by decide +kernel) (by decide +kernel)
set_option maxRecDepth 20000 in
theorem gL_probe_X5_seen : GoodIn wsL_probe (wsV RL 45 RX5 yX5_seen wsX5_seen) := goodIn_app (goodIn_of _ (by decide +kernel)) ggL_probe_X5_seen
set_option maxRecDepth 20000 in
theorem ggL_probe_L_amount : GoodIn wsL_probe wsL_amount := goodIn_r _ [21] (by decide +kernel) (by decide +kernel)
set_option maxRecDepth 20000 in
theorem gL_probe_L_amount : GoodIn wsL_probe (va_wsS RL 20 yL_amount wsL_amount) := goodIn_app (goodIn_of _ (by decide +kernel)) ggL_probe_L_amount
set_option maxRecDepth 20000 in
theorem ggL_probe_X5_ofProbe : GoodIn wsL_probe wsX5_ofProbe := goodIn_r _ [25, 6, 7, 26, 8, 10, 11, 12, 4, 13, 14, 15, 16, 17, 27, 28, 29, 30, 31, 32, 33, 34, 35, 36, 37, 38, 39, 40, 41, 42, 43, 44, 45, 46, 47, 48, 49, 50, 51, 52, 53, 54, 55, 56, 57, 58, 59, 60, 61, 62, 63, 64, 65, 66] (by decide +kernel) (by decide +kernel)
set_option maxRecDepth 20000 in
theorem gL_probe_X5_ofProbe : GoodIn wsL_probe (wsV RL 49 RX5 yX5_ofProbe wsX5_ofProbe) := goodIn_app (goodIn_of _ (by decide +kernel)) ggL_probe_X5_ofProbe
