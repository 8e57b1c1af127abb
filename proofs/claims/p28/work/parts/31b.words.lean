/-! The words of the methods that the law calls, among its own. -/
set_option maxRecDepth 20000 in
theorem ggL_law_X5_init : GoodIn wsL_law wsX5_init := goodIn_r _ [6, 7, 8, 9, 10, 11, 12, 13, 14, 15, 16, 17, 18, 19, 20, 21, 22, 23, 24, 25, 26, 27, 28, 29, 30, 31, 32, 33, 34, 35, 36, 3, 37, 38, 39, 40, 41, 42, 43, 44, 45, 46, 47, 48, 49, 50, 51, 52, 53, 54, 55, 56, 57, 58, 59, 60, 61, 62, 63, 64, 65, 66, 67, 68, 69, 70, 71, 72, 73, 74, 75, 76, 77, 78, 79, 80, 81, 82, 83, 367, 368, 369, 370, 371, 372, 373, 374, 361, 362, 363, 364, 365, 366, 375, 376, 377, 378, 379, 380, 381, 382, 383, 384, 385, 386, 387] (by decide +kernel) (by decide +kernel)
set_option maxRecDepth 20000 in
theorem gL_law_X5_init : GoodIn wsL_law (wsX5_init) := ggL_law_X5_init
set_option maxRecDepth 20000 in
theorem ggL_law_L_cell : GoodIn wsL_law wsL_cell := goodIn_r _ [87, 88, 89] (by decide +kernel) (by decide +kernel)
set_option maxRecDepth 20000 in
theorem gL_law_L_cell : GoodIn wsL_law (va_wsS RL 53 yL_cell wsL_cell) := goodIn_app (goodIn_of _ (by decide +kernel)) ggL_law_L_cell
set_option maxRecDepth 20000 in
theorem ggL_law_L_low : GoodIn wsL_law wsL_low := goodIn_r _ [92, 93] (by decide +kernel) (by decide +kernel)
set_option maxRecDepth 20000 in
theorem gL_law_L_low : GoodIn wsL_law (va_wsS RL 56 yL_low wsL_low) := goodIn_app (goodIn_of _ (by decide +kernel)) ggL_law_L_low
set_option maxRecDepth 20000 in
theorem ggL_law_X5_set : GoodIn wsL_law wsX5_set := goodIn_r _ [97, 98, 99, 18, 13, 100, 101, 102, 103, 17, 104, 76, 75, 105, 106, 107, 108, 109, 110, 111, 12, 112, 36, 113, 114, 115, 116, 37, 38, 39, 40, 44, 48, 49, 117, 118, 119, 43, 120, 53, 121, 54, 55, 56, 57, 122, 123, 124, 47, 125, 61, 126, 62, 64, 65, 361, 362, 363, 364, 365, 366, 367, 368, 369, 370, 371, 372, 373, 374, 375, 376, 379, 380, 381, 382, 383, 384, 385, 386, 387] (by decide +kernel) (by decide +kernel)
set_option maxRecDepth 20000 in
theorem gL_law_X5_set : GoodIn wsL_law (wsV RL 59 RX5 yX5_set wsX5_set) := goodIn_app (goodIn_of _ (by decide +kernel)) ggL_law_X5_set
set_option maxRecDepth 20000 in
theorem ggL_law_X5_floor : GoodIn wsL_law wsX5_floor := goodIn_r _ [130, 13, 131, 18, 132, 133, 134, 2, 135, 136, 137, 138, 139, 140, 141, 142, 143, 144, 43, 145, 57, 53, 101, 102, 103, 17, 104, 76, 75, 105, 106, 107, 108, 109, 110, 111, 12, 112, 36, 113, 114, 115, 116, 37, 38, 39, 40, 44, 48, 49, 117, 118, 119, 120, 121, 54, 55, 56, 122, 123, 124, 47, 125, 61, 126, 62, 64, 65, 146, 147, 148, 149, 361, 362, 363, 364, 365, 366, 367, 368, 369, 370, 371, 372, 373, 374, 379, 380, 381, 382, 383, 375, 376, 384, 385, 386, 387] (by decide +kernel) (by decide +kernel)
set_option maxRecDepth 20000 in
theorem gL_law_X5_floor : GoodIn wsL_law (wsV RL 62 RX5 yX5_floor wsX5_floor) := goodIn_app (goodIn_of _ (by decide +kernel)) ggL_law_X5_floor
set_option maxRecDepth 20000 in
theorem ggL_law_X5_dip : GoodIn wsL_law wsX5_dip := goodIn_r _ [153, 13, 132, 131, 154, 18, 133, 134, 2, 135, 136, 137, 138, 139, 140, 141, 101, 102, 103, 17, 104, 76, 75, 105, 106, 107, 108, 109, 110, 111, 12, 112, 36, 113, 114, 115, 116, 37, 38, 39, 40, 44, 48, 49, 117, 118, 119, 43, 120, 53, 121, 54, 55, 56, 57, 122, 123, 124, 47, 125, 61, 126, 62, 64, 65, 155, 156, 157, 158, 361, 362, 363, 364, 365, 366, 367, 368, 369, 370, 371, 372, 373, 374, 379, 380, 381, 382, 383, 375, 376, 384, 385, 386, 387] (by decide +kernel) (by decide +kernel)
set_option maxRecDepth 20000 in
theorem gL_law_X5_dip : GoodIn wsL_law (wsV RL 65 RX5 yX5_dip wsX5_dip) := goodIn_app (goodIn_of _ (by decide +kernel)) ggL_law_X5_dip
set_option maxRecDepth 20000 in
theorem ggL_law_X5_takeOut : GoodIn wsL_law wsX5_takeOut := goodIn_r _ [162, 18, 13, 131, 154, 163, 164, 165, 2, 166, 136, 137, 138, 101, 102, 103, 17, 104, 76, 75, 105, 106, 107, 108, 109, 110, 111, 12, 112, 36, 113, 114, 115, 116, 37, 38, 39, 40, 44, 48, 49, 117, 118, 119, 43, 120, 53, 121, 54, 55, 56, 57, 122, 123, 124, 47, 125, 61, 126, 62, 64, 65, 167, 168, 169, 170, 361, 362, 363, 364, 365, 366, 367, 368, 369, 370, 371, 372, 373, 374, 379, 380, 381, 382, 383, 375, 376, 384, 385, 386, 387] (by decide +kernel) (by decide +kernel)
set_option maxRecDepth 20000 in
theorem gL_law_X5_takeOut : GoodIn wsL_law (wsV RL 69 RX5 yX5_takeOut wsX5_takeOut) := goodIn_app (goodIn_of _ (by decide +kernel)) ggL_law_X5_takeOut
set_option maxRecDepth 20000 in
theorem ggL_law_X5_drop : GoodIn wsL_law wsX5_drop := goodIn_r _ [174, 13, 132, 18, 175, 133, 134, 2, 135, 136, 137, 138, 139, 140, 141, 101, 102, 103, 17, 104, 76, 75, 105, 106, 107, 108, 109, 110, 111, 12, 112, 36, 113, 114, 115, 116, 37, 38, 39, 40, 44, 48, 49, 117, 118, 119, 43, 120, 53, 121, 54, 55, 56, 57, 122, 123, 124, 47, 125, 61, 126, 62, 64, 65, 176, 177, 178, 179, 180, 181, 182, 183, 184, 185, 361, 362, 363, 364, 365, 366, 367, 368, 369, 370, 371, 372, 373, 374, 375, 376, 379, 380, 381, 382, 383, 384, 385, 386, 387] (by decide +kernel) (by decide +kernel)
set_option maxRecDepth 20000 in
theorem gL_law_X5_drop : GoodIn wsL_law (wsV RL 72 RX5 yX5_drop wsX5_drop) := goodIn_app (goodIn_of _ (by decide +kernel)) ggL_law_X5_drop
set_option maxRecDepth 20000 in
theorem ggL_law_X5_probe : GoodIn wsL_law wsX5_probe := goodIn_r _ [189, 13, 190, 191, 18, 133, 134, 2, 135, 136, 137, 138, 101, 102, 103, 17, 104, 76, 75, 105, 106, 107, 108, 109, 110, 111, 12, 112, 36, 113, 114, 115, 116, 37, 38, 39, 40, 44, 48, 49, 117, 118, 119, 43, 120, 53, 121, 54, 55, 56, 57, 122, 123, 124, 47, 125, 61, 126, 62, 64, 65, 139, 140, 141, 192, 193, 194, 195, 361, 362, 363, 364, 365, 366, 367, 368, 369, 370, 371, 372, 373, 374, 384, 385, 386, 387, 375, 376, 379, 380, 381, 382, 383] (by decide +kernel) (by decide +kernel)
set_option maxRecDepth 20000 in
theorem gL_law_X5_probe : GoodIn wsL_law (wsV RL 75 RX5 yX5_probe wsX5_probe) := goodIn_app (goodIn_of _ (by decide +kernel)) ggL_law_X5_probe
set_option maxRecDepth 20000 in
theorem ggL_law_X5_ofProbe : GoodIn wsL_law wsX5_ofProbe := goodIn_r _ [199, 13, 190, 200, 201, 202, 203, 204, 2, 205, 191, 136, 137, 138, 206, 207, 208, 47, 209, 62, 210, 211, 212, 213, 64, 214, 215, 181, 216, 217, 218, 219, 220, 221, 184, 185, 361, 362, 363, 364, 365, 366, 367, 368, 369, 370, 371, 372, 373, 374, 384, 385, 386, 387] (by decide +kernel) (by decide +kernel)
set_option maxRecDepth 20000 in
theorem gL_law_X5_ofProbe : GoodIn wsL_law (wsV RL 49 RX5 yX5_ofProbe wsX5_ofProbe) := goodIn_app (goodIn_of _ (by decide +kernel)) ggL_law_X5_ofProbe
set_option maxRecDepth 20000 in
theorem ggL_law_X5_seen : GoodIn wsL_law wsX5_seen := goodIn_r _ [225, 13, 190, 201, 226, 202, 203, 204, 2, 205, 191, 136, 137, 138, 361, 362, 363, 364, 365, 366, 367, 368, 369, 370, 371, 372, 373, 374, 384, 385, 386, 387] (by decide +kernel) (by decide +kernel)
set_option maxRecDepth 20000 in
theorem gL_law_X5_seen : GoodIn wsL_law (wsV RL 45 RX5 yX5_seen wsX5_seen) := goodIn_app (goodIn_of _ (by decide +kernel)) ggL_law_X5_seen
set_option maxRecDepth 20000 in
theorem ggL_law_L_tick : GoodIn wsL_law wsL_tick := goodIn_r _ [229, 3, 230, 231, 86, 232, 233, 234, 235, 236, 237, 238] (by decide +kernel) (by decide +kernel)
set_option maxRecDepth 20000 in
theorem gL_law_L_tick : GoodIn wsL_law (va_wsS RL 78 yL_tick wsL_tick) := goodIn_app (goodIn_of _ (by decide +kernel)) ggL_law_L_tick
set_option maxRecDepth 20000 in
theorem ggL_law_L_isStill : GoodIn wsL_law wsL_isStill := goodIn_r _ [241, 236, 237, 86, 238] (by decide +kernel) (by decide +kernel)
set_option maxRecDepth 20000 in
theorem gL_law_L_isStill : GoodIn wsL_law (va_wsS RL 31 yL_isStill wsL_isStill) := goodIn_app (goodIn_of _ (by decide +kernel)) ggL_law_L_isStill
set_option maxRecDepth 20000 in
theorem ggL_law_X5_pass : GoodIn wsL_law wsX5_pass := goodIn_r _ [245, 13, 246, 247, 18, 136, 137, 2, 138, 101, 102, 103, 17, 104, 76, 75, 105, 106, 107, 108, 109, 110, 111, 12, 112, 36, 113, 114, 115, 116, 37, 38, 39, 40, 44, 48, 49, 117, 118, 119, 43, 120, 53, 121, 54, 55, 56, 57, 122, 123, 124, 47, 125, 61, 126, 62, 64, 65, 248, 249, 250, 251, 252, 253, 254, 255, 256, 257, 258, 259, 260, 261, 262, 263, 264, 265, 266, 267, 177, 178, 179, 180, 181, 182, 183, 184, 185, 268, 269, 270, 271, 272, 273, 274, 275, 276, 277, 278, 279, 280, 281, 282, 283, 284, 215, 216, 285, 286, 287, 288, 289, 290, 291, 292, 293, 294, 295, 296, 297, 361, 362, 363, 364, 365, 366, 367, 368, 369, 370, 371, 372, 373, 374, 375, 376, 379, 380, 381, 382, 383, 384, 385, 386, 387] (by decide +kernel) (by decide +kernel)
set_option maxRecDepth 20000 in
theorem gL_law_X5_pass : GoodIn wsL_law (wsV RL 82 RX5 yX5_pass wsX5_pass) := goodIn_app (goodIn_of _ (by decide +kernel)) ggL_law_X5_pass
set_option maxRecDepth 20000 in
theorem ggL_law_L_cells : GoodIn wsL_law wsL_cells := goodIn_r _ [300, 301, 302, 303, 304, 2, 305, 13, 132, 175, 306, 247, 307, 131, 133, 134, 135, 136, 137, 138, 139, 140, 141, 308, 261, 262, 12, 263, 37, 264, 265, 266, 267, 38, 309, 295, 296, 297, 36, 39, 284, 215, 181, 216, 280, 281, 282, 283, 142, 143, 144, 43, 145, 57, 53, 230, 231, 86, 232, 233, 234, 235, 239, 240, 241, 236, 237, 238, 361, 362, 363, 364, 365, 366, 367, 368, 369, 370, 371, 372, 373, 374, 379, 380, 381, 382, 383] (by decide +kernel) (by decide +kernel)
set_option maxRecDepth 20000 in
theorem gL_law_L_cells : GoodIn wsL_law (va_wsS RL 85 yL_cells wsL_cells) := goodIn_app (goodIn_of _ (by decide +kernel)) ggL_law_L_cells
set_option maxRecDepth 20000 in
theorem ggL_law_L_counts : GoodIn wsL_law wsL_counts := goodIn_r _ [312, 313, 239, 240, 86, 241, 236, 237, 238, 314, 315, 316, 2, 317, 13, 136, 137, 138, 318, 319, 320, 12, 321, 322, 323, 324, 325, 38, 134, 135, 140, 141, 326, 327, 328, 329, 330, 331, 332, 333, 280, 281, 282, 283, 284, 215, 181, 216, 334, 335, 336, 337, 338, 246, 339, 131, 154, 190, 191, 100, 25, 340, 18, 341, 342, 343, 344, 345, 37, 290, 291, 292, 293, 294, 295, 296, 297, 36, 39, 346, 347, 348, 349, 350, 351, 352, 353, 354, 355, 356, 357, 40, 361, 362, 363, 364, 365, 366, 367, 368, 369, 370, 371, 372, 373, 374, 379, 380, 381, 382, 383, 384, 385, 386, 387, 377, 378, 375, 376] (by decide +kernel) (by decide +kernel)
set_option maxRecDepth 20000 in
theorem gL_law_L_counts : GoodIn wsL_law (va_wsS RL 89 yL_counts wsL_counts) := goodIn_app (goodIn_of _ (by decide +kernel)) ggL_law_L_counts
set_option maxRecDepth 20000 in
theorem ggL_law_L_probe : GoodIn wsL_law wsL_probe := goodIn_r _ [360, 222, 223, 224, 2, 225, 13, 190, 201, 226, 202, 203, 204, 205, 191, 136, 137, 138, 236, 237, 86, 238, 196, 197, 198, 199, 200, 206, 207, 208, 47, 209, 62, 210, 211, 212, 213, 64, 214, 215, 181, 216, 217, 218, 219, 220, 221, 184, 185, 361, 362, 363, 364, 365, 366, 367, 368, 369, 370, 371, 372, 373, 374, 384, 385, 386, 387] (by decide +kernel) (by decide +kernel)
set_option maxRecDepth 20000 in
theorem gL_law_L_probe : GoodIn wsL_law (va_wsS RL 93 yL_probe wsL_probe) := goodIn_app (goodIn_of _ (by decide +kernel)) ggL_law_L_probe
