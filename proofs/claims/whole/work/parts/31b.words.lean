/-! The words of the methods that the law calls, among its own. -/
set_option maxRecDepth 20000 in
theorem ggL_law_X5_init : GoodIn wsL_law wsX5_init := goodIn_r _ [9, 10, 11, 12, 13, 14, 15, 16, 17, 18, 19, 20, 21, 22, 23, 24, 25, 26, 27, 28, 29, 30, 31, 32, 33, 34, 35, 36, 37, 38, 39, 40, 41, 42, 43, 44, 45, 46, 47, 48, 49, 50, 51, 52, 53, 54, 55, 56, 57, 58, 59, 60, 61, 62, 63, 64, 65, 66, 67, 68, 69, 70, 71, 72, 73, 74, 75, 76, 77, 78, 79, 80, 81, 82, 83, 84, 85, 86, 87, 787, 788, 789, 790, 791, 792, 793, 794, 772, 773, 774, 775, 776, 777, 795, 796, 797, 798, 799, 800, 801, 802, 803, 804, 805, 806, 807] (by decide +kernel) (by decide +kernel)
set_option maxRecDepth 20000 in
theorem gL_law_X5_init : GoodIn wsL_law (wsX5_init) := ggL_law_X5_init
set_option maxRecDepth 20000 in
theorem ggL_law_X6_init : GoodIn wsL_law wsX6_init := goodIn_r _ [90, 91, 11, 12, 40, 92, 93, 94, 23, 95, 96, 85, 97, 98, 99, 100, 101, 5, 102, 778, 779, 780, 781, 782, 783, 784, 785, 786] (by decide +kernel) (by decide +kernel)
set_option maxRecDepth 20000 in
theorem gL_law_X6_init : GoodIn wsL_law (wsX6_init) := ggL_law_X6_init
set_option maxRecDepth 20000 in
theorem ggL_law_X5_set : GoodIn wsL_law wsX5_set := goodIn_r _ [106, 107, 108, 21, 16, 109, 110, 111, 112, 20, 113, 80, 79, 114, 115, 116, 117, 118, 119, 120, 15, 121, 39, 122, 123, 124, 125, 41, 42, 43, 44, 48, 52, 53, 126, 127, 128, 47, 129, 57, 130, 58, 59, 60, 61, 131, 132, 133, 51, 134, 65, 135, 66, 68, 69, 772, 773, 774, 775, 776, 777, 787, 788, 789, 790, 791, 792, 793, 794, 795, 796, 799, 800, 801, 802, 803, 804, 805, 806, 807] (by decide +kernel) (by decide +kernel)
set_option maxRecDepth 20000 in
theorem gL_law_X5_set : GoodIn wsL_law (wsV RL 13 RX5 yX5_set wsX5_set) := goodIn_app (goodIn_of _ (by decide +kernel)) ggL_law_X5_set
set_option maxRecDepth 20000 in
theorem ggL_law_X6_set : GoodIn wsL_law wsX6_set := goodIn_r _ [139, 92, 140, 141, 5, 142, 143, 144, 145, 146, 147, 148, 149, 150, 151, 152, 153, 93, 778, 779, 780, 781, 782, 783, 784, 785, 786] (by decide +kernel) (by decide +kernel)
set_option maxRecDepth 20000 in
theorem gL_law_X6_set : GoodIn wsL_law (wsV RL 17 RX6 yX6_set wsX6_set) := goodIn_app (goodIn_of _ (by decide +kernel)) ggL_law_X6_set
set_option maxRecDepth 20000 in
theorem ggL_law_X5_floor : GoodIn wsL_law wsX5_floor := goodIn_r _ [157, 16, 158, 21, 159, 160, 161, 2, 162, 163, 164, 165, 166, 167, 168, 169, 170, 171, 47, 172, 61, 57, 110, 111, 112, 20, 113, 80, 79, 114, 115, 116, 117, 118, 119, 120, 15, 121, 39, 122, 123, 124, 125, 41, 42, 43, 44, 48, 52, 53, 126, 127, 128, 129, 130, 58, 59, 60, 131, 132, 133, 51, 134, 65, 135, 66, 68, 69, 173, 174, 175, 176, 772, 773, 774, 775, 776, 777, 787, 788, 789, 790, 791, 792, 793, 794, 799, 800, 801, 802, 803, 795, 796, 804, 805, 806, 807] (by decide +kernel) (by decide +kernel)
set_option maxRecDepth 20000 in
theorem gL_law_X5_floor : GoodIn wsL_law (wsV RL 18 RX5 yX5_floor wsX5_floor) := goodIn_app (goodIn_of _ (by decide +kernel)) ggL_law_X5_floor
set_option maxRecDepth 20000 in
theorem ggL_law_X6_floor : GoodIn wsL_law wsX6_floor := goodIn_r _ [180, 92, 181, 182, 5, 183, 140, 141, 142, 184, 185, 186, 187, 188, 189, 190, 191, 149, 150, 151, 152, 153, 93, 778, 779, 780, 781, 782, 783, 784, 785, 786] (by decide +kernel) (by decide +kernel)
set_option maxRecDepth 20000 in
theorem gL_law_X6_floor : GoodIn wsL_law (wsV RL 22 RX6 yX6_floor wsX6_floor) := goodIn_app (goodIn_of _ (by decide +kernel)) ggL_law_X6_floor
set_option maxRecDepth 20000 in
theorem ggL_law_X5_read : GoodIn wsL_law wsX5_read := goodIn_r _ [195, 28, 21, 16, 196, 197, 198, 199, 27, 200, 87, 86, 201, 202, 203, 204, 205, 206, 207, 208, 209, 210, 211, 212, 213, 214, 215, 216, 217, 218, 219, 220, 221, 222, 223, 224, 225, 226, 227, 228, 229, 230, 231, 232, 233, 234, 235, 236, 237, 238, 239, 240, 241, 242, 243, 244, 245, 246, 247, 248, 249, 250, 251, 252, 253, 254, 255, 256, 257, 258, 259, 260, 261, 262, 263, 264, 265, 266, 267, 268, 269, 270, 271, 272, 273, 274, 275, 276, 277, 278, 279, 280, 281, 282, 283, 284, 285, 286, 287, 288, 289, 290, 291, 292, 110, 111, 112, 20, 113, 80, 79, 114, 115, 116, 117, 118, 119, 120, 15, 121, 39, 122, 123, 124, 125, 41, 42, 43, 44, 48, 52, 53, 126, 127, 128, 47, 129, 57, 130, 58, 59, 60, 61, 131, 132, 133, 51, 134, 65, 135, 66, 68, 69, 293, 294, 295, 296, 297, 298, 299, 300, 301, 302, 303, 304, 305, 306, 70, 71, 72, 73, 307, 308, 309, 310, 311, 312, 313, 314, 315, 772, 773, 774, 775, 776, 777, 797, 798, 795, 796, 787, 788, 789, 790, 791, 792, 793, 794, 799, 800, 801, 802, 803, 804, 805, 806, 807] (by decide +kernel) (by decide +kernel)
set_option maxRecDepth 20000 in
theorem gL_law_X5_read : GoodIn wsL_law (wsV RL 23 RX5 yX5_read wsX5_read) := goodIn_app (goodIn_of _ (by decide +kernel)) ggL_law_X5_read
set_option maxRecDepth 20000 in
theorem ggL_law_X6_read : GoodIn wsL_law wsX6_read := goodIn_r _ [319, 92, 97, 320, 321, 322, 323, 5, 324, 325, 326, 327, 149, 150, 151, 152, 153, 93, 328, 329, 330, 331, 99, 100, 101, 102, 332, 333, 334, 335, 336, 337, 338, 339, 778, 779, 780, 781, 782, 783, 784, 785, 786] (by decide +kernel) (by decide +kernel)
set_option maxRecDepth 20000 in
theorem gL_law_X6_read : GoodIn wsL_law (wsV RL 27 RX6 yX6_read wsX6_read) := goodIn_app (goodIn_of _ (by decide +kernel)) ggL_law_X6_read
set_option maxRecDepth 20000 in
theorem ggL_law_X5_clear : GoodIn wsL_law wsX5_clear := goodIn_r _ [343, 21, 16, 110, 111, 112, 20, 113, 80, 79, 114, 115, 116, 117, 118, 119, 120, 15, 121, 39, 122, 123, 124, 125, 41, 42, 43, 44, 48, 52, 53, 126, 127, 128, 47, 129, 57, 130, 58, 59, 60, 61, 131, 132, 133, 51, 134, 65, 135, 66, 68, 69, 344, 345, 346, 347, 348, 349, 350, 351, 352, 353, 234, 354, 355, 304, 305, 306, 70, 71, 72, 73, 307, 308, 309, 310, 311, 772, 773, 774, 775, 776, 777, 795, 796, 787, 788, 789, 790, 791, 792, 793, 794, 799, 800, 801, 802, 803, 804, 805, 806, 807] (by decide +kernel) (by decide +kernel)
set_option maxRecDepth 20000 in
theorem gL_law_X5_clear : GoodIn wsL_law (wsV RL 28 RX5 yX5_clear wsX5_clear) := goodIn_app (goodIn_of _ (by decide +kernel)) ggL_law_X5_clear
set_option maxRecDepth 20000 in
theorem ggL_law_X6_clear : GoodIn wsL_law wsX6_clear := goodIn_r _ [359, 92, 149, 150, 151, 5, 152, 153, 93, 360, 361, 362, 363, 364, 365, 366, 367, 368, 369, 370, 328, 329, 330, 331, 99, 100, 101, 102, 778, 779, 780, 781, 782, 783, 784, 785, 786] (by decide +kernel) (by decide +kernel)
set_option maxRecDepth 20000 in
theorem gL_law_X6_clear : GoodIn wsL_law (wsV RL 31 RX6 yX6_clear wsX6_clear) := goodIn_app (goodIn_of _ (by decide +kernel)) ggL_law_X6_clear
set_option maxRecDepth 20000 in
theorem ggL_law_X5_dip : GoodIn wsL_law wsX5_dip := goodIn_r _ [374, 16, 159, 158, 375, 21, 160, 161, 2, 162, 163, 164, 165, 166, 167, 168, 110, 111, 112, 20, 113, 80, 79, 114, 115, 116, 117, 118, 119, 120, 15, 121, 39, 122, 123, 124, 125, 41, 42, 43, 44, 48, 52, 53, 126, 127, 128, 47, 129, 57, 130, 58, 59, 60, 61, 131, 132, 133, 51, 134, 65, 135, 66, 68, 69, 376, 377, 378, 379, 772, 773, 774, 775, 776, 777, 787, 788, 789, 790, 791, 792, 793, 794, 799, 800, 801, 802, 803, 795, 796, 804, 805, 806, 807] (by decide +kernel) (by decide +kernel)
set_option maxRecDepth 20000 in
theorem gL_law_X5_dip : GoodIn wsL_law (wsV RL 32 RX5 yX5_dip wsX5_dip) := goodIn_app (goodIn_of _ (by decide +kernel)) ggL_law_X5_dip
set_option maxRecDepth 20000 in
theorem ggL_law_X6_dip : GoodIn wsL_law wsX6_dip := goodIn_r _ [383, 92, 181, 182, 5, 183, 140, 141, 142, 336, 337, 338, 339, 149, 150, 151, 152, 153, 93, 778, 779, 780, 781, 782, 783, 784, 785, 786] (by decide +kernel) (by decide +kernel)
set_option maxRecDepth 20000 in
theorem gL_law_X6_dip : GoodIn wsL_law (wsV RL 36 RX6 yX6_dip wsX6_dip) := goodIn_app (goodIn_of _ (by decide +kernel)) ggL_law_X6_dip
set_option maxRecDepth 20000 in
theorem ggL_law_X5_takeOut : GoodIn wsL_law wsX5_takeOut := goodIn_r _ [387, 21, 16, 158, 375, 388, 389, 390, 2, 391, 163, 164, 165, 110, 111, 112, 20, 113, 80, 79, 114, 115, 116, 117, 118, 119, 120, 15, 121, 39, 122, 123, 124, 125, 41, 42, 43, 44, 48, 52, 53, 126, 127, 128, 47, 129, 57, 130, 58, 59, 60, 61, 131, 132, 133, 51, 134, 65, 135, 66, 68, 69, 392, 393, 394, 395, 772, 773, 774, 775, 776, 777, 787, 788, 789, 790, 791, 792, 793, 794, 799, 800, 801, 802, 803, 795, 796, 804, 805, 806, 807] (by decide +kernel) (by decide +kernel)
set_option maxRecDepth 20000 in
theorem gL_law_X5_takeOut : GoodIn wsL_law (wsV RL 37 RX5 yX5_takeOut wsX5_takeOut) := goodIn_app (goodIn_of _ (by decide +kernel)) ggL_law_X5_takeOut
set_option maxRecDepth 20000 in
theorem ggL_law_X6_takeOut : GoodIn wsL_law wsX6_takeOut := goodIn_r _ [399, 92, 400, 401, 402, 5, 403, 149, 150, 151, 152, 153, 93, 778, 779, 780, 781, 782, 783, 784, 785, 786] (by decide +kernel) (by decide +kernel)
set_option maxRecDepth 20000 in
theorem gL_law_X6_takeOut : GoodIn wsL_law (wsV RL 41 RX6 yX6_takeOut wsX6_takeOut) := goodIn_app (goodIn_of _ (by decide +kernel)) ggL_law_X6_takeOut
set_option maxRecDepth 20000 in
theorem ggL_law_X5_drop : GoodIn wsL_law wsX5_drop := goodIn_r _ [407, 16, 159, 21, 408, 160, 161, 2, 162, 163, 164, 165, 166, 167, 168, 110, 111, 112, 20, 113, 80, 79, 114, 115, 116, 117, 118, 119, 120, 15, 121, 39, 122, 123, 124, 125, 41, 42, 43, 44, 48, 52, 53, 126, 127, 128, 47, 129, 57, 130, 58, 59, 60, 61, 131, 132, 133, 51, 134, 65, 135, 66, 68, 69, 409, 410, 411, 412, 237, 234, 238, 413, 233, 235, 772, 773, 774, 775, 776, 777, 787, 788, 789, 790, 791, 792, 793, 794, 795, 796, 799, 800, 801, 802, 803, 804, 805, 806, 807] (by decide +kernel) (by decide +kernel)
set_option maxRecDepth 20000 in
theorem gL_law_X5_drop : GoodIn wsL_law (wsV RL 42 RX5 yX5_drop wsX5_drop) := goodIn_app (goodIn_of _ (by decide +kernel)) ggL_law_X5_drop
set_option maxRecDepth 20000 in
theorem ggL_law_X6_drop : GoodIn wsL_law wsX6_drop := goodIn_r _ [417, 92, 181, 182, 5, 183, 140, 141, 142, 336, 337, 338, 339, 149, 150, 151, 152, 153, 93, 364, 365, 366, 367, 418, 419, 420, 778, 779, 780, 781, 782, 783, 784, 785, 786] (by decide +kernel) (by decide +kernel)
set_option maxRecDepth 20000 in
theorem gL_law_X6_drop : GoodIn wsL_law (wsV RL 45 RX6 yX6_drop wsX6_drop) := goodIn_app (goodIn_of _ (by decide +kernel)) ggL_law_X6_drop
set_option maxRecDepth 20000 in
theorem ggL_law_X5_probe : GoodIn wsL_law wsX5_probe := goodIn_r _ [424, 16, 425, 426, 21, 160, 161, 2, 162, 163, 164, 165, 110, 111, 112, 20, 113, 80, 79, 114, 115, 116, 117, 118, 119, 120, 15, 121, 39, 122, 123, 124, 125, 41, 42, 43, 44, 48, 52, 53, 126, 127, 128, 47, 129, 57, 130, 58, 59, 60, 61, 131, 132, 133, 51, 134, 65, 135, 66, 68, 69, 166, 167, 168, 427, 428, 429, 430, 772, 773, 774, 775, 776, 777, 787, 788, 789, 790, 791, 792, 793, 794, 804, 805, 806, 807, 795, 796, 799, 800, 801, 802, 803] (by decide +kernel) (by decide +kernel)
set_option maxRecDepth 20000 in
theorem gL_law_X5_probe : GoodIn wsL_law (wsV RL 46 RX5 yX5_probe wsX5_probe) := goodIn_app (goodIn_of _ (by decide +kernel)) ggL_law_X5_probe
set_option maxRecDepth 20000 in
theorem ggL_law_X6_probe : GoodIn wsL_law wsX6_probe := goodIn_r _ [434, 92, 181, 182, 5, 183, 140, 141, 142, 149, 150, 151, 152, 153, 93, 778, 779, 780, 781, 782, 783, 784, 785, 786] (by decide +kernel) (by decide +kernel)
set_option maxRecDepth 20000 in
theorem gL_law_X6_probe : GoodIn wsL_law (wsV RL 49 RX6 yX6_probe wsX6_probe) := goodIn_app (goodIn_of _ (by decide +kernel)) ggL_law_X6_probe
set_option maxRecDepth 20000 in
theorem ggL_law_X5_pass : GoodIn wsL_law wsX5_pass := goodIn_r _ [438, 16, 439, 440, 21, 163, 164, 2, 165, 110, 111, 112, 20, 113, 80, 79, 114, 115, 116, 117, 118, 119, 120, 15, 121, 39, 122, 123, 124, 125, 41, 42, 43, 44, 48, 52, 53, 126, 127, 128, 47, 129, 57, 130, 58, 59, 60, 61, 131, 132, 133, 51, 134, 65, 135, 66, 68, 69, 441, 442, 443, 444, 445, 446, 447, 448, 449, 450, 451, 452, 453, 454, 455, 456, 457, 458, 459, 460, 410, 411, 412, 237, 234, 238, 413, 233, 235, 461, 462, 463, 464, 465, 466, 467, 468, 469, 470, 471, 472, 348, 349, 350, 351, 352, 353, 354, 473, 474, 475, 476, 477, 478, 479, 480, 481, 482, 483, 484, 485, 772, 773, 774, 775, 776, 777, 787, 788, 789, 790, 791, 792, 793, 794, 795, 796, 799, 800, 801, 802, 803, 804, 805, 806, 807] (by decide +kernel) (by decide +kernel)
set_option maxRecDepth 20000 in
theorem gL_law_X5_pass : GoodIn wsL_law (wsV RL 50 RX5 yX5_pass wsX5_pass) := goodIn_app (goodIn_of _ (by decide +kernel)) ggL_law_X5_pass
set_option maxRecDepth 20000 in
theorem ggL_law_X6_pass : GoodIn wsL_law wsX6_pass := goodIn_r _ [489, 92, 490, 140, 141, 5, 142, 149, 150, 151, 152, 153, 93, 491, 492, 493, 494, 495, 496, 497, 498, 98, 499, 500, 501, 502, 336, 337, 338, 339, 184, 185, 186, 187, 188, 189, 190, 191, 503, 504, 505, 506, 364, 365, 366, 367, 507, 508, 509, 510, 511, 512, 513, 514, 181, 182, 183, 418, 419, 420, 368, 369, 370, 515, 516, 517, 518, 332, 333, 334, 335, 519, 520, 521, 522, 523, 524, 525, 526, 778, 779, 780, 781, 782, 783, 784, 785, 786] (by decide +kernel) (by decide +kernel)
set_option maxRecDepth 20000 in
theorem gL_law_X6_pass : GoodIn wsL_law (wsV RL 53 RX6 yX6_pass wsX6_pass) := goodIn_app (goodIn_of _ (by decide +kernel)) ggL_law_X6_pass
set_option maxRecDepth 20000 in
theorem ggL_law_X5_cell : GoodIn wsL_law wsX5_cell := goodIn_r _ [530, 16, 159, 408, 531, 440, 532, 158, 160, 161, 2, 162, 163, 164, 165, 166, 167, 168, 533, 454, 455, 15, 456, 41, 457, 458, 459, 460, 42, 534, 483, 484, 485, 39, 43, 352, 353, 234, 354, 348, 349, 350, 351, 169, 170, 171, 47, 172, 61, 57, 772, 773, 774, 775, 776, 777, 787, 788, 789, 790, 791, 792, 793, 794, 799, 800, 801, 802, 803] (by decide +kernel) (by decide +kernel)
set_option maxRecDepth 20000 in
theorem gL_law_X5_cell : GoodIn wsL_law (wsV RL 54 RX5 yX5_cell wsX5_cell) := goodIn_app (goodIn_of _ (by decide +kernel)) ggL_law_X5_cell
set_option maxRecDepth 20000 in
theorem ggL_law_X6_cell : GoodIn wsL_law wsX6_cell := goodIn_r _ [538, 92, 490, 181, 182, 5, 183, 140, 141, 142, 364, 365, 366, 367, 507, 508, 509, 510, 336, 337, 338, 339, 511, 512, 513, 514, 523, 524, 525, 526, 368, 369, 370, 184, 185, 186, 187, 188, 189, 190, 191, 778, 779, 780, 781, 782, 783, 784, 785, 786] (by decide +kernel) (by decide +kernel)
set_option maxRecDepth 20000 in
theorem gL_law_X6_cell : GoodIn wsL_law (wsV RL 57 RX6 yX6_cell wsX6_cell) := goodIn_app (goodIn_of _ (by decide +kernel)) ggL_law_X6_cell
set_option maxRecDepth 20000 in
theorem ggL_law_X5_dipper : GoodIn wsL_law wsX5_dipper := goodIn_r _ [542, 16, 158, 543, 544, 545, 546, 439, 388, 389, 390, 2, 391, 375, 163, 164, 165, 547, 466, 467, 47, 468, 58, 60, 772, 773, 774, 775, 776, 777, 787, 788, 789, 790, 791, 792, 793, 794, 799, 800, 801, 802, 803] (by decide +kernel) (by decide +kernel)
set_option maxRecDepth 20000 in
theorem gL_law_X5_dipper : GoodIn wsL_law (wsV RL 58 RX5 yX5_dipper wsX5_dipper) := goodIn_app (goodIn_of _ (by decide +kernel)) ggL_law_X5_dipper
set_option maxRecDepth 20000 in
theorem ggL_law_X6_dipper : GoodIn wsL_law wsX6_dipper := goodIn_r _ [551, 400, 401, 402, 5, 403, 92, 188, 189, 190, 191, 503, 504, 505, 506, 778, 779, 780, 781, 782, 783, 784, 785, 786] (by decide +kernel) (by decide +kernel)
set_option maxRecDepth 20000 in
theorem gL_law_X6_dipper : GoodIn wsL_law (wsV RL 61 RX6 yX6_dipper wsX6_dipper) := goodIn_app (goodIn_of _ (by decide +kernel)) ggL_law_X6_dipper
set_option maxRecDepth 20000 in
theorem ggL_law_X5_ofProbe : GoodIn wsL_law wsX5_ofProbe := goodIn_r _ [555, 16, 425, 556, 557, 558, 559, 560, 2, 561, 426, 163, 164, 165, 562, 563, 564, 51, 565, 66, 566, 567, 568, 569, 68, 570, 353, 234, 354, 571, 572, 573, 574, 575, 233, 235, 772, 773, 774, 775, 776, 777, 787, 788, 789, 790, 791, 792, 793, 794, 804, 805, 806, 807] (by decide +kernel) (by decide +kernel)
set_option maxRecDepth 20000 in
theorem gL_law_X5_ofProbe : GoodIn wsL_law (wsV RL 62 RX5 yX5_ofProbe wsX5_ofProbe) := goodIn_app (goodIn_of _ (by decide +kernel)) ggL_law_X5_ofProbe
set_option maxRecDepth 20000 in
theorem ggL_law_X6_ofProbe : GoodIn wsL_law wsX6_ofProbe := goodIn_r _ [579, 92, 580, 581, 582, 5, 583, 584, 585, 586, 587, 588, 589, 590, 591, 592, 593, 594, 595, 368, 369, 370, 596, 597, 598, 599, 778, 779, 780, 781, 782, 783, 784, 785, 786] (by decide +kernel) (by decide +kernel)
set_option maxRecDepth 20000 in
theorem gL_law_X6_ofProbe : GoodIn wsL_law (wsV RL 65 RX6 yX6_ofProbe wsX6_ofProbe) := goodIn_app (goodIn_of _ (by decide +kernel)) ggL_law_X6_ofProbe
set_option maxRecDepth 20000 in
theorem ggL_law_X5_seen : GoodIn wsL_law wsX5_seen := goodIn_r _ [603, 16, 425, 557, 604, 558, 559, 560, 2, 561, 426, 163, 164, 165, 772, 773, 774, 775, 776, 777, 787, 788, 789, 790, 791, 792, 793, 794, 804, 805, 806, 807] (by decide +kernel) (by decide +kernel)
set_option maxRecDepth 20000 in
theorem gL_law_X5_seen : GoodIn wsL_law (wsV RL 66 RX5 yX5_seen wsX5_seen) := goodIn_app (goodIn_of _ (by decide +kernel)) ggL_law_X5_seen
set_option maxRecDepth 20000 in
theorem ggL_law_X6_seen : GoodIn wsL_law wsX6_seen := goodIn_r _ [608, 580, 581, 582, 5, 583, 92, 584, 585, 586, 587, 140, 141, 142, 592, 593, 594, 595, 778, 779, 780, 781, 782, 783, 784, 785, 786] (by decide +kernel) (by decide +kernel)
set_option maxRecDepth 20000 in
theorem gL_law_X6_seen : GoodIn wsL_law (wsV RL 69 RX6 yX6_seen wsX6_seen) := goodIn_app (goodIn_of _ (by decide +kernel)) ggL_law_X6_seen
set_option maxRecDepth 20000 in
theorem ggL_law_X5_count : GoodIn wsL_law wsX5_count := goodIn_r _ [612, 16, 439, 613, 158, 375, 425, 426, 109, 28, 196, 21, 614, 312, 313, 314, 15, 315, 41, 478, 479, 480, 481, 482, 483, 484, 485, 39, 43, 352, 353, 234, 354, 348, 349, 350, 351, 42, 615, 616, 617, 618, 344, 345, 346, 347, 619, 620, 621, 622, 623, 624, 625, 626, 627, 44, 772, 773, 774, 775, 776, 777, 787, 788, 789, 790, 791, 792, 793, 794, 799, 800, 801, 802, 803, 804, 805, 806, 807, 797, 798, 795, 796] (by decide +kernel) (by decide +kernel)
set_option maxRecDepth 20000 in
theorem gL_law_X5_count : GoodIn wsL_law (wsV RL 70 RX5 yX5_count wsX5_count) := goodIn_app (goodIn_of _ (by decide +kernel)) ggL_law_X5_count
set_option maxRecDepth 20000 in
theorem ggL_law_X6_count : GoodIn wsL_law wsX6_count := goodIn_r _ [631, 92, 632, 320, 153, 332, 333, 334, 5, 335, 336, 337, 338, 339, 519, 520, 521, 522, 523, 524, 525, 526, 364, 365, 366, 367, 368, 369, 370, 633, 634, 635, 636, 360, 361, 362, 363, 637, 638, 639, 640, 641, 642, 643, 644, 778, 779, 780, 781, 782, 783, 784, 785, 786] (by decide +kernel) (by decide +kernel)
set_option maxRecDepth 20000 in
theorem gL_law_X6_count : GoodIn wsL_law (wsV RL 73 RX6 yX6_count wsX6_count) := goodIn_app (goodIn_of _ (by decide +kernel)) ggL_law_X6_count
set_option maxRecDepth 20000 in
theorem ggL_law_X5_loudest : GoodIn wsL_law wsX5_loudest := goodIn_r _ [648, 16, 163, 164, 2, 165, 619, 620, 621, 15, 622, 348, 349, 350, 351, 42, 352, 353, 234, 354, 623, 772, 773, 774, 775, 776, 777, 787, 788, 789, 790, 791, 792, 793, 794] (by decide +kernel) (by decide +kernel)
set_option maxRecDepth 20000 in
theorem gL_law_X5_loudest : GoodIn wsL_law (wsV RL 74 RX5 yX5_loudest wsX5_loudest) := goodIn_app (goodIn_of _ (by decide +kernel)) ggL_law_X5_loudest
set_option maxRecDepth 20000 in
theorem ggL_law_X6_loudest : GoodIn wsL_law wsX6_loudest := goodIn_r _ [652, 140, 141, 5, 142, 637, 638, 639, 640, 364, 365, 366, 367, 92, 368, 369, 370, 778, 779, 780, 781, 782, 783, 784, 785, 786] (by decide +kernel) (by decide +kernel)
set_option maxRecDepth 20000 in
theorem gL_law_X6_loudest : GoodIn wsL_law (wsV RL 77 RX6 yX6_loudest wsX6_loudest) := goodIn_app (goodIn_of _ (by decide +kernel)) ggL_law_X6_loudest
set_option maxRecDepth 20000 in
theorem ggL_law_X5_crests : GoodIn wsL_law wsX5_crests := goodIn_r _ [656, 16, 163, 164, 2, 165, 657, 658, 659, 15, 660, 661, 662, 663, 664, 42, 161, 162, 167, 168, 772, 773, 774, 775, 776, 777, 787, 788, 789, 790, 791, 792, 793, 794] (by decide +kernel) (by decide +kernel)
set_option maxRecDepth 20000 in
theorem gL_law_X5_crests : GoodIn wsL_law (wsV RL 78 RX5 yX5_crests wsX5_crests) := goodIn_app (goodIn_of _ (by decide +kernel)) ggL_law_X5_crests
set_option maxRecDepth 20000 in
theorem ggL_law_X6_crests : GoodIn wsL_law wsX6_crests := goodIn_r _ [668, 140, 141, 5, 142, 669, 670, 671, 672, 181, 182, 183, 364, 365, 366, 367, 92, 778, 779, 780, 781, 782, 783, 784, 785, 786] (by decide +kernel) (by decide +kernel)
set_option maxRecDepth 20000 in
theorem gL_law_X6_crests : GoodIn wsL_law (wsV RL 81 RX6 yX6_crests wsX6_crests) := goodIn_app (goodIn_of _ (by decide +kernel)) ggL_law_X6_crests
set_option maxRecDepth 20000 in
theorem ggL_law_X5_ifPassed : GoodIn wsL_law wsX5_ifPassed := goodIn_r _ [676, 17, 16, 408, 160, 161, 2, 162, 163, 164, 165, 677, 119, 120, 15, 121, 39, 122, 123, 124, 125, 41, 42, 43, 44, 48, 52, 53, 126, 127, 128, 47, 129, 57, 130, 58, 59, 60, 61, 131, 132, 133, 51, 134, 65, 135, 66, 68, 69, 441, 442, 443, 444, 445, 446, 447, 448, 449, 450, 451, 452, 453, 454, 455, 456, 457, 458, 459, 460, 410, 411, 412, 237, 234, 238, 413, 233, 235, 461, 462, 463, 464, 465, 466, 467, 468, 469, 470, 471, 472, 348, 349, 350, 351, 352, 353, 354, 473, 474, 475, 476, 477, 166, 167, 168, 772, 773, 774, 775, 776, 777, 787, 788, 789, 790, 791, 792, 793, 794, 799, 800, 801, 802, 803, 804, 805, 806, 807] (by decide +kernel) (by decide +kernel)
set_option maxRecDepth 20000 in
theorem gL_law_X5_ifPassed : GoodIn wsL_law (wsV RL 82 RX5 yX5_ifPassed wsX5_ifPassed) := goodIn_app (goodIn_of _ (by decide +kernel)) ggL_law_X5_ifPassed
set_option maxRecDepth 20000 in
theorem ggL_law_X6_ifPassed : GoodIn wsL_law wsX6_ifPassed := goodIn_r _ [681, 181, 182, 5, 183, 140, 141, 142, 682, 683, 684, 685, 96, 92, 491, 492, 493, 494, 495, 496, 497, 498, 98, 499, 500, 501, 502, 336, 337, 338, 339, 184, 185, 186, 187, 188, 189, 190, 191, 503, 504, 505, 506, 364, 365, 366, 367, 507, 508, 509, 510, 511, 512, 513, 514, 418, 419, 420, 368, 369, 370, 515, 516, 517, 518, 686, 687, 688, 689, 778, 779, 780, 781, 782, 783, 784, 785, 786] (by decide +kernel) (by decide +kernel)
set_option maxRecDepth 20000 in
theorem gL_law_X6_ifPassed : GoodIn wsL_law (wsV RL 85 RX6 yX6_ifPassed wsX6_ifPassed) := goodIn_app (goodIn_of _ (by decide +kernel)) ggL_law_X6_ifPassed
set_option maxRecDepth 20000 in
theorem ggL_law_X5_comes : GoodIn wsL_law wsX5_comes := goodIn_r _ [693, 16, 17, 160, 161, 2, 162, 163, 164, 165, 166, 167, 168, 534, 483, 484, 15, 485, 39, 43, 352, 353, 234, 354, 348, 349, 350, 351, 42, 677, 119, 120, 121, 122, 123, 124, 125, 41, 44, 48, 52, 53, 126, 127, 128, 47, 129, 57, 130, 58, 59, 60, 61, 131, 132, 133, 51, 134, 65, 135, 66, 68, 69, 694, 446, 447, 448, 449, 450, 451, 452, 453, 454, 455, 456, 457, 458, 459, 460, 410, 411, 412, 237, 238, 413, 233, 235, 461, 462, 463, 464, 465, 466, 467, 468, 469, 470, 471, 472, 473, 474, 475, 476, 477, 772, 773, 774, 775, 776, 777, 787, 788, 789, 790, 791, 792, 793, 794, 799, 800, 801, 802, 803, 804, 805, 806, 807] (by decide +kernel) (by decide +kernel)
set_option maxRecDepth 20000 in
theorem gL_law_X5_comes : GoodIn wsL_law (wsV RL 86 RX5 yX5_comes wsX5_comes) := goodIn_app (goodIn_of _ (by decide +kernel)) ggL_law_X5_comes
set_option maxRecDepth 20000 in
theorem ggL_law_X6_comes : GoodIn wsL_law wsX6_comes := goodIn_r _ [698, 181, 182, 5, 183, 140, 141, 142, 523, 524, 525, 526, 92, 364, 365, 366, 367, 368, 369, 370, 682, 683, 684, 685, 96, 495, 496, 497, 498, 98, 499, 500, 501, 502, 336, 337, 338, 339, 184, 185, 186, 187, 188, 189, 190, 191, 503, 504, 505, 506, 507, 508, 509, 510, 511, 512, 513, 514, 418, 419, 420, 515, 516, 517, 518, 686, 687, 688, 689, 778, 779, 780, 781, 782, 783, 784, 785, 786] (by decide +kernel) (by decide +kernel)
set_option maxRecDepth 20000 in
theorem gL_law_X6_comes : GoodIn wsL_law (wsV RL 89 RX6 yX6_comes wsX6_comes) := goodIn_app (goodIn_of _ (by decide +kernel)) ggL_law_X6_comes
set_option maxRecDepth 20000 in
theorem ggL_law_X5_hush : GoodIn wsL_law wsX5_hush := goodIn_r _ [702, 16, 158, 544, 388, 389, 390, 2, 391, 375, 163, 164, 165, 160, 161, 162, 166, 167, 168, 703, 704, 705, 706, 17, 546, 677, 119, 120, 15, 121, 39, 122, 123, 124, 125, 41, 42, 43, 44, 48, 52, 53, 126, 127, 128, 47, 129, 57, 130, 58, 59, 60, 61, 131, 132, 133, 51, 134, 65, 135, 66, 68, 69, 441, 442, 443, 444, 445, 446, 447, 448, 449, 450, 451, 452, 453, 454, 455, 456, 457, 458, 459, 460, 410, 411, 412, 237, 234, 238, 413, 233, 235, 461, 462, 463, 464, 465, 466, 467, 468, 469, 470, 471, 472, 348, 349, 350, 351, 352, 353, 354, 473, 474, 475, 476, 477, 623, 772, 773, 774, 775, 776, 777, 787, 788, 789, 790, 791, 792, 793, 794, 799, 800, 801, 802, 803, 804, 805, 806, 807] (by decide +kernel) (by decide +kernel)
set_option maxRecDepth 20000 in
theorem gL_law_X5_hush : GoodIn wsL_law (wsV RL 90 RX5 yX5_hush wsX5_hush) := goodIn_app (goodIn_of _ (by decide +kernel)) ggL_law_X5_hush
set_option maxRecDepth 20000 in
theorem ggL_law_X6_hush : GoodIn wsL_law wsX6_hush := goodIn_r _ [710, 96, 92, 400, 401, 402, 5, 403, 181, 182, 183, 140, 141, 142, 682, 683, 684, 685, 686, 687, 688, 689, 491, 492, 493, 494, 495, 496, 497, 498, 98, 499, 500, 501, 502, 336, 337, 338, 339, 184, 185, 186, 187, 188, 189, 190, 191, 503, 504, 505, 506, 364, 365, 366, 367, 507, 508, 509, 510, 511, 512, 513, 514, 418, 419, 420, 368, 369, 370, 515, 516, 517, 518, 778, 779, 780, 781, 782, 783, 784, 785, 786] (by decide +kernel) (by decide +kernel)
set_option maxRecDepth 20000 in
theorem gL_law_X6_hush : GoodIn wsL_law (wsV RL 93 RX6 yX6_hush wsX6_hush) := goodIn_app (goodIn_of _ (by decide +kernel)) ggL_law_X6_hush
set_option maxRecDepth 20000 in
theorem ggL_law_X5_put : GoodIn wsL_law wsX5_put := goodIn_r _ [714, 28, 196, 715, 716, 27, 717, 718, 164, 2, 165, 719, 720, 721, 722, 86, 87, 772, 773, 774, 775, 776, 777, 797, 798] (by decide +kernel) (by decide +kernel)
set_option maxRecDepth 20000 in
theorem gL_law_X5_put : GoodIn wsL_law (wsV RL 96 RX5 yX5_put wsX5_put) := goodIn_app (goodIn_of _ (by decide +kernel)) ggL_law_X5_put
set_option maxRecDepth 20000 in
theorem ggL_law_X6_put : GoodIn wsL_law wsX6_put := goodIn_r _ [726, 727, 320, 97, 140, 141, 5, 142, 778, 779, 780, 781, 782, 783, 784, 785, 786] (by decide +kernel) (by decide +kernel)
set_option maxRecDepth 20000 in
theorem gL_law_X6_put : GoodIn wsL_law (wsV RL 100 RX6 yX6_put wsX6_put) := goodIn_app (goodIn_of _ (by decide +kernel)) ggL_law_X6_put
set_option maxRecDepth 20000 in
theorem ggL_law_X5_wipe : GoodIn wsL_law wsX5_wipe := goodIn_r _ [731, 28, 196, 772, 773, 774, 775, 776, 777, 797, 798] (by decide +kernel) (by decide +kernel)
set_option maxRecDepth 20000 in
theorem gL_law_X5_wipe : GoodIn wsL_law (wsV RL 101 RX5 yX5_wipe wsX5_wipe) := goodIn_app (goodIn_of _ (by decide +kernel)) ggL_law_X5_wipe
set_option maxRecDepth 20000 in
theorem ggL_law_X6_wipe : GoodIn wsL_law wsX6_wipe := goodIn_r _ [735, 320, 778, 779, 780, 781, 782, 783, 784, 785, 786] (by decide +kernel) (by decide +kernel)
set_option maxRecDepth 20000 in
theorem gL_law_X6_wipe : GoodIn wsL_law (wsV RL 104 RX6 yX6_wipe wsX6_wipe) := goodIn_app (goodIn_of _ (by decide +kernel)) ggL_law_X6_wipe
set_option maxRecDepth 20000 in
theorem ggL_law_X5_fault : GoodIn wsL_law wsX5_fault := goodIn_r _ [739, 28, 197, 198, 199, 27, 200, 87, 86, 201, 202, 203, 204, 205, 206, 207, 208, 209, 210, 211, 212, 213, 214, 215, 216, 217, 218, 219, 220, 221, 222, 223, 224, 225, 226, 227, 228, 229, 230, 231, 232, 233, 234, 235, 236, 237, 238, 239, 240, 241, 242, 243, 244, 245, 246, 247, 248, 249, 250, 251, 252, 253, 254, 255, 256, 257, 258, 259, 260, 261, 262, 263, 264, 265, 266, 267, 268, 269, 270, 271, 272, 273, 274, 275, 276, 277, 278, 279, 280, 281, 282, 283, 284, 285, 286, 287, 288, 289, 290, 291, 292, 772, 773, 774, 775, 776, 777, 797, 798] (by decide +kernel) (by decide +kernel)
set_option maxRecDepth 20000 in
theorem gL_law_X5_fault : GoodIn wsL_law (wsV RL 105 RX5 yX5_fault wsX5_fault) := goodIn_app (goodIn_of _ (by decide +kernel)) ggL_law_X5_fault
set_option maxRecDepth 20000 in
theorem ggL_law_X6_fault : GoodIn wsL_law wsX6_fault := goodIn_r _ [743, 321, 322, 323, 5, 324, 320, 97, 325, 326, 327, 778, 779, 780, 781, 782, 783, 784, 785, 786] (by decide +kernel) (by decide +kernel)
set_option maxRecDepth 20000 in
theorem gL_law_X6_fault : GoodIn wsL_law (wsV RL 108 RX6 yX6_fault wsX6_fault) := goodIn_app (goodIn_of _ (by decide +kernel)) ggL_law_X6_fault
set_option maxRecDepth 20000 in
theorem ggL_law_X5_undo : GoodIn wsL_law wsX5_undo := goodIn_r _ [747, 21, 614, 16, 748, 749, 750, 20, 751, 80, 79, 118, 119, 120, 15, 121, 39, 122, 123, 124, 125, 41, 42, 43, 44, 48, 52, 53, 126, 127, 128, 47, 129, 57, 130, 58, 59, 60, 61, 131, 132, 133, 51, 134, 65, 135, 66, 68, 69, 772, 773, 774, 775, 776, 777, 795, 796, 787, 788, 789, 790, 791, 792, 793, 794, 799, 800, 801, 802, 803, 804, 805, 806, 807] (by decide +kernel) (by decide +kernel)
set_option maxRecDepth 20000 in
theorem gL_law_X5_undo : GoodIn wsL_law (wsV RL 109 RX5 yX5_undo wsX5_undo) := goodIn_app (goodIn_of _ (by decide +kernel)) ggL_law_X5_undo
set_option maxRecDepth 20000 in
theorem ggL_law_X6_undo : GoodIn wsL_law wsX6_undo := goodIn_r _ [755, 153, 92, 93, 778, 779, 780, 781, 782, 783, 784, 785, 786] (by decide +kernel) (by decide +kernel)
set_option maxRecDepth 20000 in
theorem gL_law_X6_undo : GoodIn wsL_law (wsV RL 112 RX6 yX6_undo wsX6_undo) := goodIn_app (goodIn_of _ (by decide +kernel)) ggL_law_X6_undo
set_option maxRecDepth 20000 in
theorem ggL_law_X5_save : GoodIn wsL_law wsX5_save := goodIn_r _ [759, 22, 16, 24, 439, 163, 164, 2, 165, 677, 119, 120, 15, 121, 39, 122, 123, 124, 125, 41, 42, 43, 44, 48, 52, 53, 126, 127, 128, 47, 129, 57, 130, 58, 59, 60, 61, 131, 132, 133, 51, 134, 65, 135, 66, 68, 69, 772, 773, 774, 775, 776, 777, 787, 788, 789, 790, 791, 792, 793, 794, 799, 800, 801, 802, 803, 804, 805, 806, 807] (by decide +kernel) (by decide +kernel)
set_option maxRecDepth 20000 in
theorem gL_law_X5_save : GoodIn wsL_law (wsV RL 113 RX5 yX5_save wsX5_save) := goodIn_app (goodIn_of _ (by decide +kernel)) ggL_law_X5_save
set_option maxRecDepth 20000 in
theorem ggL_law_X6_save : GoodIn wsL_law wsX6_save := goodIn_r _ [763, 95, 94, 92, 140, 141, 5, 142, 778, 779, 780, 781, 782, 783, 784, 785, 786] (by decide +kernel) (by decide +kernel)
set_option maxRecDepth 20000 in
theorem gL_law_X6_save : GoodIn wsL_law (wsV RL 116 RX6 yX6_save wsX6_save) := goodIn_app (goodIn_of _ (by decide +kernel)) ggL_law_X6_save
set_option maxRecDepth 20000 in
theorem ggL_law_X5_restore : GoodIn wsL_law wsX5_restore := goodIn_r _ [767, 24, 21, 16, 22, 439, 163, 164, 2, 165, 110, 111, 112, 20, 113, 80, 79, 114, 115, 116, 117, 118, 119, 120, 15, 121, 39, 122, 123, 124, 125, 41, 42, 43, 44, 48, 52, 53, 126, 127, 128, 47, 129, 57, 130, 58, 59, 60, 61, 131, 132, 133, 51, 134, 65, 135, 66, 68, 69, 677, 772, 773, 774, 775, 776, 777, 787, 788, 789, 790, 791, 792, 793, 794, 795, 796, 799, 800, 801, 802, 803, 804, 805, 806, 807] (by decide +kernel) (by decide +kernel)
set_option maxRecDepth 20000 in
theorem gL_law_X5_restore : GoodIn wsL_law (wsV RL 117 RX5 yX5_restore wsX5_restore) := goodIn_app (goodIn_of _ (by decide +kernel)) ggL_law_X5_restore
set_option maxRecDepth 20000 in
theorem ggL_law_X6_restore : GoodIn wsL_law wsX6_restore := goodIn_r _ [771, 95, 92, 94, 140, 141, 5, 142, 149, 150, 151, 152, 153, 93, 778, 779, 780, 781, 782, 783, 784, 785, 786] (by decide +kernel) (by decide +kernel)
set_option maxRecDepth 20000 in
theorem gL_law_X6_restore : GoodIn wsL_law (wsV RL 120 RX6 yX6_restore wsX6_restore) := goodIn_app (goodIn_of _ (by decide +kernel)) ggL_law_X6_restore
