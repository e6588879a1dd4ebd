set_option maxRecDepth 20000 in
theorem ggL_law_X6_count : GoodIn wsL_law wsX6_count := goodIn_r _ [154, 12, 155, 126, 156, 157, 16, 158, 159, 160, 24, 161, 28, 102, 137, 138, 139, 36, 140, 63, 162, 163, 164, 2, 165, 166, 167, 168, 169, 15, 170, 171, 172, 173, 174, 175, 72, 73, 74, 75, 176, 76, 177, 178, 179, 180, 181, 182, 183, 184, 185, 186, 187, 188, 189, 116, 117, 118, 58, 119, 120, 55, 121, 190, 191, 192, 11, 193, 45, 194, 195, 196, 197, 198, 199, 200, 201, 202, 203, 204, 205, 206, 54, 56, 207, 208, 209, 210, 211, 212, 213, 214, 215, 216, 41, 40, 217, 218, 219, 220, 38, 221, 222, 223, 39, 224, 60, 61, 62, 64, 65, 66, 67, 225, 226, 227, 228, 229, 230, 231, 232, 233, 234, 235, 406, 407, 408, 409, 410, 411, 412, 413, 414, 415, 416, 417, 418, 419, 420, 421, 422, 423, 424, 425, 426, 427, 428, 429, 430, 431, 432, 433, 434, 435, 436, 446, 447, 448, 449, 450, 451] (by decide +kernel) (by decide +kernel)
set_option maxRecDepth 20000 in
theorem gL_law_X6_count : GoodIn wsL_law (wsV RL 12 RX6 yX6_count wsX6_count) := goodIn_app (goodIn_of _ (by decide +kernel)) ggL_law_X6_count
set_option maxRecDepth 20000 in
theorem ggL_law_L_cell : GoodIn wsL_law wsL_cell := goodIn_r _ [272] (by decide +kernel) (by decide +kernel)
set_option maxRecDepth 20000 in
theorem gL_law_L_cell : GoodIn wsL_law (va_wsS RL 70 yL_cell wsL_cell) := goodIn_app (goodIn_of _ (by decide +kernel)) ggL_law_L_cell
