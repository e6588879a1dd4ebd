set_option maxRecDepth 20000 in
theorem ggL_law_X6_count_2 : GoodIn wsL_law wsX6_count_r2 := goodIn_r _ [166, 167, 168, 169, 15, 170, 171, 172, 173, 174, 175, 72, 73, 74, 75, 176, 76, 177, 178, 179, 180, 181, 182, 183] (by decide +kernel) (by decide +kernel)
set_option maxRecDepth 20000 in
theorem ggL_law_X6_count_3 : GoodIn wsL_law wsX6_count_r3 := goodIn_r _ [184, 185, 186, 187, 188, 189, 116, 117, 118, 58, 119, 120, 55, 121, 190, 191, 192, 11, 193, 45, 194, 195, 196, 197] (by decide +kernel) (by decide +kernel)
set_option maxRecDepth 20000 in
theorem ggL_law_X6_count_4 : GoodIn wsL_law wsX6_count_r4 := goodIn_r _ [198, 199, 200, 201, 202, 203, 204, 205, 206, 54, 56, 207, 208, 209, 210, 211, 212, 213, 214, 215, 216, 41, 40, 217] (by decide +kernel) (by decide +kernel)
set_option maxRecDepth 20000 in
theorem ggL_law_X6_count_5 : GoodIn wsL_law wsX6_count_r5 := goodIn_r _ [218, 219, 220, 38, 221, 222, 223, 39, 224, 60, 61, 62, 64, 65, 66, 67, 225, 226, 227, 228, 229, 230, 231, 232] (by decide +kernel) (by decide +kernel)
set_option maxRecDepth 20000 in
theorem ggL_law_X6_count_6 : GoodIn wsL_law wsX6_count_r6 := goodIn_r _ [233, 234, 235] (by decide +kernel) (by decide +kernel)
set_option maxRecDepth 20000 in
theorem ggL_law_X6_count_7 : GoodIn wsL_law wsX60 := goodIn_r _ [406, 407, 408, 409, 410, 411] (by decide +kernel) (by decide +kernel)
set_option maxRecDepth 20000 in
theorem ggL_law_X6_count_8 : GoodIn wsL_law wsX00 := goodIn_r _ [412, 413, 414, 415, 416, 417, 418, 419, 420, 421, 422, 423, 424, 425, 426] (by decide +kernel) (by decide +kernel)
set_option maxRecDepth 20000 in
theorem ggL_law_X6_count_9 : GoodIn wsL_law wsX50 := goodIn_r _ [427, 428, 429, 430, 431, 432, 433, 434, 435, 436] (by decide +kernel) (by decide +kernel)
