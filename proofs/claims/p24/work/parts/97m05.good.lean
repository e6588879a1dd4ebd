set_option maxRecDepth 20000 in
theorem ggL_law_L_act_1 : GoodIn wsL_law wsL_act_r1 := goodIn_r _ [151, 152, 153, 2, 154, 12, 155, 126, 156, 157, 16, 158, 159, 160, 24, 161, 28, 102, 137, 138, 139, 36, 140, 63] (by decide +kernel) (by decide +kernel)
set_option maxRecDepth 20000 in
theorem ggL_law_L_act_2 : GoodIn wsL_law wsL_act_r2 := goodIn_r _ [162, 163, 164, 165, 166, 167, 168, 169, 15, 170, 171, 172, 173, 174, 175, 72, 73, 74, 75, 176, 76, 177, 178, 179] (by decide +kernel) (by decide +kernel)
set_option maxRecDepth 20000 in
theorem ggL_law_L_act_3 : GoodIn wsL_law wsL_act_r3 := goodIn_r _ [180, 181, 182, 183, 184, 185, 186, 187, 188, 189, 116, 117, 118, 58, 119, 120, 55, 121, 190, 191, 192, 11, 193, 45] (by decide +kernel) (by decide +kernel)
set_option maxRecDepth 20000 in
theorem ggL_law_L_act_4 : GoodIn wsL_law wsL_act_r4 := goodIn_r _ [194, 195, 196, 197, 198, 199, 200, 201, 202, 203, 204, 205, 206, 54, 56, 207, 208, 209, 210, 211, 212, 213, 214, 215] (by decide +kernel) (by decide +kernel)
set_option maxRecDepth 20000 in
theorem ggL_law_L_act_5 : GoodIn wsL_law wsL_act_r5 := goodIn_r _ [216, 41, 40, 217, 218, 219, 220, 38, 221, 222, 223, 39, 224, 60, 61, 62, 64, 65, 66, 67, 225, 226, 227, 228] (by decide +kernel) (by decide +kernel)
set_option maxRecDepth 20000 in
theorem ggL_law_L_act_6 : GoodIn wsL_law wsL_act_r6 := goodIn_r _ [229, 230, 231, 232, 233, 234, 235, 276, 277, 147, 278, 279, 280, 281, 282, 283, 284, 285, 286, 287, 288, 289, 127, 128] (by decide +kernel) (by decide +kernel)
set_option maxRecDepth 20000 in
theorem ggL_law_L_act_7 : GoodIn wsL_law wsL_act_r7 := goodIn_r _ [129, 27, 130, 107, 97, 96, 10, 131, 132, 133, 134, 135, 31, 32, 33, 7, 8, 34, 35, 37, 42, 43, 44, 46] (by decide +kernel) (by decide +kernel)
set_option maxRecDepth 20000 in
theorem ggL_law_L_act_8 : GoodIn wsL_law wsL_act_r8 := goodIn_r _ [47, 48, 49, 50, 51, 52, 53, 57, 59, 108, 109, 110, 111, 112, 113, 114, 115, 290, 291, 292, 293, 294, 265, 295] (by decide +kernel) (by decide +kernel)
