set_option maxRecDepth 20000 in
theorem ggL_act_X6_count : GoodIn wsL_act wsX6_count := goodIn_r _ [5, 6, 7, 8, 9, 10, 11, 12, 13, 14, 15, 16, 17, 18, 19, 20, 21, 22, 23, 24, 25, 26, 27, 4, 28, 29, 30, 31, 32, 33, 34, 35, 36, 37, 38, 39, 40, 41, 42, 43, 44, 45, 46, 47, 48, 49, 50, 51, 52, 53, 54, 55, 56, 57, 58, 59, 60, 61, 62, 63, 64, 65, 66, 67, 68, 69, 70, 71, 72, 73, 74, 75, 76, 77, 78, 79, 80, 81, 82, 83, 84, 85, 86, 87, 88, 89, 90, 91, 92, 93, 94, 95, 96, 97, 98, 99, 100, 101, 102, 103, 104, 105, 106, 107, 108, 109, 110, 111, 112, 113, 114, 115, 116, 117, 118, 119, 120, 121, 122, 123, 124, 125, 126, 127, 311, 312, 313, 314, 315, 316, 317, 318, 319, 320, 321, 322, 323, 324, 325, 326, 327, 328, 329, 330, 331, 332, 333, 334, 335, 336, 337, 338, 339, 340, 341, 342, 343, 344, 345, 346, 347] (by decide +kernel) (by decide +kernel)
set_option maxRecDepth 20000 in
theorem gL_act_X6_count : GoodIn wsL_act (wsV RL 12 RX6 yX6_count wsX6_count) := goodIn_app (goodIn_of _ (by decide +kernel)) ggL_act_X6_count
set_option maxRecDepth 20000 in
theorem ggL_act_L_low : GoodIn wsL_act wsL_low := goodIn_r _ [131, 132] (by decide +kernel) (by decide +kernel)
set_option maxRecDepth 20000 in
theorem gL_act_L_low : GoodIn wsL_act (va_wsS RL 28 yL_low wsL_low) := goodIn_app (goodIn_of _ (by decide +kernel)) ggL_act_L_low
set_option maxRecDepth 20000 in
theorem ggL_act_X6_set : GoodIn wsL_act wsX6_set := goodIn_r _ [136, 6, 9, 17, 14, 137, 138, 4, 139, 140, 141, 142, 19, 20, 21, 22, 23, 24, 143, 144, 145, 146, 147, 148, 149, 150, 151, 70, 152, 153, 154, 155, 156, 157, 158, 159, 160, 161, 162, 163, 164, 104, 108, 99, 98, 165, 166, 167, 72, 168, 169, 170, 171, 172, 173, 174, 175, 86, 65, 87, 176, 62, 177, 110, 111, 112, 113, 114, 115, 116, 178, 179, 180, 181, 182, 183, 184, 185, 59, 60, 61, 63, 64, 66, 127, 75, 76, 77, 186, 118, 119, 120, 311, 312, 313, 314, 315, 316, 317, 318, 319, 320, 321, 322, 323, 324, 325, 326, 327, 328, 329, 330, 331, 346, 347, 344, 345] (by decide +kernel) (by decide +kernel)
set_option maxRecDepth 20000 in
theorem gL_act_X6_set : GoodIn wsL_act (wsV RL 33 RX6 yX6_set wsX6_set) := goodIn_app (goodIn_of _ (by decide +kernel)) ggL_act_X6_set
set_option maxRecDepth 20000 in
theorem ggL_act_X6_stop : GoodIn wsL_act wsX6_stop := goodIn_r _ [190, 6, 7, 17, 191, 19, 20, 21, 22, 23, 24, 143, 144, 145, 146, 147, 148, 149, 150, 151, 70, 152, 153, 154, 155, 156, 157, 158, 159, 160, 161, 162, 163, 164, 104, 108, 99, 98, 165, 166, 167, 72, 168, 169, 170, 171, 172, 173, 174, 175, 86, 65, 87, 176, 62, 177, 110, 111, 112, 113, 114, 115, 116, 178, 179, 180, 181, 182, 183, 184, 185, 59, 60, 61, 63, 64, 66, 192, 311, 312, 313, 314, 315, 316, 317, 318, 319, 320, 321, 322, 323, 324, 325, 326, 327, 328, 329, 330, 331, 346, 347, 344, 345] (by decide +kernel) (by decide +kernel)
set_option maxRecDepth 20000 in
theorem gL_act_X6_stop : GoodIn wsL_act (wsV RL 36 RX6 yX6_stop wsX6_stop) := goodIn_app (goodIn_of _ (by decide +kernel)) ggL_act_X6_stop
