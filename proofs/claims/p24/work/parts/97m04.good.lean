set_option maxRecDepth 20000 in
theorem ggL_law_X6_count_10 : GoodIn wsL_law wsX20 := goodIn_r _ [446, 447] (by decide +kernel) (by decide +kernel)
set_option maxRecDepth 20000 in
theorem ggL_law_X6_count_11 : GoodIn wsL_law wsX10 := goodIn_r _ [448, 449] (by decide +kernel) (by decide +kernel)
set_option maxRecDepth 20000 in
theorem ggL_law_X6_count_12 : GoodIn wsL_law wsX30 := goodIn_r _ [450, 451] (by decide +kernel) (by decide +kernel)
set_option maxRecDepth 20000 in
theorem ggL_law_X6_count : GoodIn wsL_law wsX6_count := goodIn_app ggL_law_X6_count_0 (goodIn_app (goodIn_app (goodIn_app (goodIn_app (goodIn_app (goodIn_app (goodIn_app ggL_law_X6_count_1 (goodIn_app ggL_law_X6_count_2 (goodIn_app ggL_law_X6_count_3 (goodIn_app ggL_law_X6_count_4 (goodIn_app ggL_law_X6_count_5 ggL_law_X6_count_6))))) ggL_law_X6_count_7) ggL_law_X6_count_8) ggL_law_X6_count_9) ggL_law_X6_count_10) ggL_law_X6_count_11) ggL_law_X6_count_12)
set_option maxRecDepth 20000 in
theorem gL_law_X6_count : GoodIn wsL_law (wsV RL 12 RX6 yX6_count wsX6_count) := goodIn_app (goodIn_of _ (by decide +kernel)) ggL_law_X6_count
set_option maxRecDepth 20000 in
theorem ggL_law_L_cell : GoodIn wsL_law wsL_cell := goodIn_r _ [272] (by decide +kernel) (by decide +kernel)
set_option maxRecDepth 20000 in
theorem gL_law_L_cell : GoodIn wsL_law (va_wsS RL 70 yL_cell wsL_cell) := goodIn_app (goodIn_of _ (by decide +kernel)) ggL_law_L_cell
set_option maxRecDepth 20000 in
theorem ggL_law_L_act_0 : GoodIn wsL_law [.code yL_act cL_act 6 (some .int)] := goodIn_r _ [275] (by decide +kernel) (by decide +kernel)
