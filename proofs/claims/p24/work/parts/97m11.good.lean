set_option maxRecDepth 20000 in
theorem ggL_law_L_holds_10 : GoodIn wsL_law wsX50 := goodIn_r _ [427, 428, 429, 430, 431, 432, 433, 434, 435, 436] (by decide +kernel) (by decide +kernel)
set_option maxRecDepth 20000 in
theorem ggL_law_L_holds_11 : GoodIn wsL_law wsX20 := goodIn_r _ [446, 447] (by decide +kernel) (by decide +kernel)
set_option maxRecDepth 20000 in
theorem ggL_law_L_holds_12 : GoodIn wsL_law wsX10 := goodIn_r _ [448, 449] (by decide +kernel) (by decide +kernel)
set_option maxRecDepth 20000 in
theorem ggL_law_L_holds_13 : GoodIn wsL_law wsX30 := goodIn_r _ [450, 451] (by decide +kernel) (by decide +kernel)
set_option maxRecDepth 20000 in
theorem ggL_law_L_holds : GoodIn wsL_law wsL_holds := goodIn_app ggL_law_L_holds_0 (goodIn_app (goodIn_app (goodIn_app (goodIn_app (goodIn_app (goodIn_app (goodIn_app ggL_law_L_holds_1 (goodIn_app ggL_law_L_holds_2 (goodIn_app ggL_law_L_holds_3 (goodIn_app ggL_law_L_holds_4 (goodIn_app ggL_law_L_holds_5 (goodIn_app ggL_law_L_holds_6 ggL_law_L_holds_7)))))) ggL_law_L_holds_8) ggL_law_L_holds_9) ggL_law_L_holds_10) ggL_law_L_holds_11) ggL_law_L_holds_12) ggL_law_L_holds_13)
set_option maxRecDepth 20000 in
theorem gL_law_L_holds : GoodIn wsL_law (va_wsS RL 82 yL_holds wsL_holds) := goodIn_app (goodIn_of _ (by decide +kernel)) ggL_law_L_holds
