set_option maxRecDepth 20000 in
theorem ggL_law_L_areKept_10 : GoodIn wsL_law wsX50 := goodIn_r _ [427, 428, 429, 430, 431, 432, 433, 434, 435, 436] (by decide +kernel) (by decide +kernel)
set_option maxRecDepth 20000 in
theorem ggL_law_L_areKept_11 : GoodIn wsL_law wsX20 := goodIn_r _ [446, 447] (by decide +kernel) (by decide +kernel)
set_option maxRecDepth 20000 in
theorem ggL_law_L_areKept_12 : GoodIn wsL_law wsX10 := goodIn_r _ [448, 449] (by decide +kernel) (by decide +kernel)
set_option maxRecDepth 20000 in
theorem ggL_law_L_areKept_13 : GoodIn wsL_law wsX30 := goodIn_r _ [450, 451] (by decide +kernel) (by decide +kernel)
set_option maxRecDepth 20000 in
theorem ggL_law_L_areKept : GoodIn wsL_law wsL_areKept := goodIn_app ggL_law_L_areKept_0 (goodIn_app (goodIn_app (goodIn_app (goodIn_app (goodIn_app (goodIn_app (goodIn_app ggL_law_L_areKept_1 (goodIn_app ggL_law_L_areKept_2 (goodIn_app ggL_law_L_areKept_3 (goodIn_app ggL_law_L_areKept_4 (goodIn_app ggL_law_L_areKept_5 (goodIn_app ggL_law_L_areKept_6 ggL_law_L_areKept_7)))))) ggL_law_L_areKept_8) ggL_law_L_areKept_9) ggL_law_L_areKept_10) ggL_law_L_areKept_11) ggL_law_L_areKept_12) ggL_law_L_areKept_13)
set_option maxRecDepth 20000 in
theorem gL_law_L_areKept : GoodIn wsL_law (va_wsS RL 78 yL_areKept wsL_areKept) := goodIn_app (goodIn_of _ (by decide +kernel)) ggL_law_L_areKept
set_option maxRecDepth 20000 in
theorem ggL_law_L_holds_0 : GoodIn wsL_law [.code yL_holds cL_holds 12 (some .boolean)] := goodIn_r _ [405] (by decide +kernel) (by decide +kernel)
set_option maxRecDepth 20000 in
theorem ggL_law_L_holds_1 : GoodIn wsL_law wsL_holds_r1 := goodIn_r _ [151, 152, 153, 2, 154, 12, 155, 126, 156, 157, 16, 158, 159, 160, 24, 161, 28, 102, 137, 138, 139, 36, 140, 63] (by decide +kernel) (by decide +kernel)
