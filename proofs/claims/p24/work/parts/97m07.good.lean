set_option maxRecDepth 20000 in
theorem ggL_law_L_act_17 : GoodIn wsL_law wsX20 := goodIn_r _ [446, 447] (by decide +kernel) (by decide +kernel)
set_option maxRecDepth 20000 in
theorem ggL_law_L_act_18 : GoodIn wsL_law wsX10 := goodIn_r _ [448, 449] (by decide +kernel) (by decide +kernel)
set_option maxRecDepth 20000 in
theorem ggL_law_L_act_19 : GoodIn wsL_law wsX30 := goodIn_r _ [450, 451] (by decide +kernel) (by decide +kernel)
set_option maxRecDepth 20000 in
theorem ggL_law_L_act_20 : GoodIn wsL_law wsX40 := goodIn_r _ [437, 438, 439, 440, 441, 442, 443, 444, 445] (by decide +kernel) (by decide +kernel)
set_option maxRecDepth 20000 in
theorem ggL_law_L_act : GoodIn wsL_law wsL_act := goodIn_app ggL_law_L_act_0 (goodIn_app (goodIn_app (goodIn_app (goodIn_app (goodIn_app (goodIn_app (goodIn_app (goodIn_app ggL_law_L_act_1 (goodIn_app ggL_law_L_act_2 (goodIn_app ggL_law_L_act_3 (goodIn_app ggL_law_L_act_4 (goodIn_app ggL_law_L_act_5 (goodIn_app ggL_law_L_act_6 (goodIn_app ggL_law_L_act_7 (goodIn_app ggL_law_L_act_8 (goodIn_app ggL_law_L_act_9 (goodIn_app ggL_law_L_act_10 (goodIn_app ggL_law_L_act_11 (goodIn_app ggL_law_L_act_12 ggL_law_L_act_13)))))))))))) ggL_law_L_act_14) ggL_law_L_act_15) ggL_law_L_act_16) ggL_law_L_act_17) ggL_law_L_act_18) ggL_law_L_act_19) ggL_law_L_act_20)
set_option maxRecDepth 20000 in
theorem gL_law_L_act : GoodIn wsL_law (va_wsS RL 74 yL_act wsL_act) := goodIn_app (goodIn_of _ (by decide +kernel)) ggL_law_L_act
set_option maxRecDepth 20000 in
theorem ggL_law_L_areKept_0 : GoodIn wsL_law [.code yL_areKept cL_areKept 3 (some .boolean)] := goodIn_r _ [398] (by decide +kernel) (by decide +kernel)
set_option maxRecDepth 20000 in
theorem ggL_law_L_areKept_1 : GoodIn wsL_law wsL_areKept_r1 := goodIn_r _ [151, 152, 153, 2, 154, 12, 155, 126, 156, 157, 16, 158, 159, 160, 24, 161, 28, 102, 137, 138, 139, 36, 140, 63] (by decide +kernel) (by decide +kernel)
