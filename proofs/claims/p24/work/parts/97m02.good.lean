set_option maxRecDepth 20000 in
theorem ggL_law_L_digest_10 : GoodIn wsL_law wsX50 := goodIn_r _ [427, 428, 429, 430, 431, 432, 433, 434, 435, 436] (by decide +kernel) (by decide +kernel)
set_option maxRecDepth 20000 in
theorem ggL_law_L_digest_11 : GoodIn wsL_law wsX20 := goodIn_r _ [446, 447] (by decide +kernel) (by decide +kernel)
set_option maxRecDepth 20000 in
theorem ggL_law_L_digest_12 : GoodIn wsL_law wsX10 := goodIn_r _ [448, 449] (by decide +kernel) (by decide +kernel)
set_option maxRecDepth 20000 in
theorem ggL_law_L_digest_13 : GoodIn wsL_law wsX30 := goodIn_r _ [450, 451] (by decide +kernel) (by decide +kernel)
set_option maxRecDepth 20000 in
theorem ggL_law_L_digest : GoodIn wsL_law wsL_digest := goodIn_app ggL_law_L_digest_0 (goodIn_app (goodIn_app (goodIn_app (goodIn_app (goodIn_app (goodIn_app (goodIn_app ggL_law_L_digest_1 (goodIn_app ggL_law_L_digest_2 (goodIn_app ggL_law_L_digest_3 (goodIn_app ggL_law_L_digest_4 (goodIn_app ggL_law_L_digest_5 (goodIn_app ggL_law_L_digest_6 ggL_law_L_digest_7)))))) ggL_law_L_digest_8) ggL_law_L_digest_9) ggL_law_L_digest_10) ggL_law_L_digest_11) ggL_law_L_digest_12) ggL_law_L_digest_13)
set_option maxRecDepth 20000 in
theorem gL_law_L_digest : GoodIn wsL_law (va_wsS RL 66 yL_digest wsL_digest) := goodIn_app (goodIn_of _ (by decide +kernel)) ggL_law_L_digest
set_option maxRecDepth 20000 in
theorem ggL_law_X6_count_0 : GoodIn wsL_law [.code yX6_count cX6_count 2 (some .int)] := goodIn_r _ [154] (by decide +kernel) (by decide +kernel)
set_option maxRecDepth 20000 in
theorem ggL_law_X6_count_1 : GoodIn wsL_law wsX6_count_r1 := goodIn_r _ [12, 155, 126, 156, 157, 16, 158, 159, 160, 24, 161, 28, 102, 137, 138, 139, 36, 140, 63, 162, 163, 164, 2, 165] (by decide +kernel) (by decide +kernel)
