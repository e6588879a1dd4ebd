set_option maxRecDepth 20000 in
theorem ggL_law_X6_set : GoodIn wsL_law wsX6_set := goodIn_r _ [122, 16, 123, 32, 124, 125, 126, 2, 127, 128, 129, 130, 131, 132, 133, 40, 134, 67, 135, 136, 137, 31, 138, 139, 101, 100, 14, 15, 140, 141, 142, 143, 144, 35, 36, 37, 11, 12, 38, 39, 41, 42, 43, 44, 45, 46, 47, 48, 49, 50, 51, 52, 53, 54, 55, 56, 57, 58, 59, 60, 61, 62, 63, 64, 65, 66, 68, 69, 70, 71, 145, 146, 147, 148, 149, 150, 151, 152, 153, 154, 155, 156, 157, 158, 159, 160, 161, 162, 163, 164, 165, 166, 709, 710, 711, 712, 713, 714, 741, 742, 743, 744, 745, 746, 747, 748, 749, 750, 751, 752, 753, 754, 755, 779, 780, 777, 778] (by decide +kernel) (by decide +kernel)
set_option maxRecDepth 20000 in
theorem gL_law_X6_set : GoodIn wsL_law (wsV RL 13 RX6 yX6_set wsX6_set) := goodIn_app (goodIn_of _ (by decide +kernel)) ggL_law_X6_set
set_option maxRecDepth 20000 in
theorem ggL_law_X7_set : GoodIn wsL_law wsX7_set := goodIn_r _ [170, 118, 106, 171, 172, 5, 173, 174, 175, 176, 177, 178, 108, 715, 716, 717, 718, 719, 720, 721, 722, 723, 724, 725, 726, 727, 728, 729, 730, 731, 732, 733, 734, 735, 736, 737, 738, 739, 740] (by decide +kernel) (by decide +kernel)
set_option maxRecDepth 20000 in
theorem gL_law_X7_set : GoodIn wsL_law (wsV RL 17 RX7 yX7_set wsX7_set) := goodIn_app (goodIn_of _ (by decide +kernel)) ggL_law_X7_set
set_option maxRecDepth 20000 in
theorem ggL_law_X6_stop : GoodIn wsL_law wsX6_stop := goodIn_r _ [182, 16, 183, 32, 184, 131, 132, 133, 40, 134, 67, 135, 136, 137, 31, 138, 139, 101, 100, 14, 15, 140, 141, 142, 143, 144, 35, 36, 37, 11, 12, 38, 39, 41, 42, 43, 44, 45, 46, 47, 48, 49, 50, 51, 52, 53, 54, 55, 56, 57, 58, 59, 60, 61, 62, 63, 64, 65, 66, 68, 69, 70, 71, 145, 146, 147, 148, 149, 150, 151, 152, 153, 154, 155, 156, 157, 158, 185, 709, 710, 711, 712, 713, 714, 741, 742, 743, 744, 745, 746, 747, 748, 749, 750, 751, 752, 753, 754, 755, 779, 780, 777, 778] (by decide +kernel) (by decide +kernel)
set_option maxRecDepth 20000 in
theorem gL_law_X6_stop : GoodIn wsL_law (wsV RL 18 RX6 yX6_stop wsX6_stop) := goodIn_app (goodIn_of _ (by decide +kernel)) ggL_law_X6_stop
set_option maxRecDepth 20000 in
theorem ggL_law_X7_stop : GoodIn wsL_law wsX7_stop := goodIn_r _ [189, 118, 106, 171, 172, 5, 173, 174, 175, 176, 177, 178, 108, 715, 716, 717, 718, 719, 720, 721, 722, 723, 724, 725, 726, 727, 728, 729, 730, 731, 732, 733, 734, 735, 736, 737, 738, 739, 740] (by decide +kernel) (by decide +kernel)
set_option maxRecDepth 20000 in
theorem gL_law_X7_stop : GoodIn wsL_law (wsV RL 21 RX7 yX7_stop wsX7_stop) := goodIn_app (goodIn_of _ (by decide +kernel)) ggL_law_X7_stop
