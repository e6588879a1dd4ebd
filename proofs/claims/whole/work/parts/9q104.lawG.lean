set_option maxRecDepth 20000 in
theorem ggL_law_X6_visit : GoodIn wsL_law wsX6_visit := goodIn_r _ [560, 16, 123, 20, 561, 562, 563, 131, 132, 133, 40, 134, 67, 449, 450, 451, 19, 452, 254, 255, 256, 257, 258, 76, 77, 78, 79, 259, 80, 260, 261, 262, 263, 264, 265, 266, 267, 268, 269, 270, 271, 272, 153, 154, 155, 62, 156, 157, 59, 158, 273, 274, 275, 15, 276, 49, 208, 234, 160, 161, 162, 277, 278, 279, 280, 281, 282, 283, 284, 58, 60, 285, 286, 287, 2, 288, 289, 290, 291, 292, 293, 294, 45, 44, 295, 228, 229, 230, 42, 231, 232, 233, 43, 296, 64, 65, 66, 68, 69, 70, 71, 297, 164, 165, 166, 298, 299, 300, 301, 302, 159, 564, 565, 566, 709, 710, 711, 712, 713, 714, 741, 742, 743, 744, 745, 746, 747, 748, 749, 750, 751, 752, 753, 754, 755, 756, 757, 758, 759, 760, 761, 762, 763, 764, 765, 779, 780] (by decide +kernel) (by decide +kernel)
set_option maxRecDepth 20000 in
theorem gL_law_X6_visit : GoodIn wsL_law (wsV RL 49 RX6 yX6_visit wsX6_visit) := goodIn_app (goodIn_of _ (by decide +kernel)) ggL_law_X6_visit
set_option maxRecDepth 20000 in
theorem ggL_law_X7_visit : GoodIn wsL_law wsX7_visit := goodIn_r _ [570, 118, 106, 113, 114, 116, 115, 171, 172, 5, 173, 466, 467, 468, 469, 470, 471, 472, 473, 364, 365, 366, 367, 368, 369, 348, 349, 370, 371, 372, 373, 374, 375, 376, 377, 378, 379, 380, 381, 382, 383, 384, 385, 386, 387, 388, 389, 390, 391, 392, 393, 394, 395, 396, 397, 398, 399, 400, 715, 716, 717, 718, 719, 720, 721, 722, 723, 724, 725, 726, 727, 728, 729, 730, 731, 732, 733, 734, 735, 736, 737, 738, 739, 740] (by decide +kernel) (by decide +kernel)
set_option maxRecDepth 20000 in
theorem gL_law_X7_visit : GoodIn wsL_law (wsV RL 52 RX7 yX7_visit wsX7_visit) := goodIn_app (goodIn_of _ (by decide +kernel)) ggL_law_X7_visit
set_option maxRecDepth 20000 in
theorem ggL_law_X6_coordinate : GoodIn wsL_law wsX6_coordinate := goodIn_r _ [574, 16, 183, 184, 204, 205, 206, 15, 207, 42, 208, 132, 133, 40, 134, 67, 159, 160, 161, 162, 62, 709, 710, 711, 712, 713, 714, 741, 742, 743, 744, 745, 746, 747, 748, 749, 750, 751, 752, 753, 754, 755, 779, 780] (by decide +kernel) (by decide +kernel)
set_option maxRecDepth 20000 in
theorem gL_law_X6_coordinate : GoodIn wsL_law (wsV RL 53 RX6 yX6_coordinate wsX6_coordinate) := goodIn_app (goodIn_of _ (by decide +kernel)) ggL_law_X6_coordinate
set_option maxRecDepth 20000 in
theorem ggL_law_X7_coordinate : GoodIn wsL_law wsX7_coordinate := goodIn_r _ [578, 118, 106, 329, 330, 331, 5, 332, 171, 172, 173, 715, 716, 717, 718, 719, 720, 721, 722, 723, 724, 725, 726, 727, 728, 729, 730, 731, 732, 733, 734, 735, 736, 737, 738, 739, 740] (by decide +kernel) (by decide +kernel)
set_option maxRecDepth 20000 in
theorem gL_law_X7_coordinate : GoodIn wsL_law (wsV RL 56 RX7 yX7_coordinate wsX7_coordinate) := goodIn_app (goodIn_of _ (by decide +kernel)) ggL_law_X7_coordinate
