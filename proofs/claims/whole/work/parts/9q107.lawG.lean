set_option maxRecDepth 20000 in
theorem ggL_law_X6_dearest : GoodIn wsL_law wsX6_dearest := goodIn_r _ [636, 16, 199, 24, 194, 586, 587, 588, 2, 589, 20, 590, 449, 450, 451, 19, 452, 254, 255, 256, 257, 258, 76, 77, 78, 79, 259, 80, 260, 261, 262, 263, 264, 265, 266, 267, 268, 269, 270, 40, 271, 67, 272, 153, 154, 155, 62, 156, 157, 59, 158, 273, 274, 275, 15, 276, 49, 208, 132, 133, 134, 234, 160, 161, 162, 277, 278, 279, 280, 281, 282, 283, 284, 58, 60, 285, 286, 287, 288, 289, 290, 291, 292, 293, 294, 45, 44, 295, 228, 229, 230, 42, 231, 232, 233, 43, 296, 64, 65, 66, 68, 69, 70, 71, 297, 164, 165, 166, 298, 299, 300, 301, 302, 131, 159, 316, 146, 147, 148, 41, 46, 47, 48, 50, 51, 52, 149, 150, 151, 152, 413, 414, 415, 416, 417, 237, 238, 239, 418, 419, 420, 421, 222, 422, 227, 423, 424, 425, 426, 427, 709, 710, 711, 712, 713, 714, 741, 742, 743, 744, 745, 746, 747, 748, 749, 750, 751, 752, 753, 754, 755, 766, 767, 768, 769, 770, 771, 772, 773, 774, 756, 757, 758, 759, 760, 761, 762, 763, 764, 765, 779, 780] (by decide +kernel) (by decide +kernel)
set_option maxRecDepth 20000 in
theorem gL_law_X6_dearest : GoodIn wsL_law (wsV RL 75 RX6 yX6_dearest wsX6_dearest) := goodIn_app (goodIn_of _ (by decide +kernel)) ggL_law_X6_dearest
set_option maxRecDepth 20000 in
theorem ggL_law_X7_dearest : GoodIn wsL_law wsX7_dearest := goodIn_r _ [640, 118, 349, 106, 171, 172, 5, 173, 466, 467, 468, 469, 470, 471, 472, 473, 364, 113, 365, 366, 367, 368, 369, 348, 115, 114, 116, 370, 371, 372, 373, 374, 375, 376, 377, 378, 379, 380, 381, 382, 383, 384, 385, 386, 387, 388, 389, 390, 391, 392, 393, 394, 395, 396, 397, 398, 399, 400, 641, 642, 643, 644, 107, 436, 437, 438, 439, 440, 441, 442, 443, 356, 357, 358, 359, 337, 338, 339, 340, 645, 646, 647, 648, 715, 716, 717, 718, 719, 720, 721, 722, 723, 724, 725, 726, 727, 728, 729, 730, 731, 732, 733, 734, 735, 736, 737, 738, 739, 740] (by decide +kernel) (by decide +kernel)
set_option maxRecDepth 20000 in
theorem gL_law_X7_dearest : GoodIn wsL_law (wsV RL 78 RX7 yX7_dearest wsX7_dearest) := goodIn_app (goodIn_of _ (by decide +kernel)) ggL_law_X7_dearest
set_option maxRecDepth 20000 in
theorem ggL_law_X6_put : GoodIn wsL_law wsX6_put := goodIn_r _ [652, 28, 491, 653, 654, 27, 655, 131, 132, 133, 40, 134, 67, 656, 657, 658, 659, 94, 508, 64, 65, 66, 68, 69, 70, 71, 62, 709, 710, 711, 712, 713, 714, 775, 776, 779, 780] (by decide +kernel) (by decide +kernel)
set_option maxRecDepth 20000 in
theorem gL_law_X6_put : GoodIn wsL_law (wsV RL 81 RX6 yX6_put wsX6_put) := goodIn_app (goodIn_of _ (by decide +kernel)) ggL_law_X6_put
set_option maxRecDepth 20000 in
theorem ggL_law_X7_put : GoodIn wsL_law wsX7_put := goodIn_r _ [663, 118, 664, 514, 112, 171, 172, 5, 173, 715, 716, 717, 718, 719, 720, 721, 722, 723, 724, 725, 726, 727, 728, 729, 730, 731, 732, 733, 734, 735, 736, 737, 738, 739, 740] (by decide +kernel) (by decide +kernel)
set_option maxRecDepth 20000 in
theorem gL_law_X7_put : GoodIn wsL_law (wsV RL 85 RX7 yX7_put wsX7_put) := goodIn_app (goodIn_of _ (by decide +kernel)) ggL_law_X7_put
