set_option maxRecDepth 20000 in
theorem pl_wsL_law_r14 : ∀ w ∈ wsL_law_r14, w ∈ lw_tbl := in_places [178, 230, 232, 459, 461, 688, 689, 690, 691, 692, 694, 11, 695, 696, 698, 12, 699, 700, 702, 13, 703, 707, 709, 14] (by decide +kernel)
set_option maxRecDepth 20000 in
theorem pl_wsL_law_r15 : ∀ w ∈ wsL_law_r15, w ∈ lw_tbl := in_places [710, 711, 713, 15, 714, 715, 717, 16, 718, 628, 627, 629, 624, 623, 625, 626, 719, 721, 17, 722, 723, 725, 18, 726] (by decide +kernel)
set_option maxRecDepth 20000 in
theorem pl_wsL_law_r16 : ∀ w ∈ wsL_law_r16, w ∈ lw_tbl := in_places [727, 729, 19, 730, 618, 731, 733, 20, 734, 622, 735, 737, 21, 738, 739, 741, 22, 742, 743, 745, 23, 746, 747, 749] (by decide +kernel)
set_option maxRecDepth 20000 in
theorem pl_wsL_law_r17 : ∀ w ∈ wsL_law_r17, w ∈ lw_tbl := in_places [24, 750, 751, 752, 753, 754, 756, 25, 757, 758, 760, 26, 761, 762, 764, 27, 765, 770, 772, 29, 773, 462, 463, 464] (by decide +kernel)
set_option maxRecDepth 20000 in
theorem pl_wsL_law_r18 : ∀ w ∈ wsL_law_r18, w ∈ lw_tbl := in_places [465, 466, 467, 468, 469, 470, 471, 472, 473, 474, 475, 477, 8, 478, 479, 480, 481, 482, 483, 484, 782, 783, 784, 785] (by decide +kernel)
set_option maxRecDepth 20000 in
theorem pl_wsL_law_r19 : ∀ w ∈ wsL_law_r19, w ∈ lw_tbl := in_places [786, 788, 30, 789, 790, 792, 31, 793, 794, 796, 32, 797, 485, 486, 487, 488, 126, 489, 490, 491, 492, 493, 494, 495] (by decide +kernel)
set_option maxRecDepth 20000 in
theorem pl_wsL_law_r20 : ∀ w ∈ wsL_law_r20, w ∈ lw_tbl := in_places [496, 172, 497, 499, 9, 500, 802, 803, 804, 805, 806, 808, 33, 809, 810, 812, 34, 813, 814, 816, 35, 817, 501, 502] (by decide +kernel)
set_option maxRecDepth 20000 in
theorem pl_wsL_law_r21 : ∀ w ∈ wsL_law_r21, w ∈ lw_tbl := in_places [503, 504, 798, 799, 800, 801, 505, 506, 507, 508, 268, 266, 509, 510, 511, 512, 513, 514, 515, 516, 517, 518, 519, 520] (by decide +kernel)
set_option maxRecDepth 20000 in
theorem pl_wsL_law_r22 : ∀ w ∈ wsL_law_r22, w ∈ lw_tbl := in_places [521, 522, 523, 524, 525, 526, 851, 852, 853, 854, 616, 633, 831, 833, 36, 834, 630, 631, 835, 837, 37, 838, 839, 841] (by decide +kernel)
set_option maxRecDepth 20000 in
theorem pl_wsL_law_r23 : ∀ w ∈ wsL_law_r23, w ∈ lw_tbl := in_places [38, 842, 843, 845, 39, 846, 847, 849, 40, 850, 527, 528, 529, 530, 103, 105, 108, 111, 179, 182, 114, 855, 856, 857] (by decide +kernel)
set_option maxRecDepth 20000 in
theorem pl_wsL_law_r24 : ∀ w ∈ wsL_law_r24, w ∈ lw_tbl := in_places [858, 859, 861, 41, 862, 531, 532, 533, 534, 171, 174, 176, 535, 536, 537, 863, 864, 865, 866, 538, 539, 540, 541, 867] (by decide +kernel)
set_option maxRecDepth 20000 in
theorem pl_wsL_law_r25 : ∀ w ∈ wsL_law_r25, w ∈ lw_tbl := in_places [868, 869, 870, 542, 543, 544, 545, 189, 191, 284, 546, 548, 10, 549, 186, 550, 871, 872, 873, 874, 875, 877, 42, 878] (by decide +kernel)
set_option maxRecDepth 20000 in
theorem pl_wsL_law_r26 : ∀ w ∈ wsL_law_r26, w ∈ lw_tbl := in_places [879, 881, 43, 882, 551, 552, 553, 554, 227, 229, 231, 233, 883, 884, 885, 886, 555, 556, 557, 558, 235, 887, 888, 889] (by decide +kernel)
