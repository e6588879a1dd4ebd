set_option maxRecDepth 20000 in
theorem pl_wsL_law_r27 : ∀ w ∈ wsL_law_r27, w ∈ lw_tbl := in_places [890, 559, 560, 561, 562, 891, 892, 893, 894, 563, 564, 565, 566, 895, 896, 897, 898, 899, 901, 44, 902, 903, 905, 45] (by decide +kernel)
set_option maxRecDepth 20000 in
theorem pl_wsL_law_r28 : ∀ w ∈ wsL_law_r28, w ∈ lw_tbl := in_places [906, 567, 568, 569, 570, 571, 572, 573, 574, 575, 576, 577, 818, 819, 820, 821, 822, 578, 579, 580, 581, 823, 824, 825] (by decide +kernel)
set_option maxRecDepth 20000 in
theorem pl_wsL_law_r29 : ∀ w ∈ wsL_law_r29, w ∈ lw_tbl := in_places [826, 582, 583, 584, 585, 827, 828, 829, 830, 586, 587, 588, 589, 590, 591, 592, 593, 907, 908, 909, 910, 594, 595, 596] (by decide +kernel)
set_option maxRecDepth 20000 in
theorem pl_wsL_law_r30 : ∀ w ∈ wsL_law_r30, w ∈ lw_tbl := in_places [597, 911, 912, 913, 914, 598, 599, 600, 601, 915, 916, 917, 918] (by decide +kernel)
set_option maxRecDepth 20000 in
theorem pl_wsX60 : ∀ w ∈ wsX60, w ∈ lw_tbl := in_places [296, 298, 300, 302, 304, 306] (by decide +kernel)
set_option maxRecDepth 20000 in
theorem pl_wsX70 : ∀ w ∈ wsX70, w ∈ lw_tbl := in_places [634, 636, 638, 640, 642, 644, 646, 648, 650, 652, 654, 656, 658, 660, 662, 664, 666, 668, 670, 672, 674, 676, 678, 680, 682, 684] (by decide +kernel)
set_option maxRecDepth 20000 in
theorem pl_wsX00 : ∀ w ∈ wsX00, w ∈ lw_tbl := in_places [131, 133, 135, 137, 139, 141, 143, 145, 147, 149, 151, 153, 155, 157, 159] (by decide +kernel)
set_option maxRecDepth 20000 in
theorem pl_wsX50 : ∀ w ∈ wsX50, w ∈ lw_tbl := in_places [192, 194, 196, 198, 200, 202, 204, 206, 208, 210] (by decide +kernel)
set_option maxRecDepth 20000 in
theorem pl_wsX40 : ∀ w ∈ wsX40, w ∈ lw_tbl := in_places [238, 240, 242, 244, 246, 248, 250, 252, 254] (by decide +kernel)
set_option maxRecDepth 20000 in
theorem pl_wsX20 : ∀ w ∈ wsX20, w ∈ lw_tbl := in_places [269, 271] (by decide +kernel)
set_option maxRecDepth 20000 in
theorem pl_wsX10 : ∀ w ∈ wsX10, w ∈ lw_tbl := in_places [285, 287] (by decide +kernel)
set_option maxRecDepth 20000 in
theorem pl_wsX30 : ∀ w ∈ wsX30, w ∈ lw_tbl := in_places [81, 83] (by decide +kernel)
theorem wsL_law_in : ∀ w ∈ wsL_law, w ∈ lw_tbl := by
  unfold wsL_law
  exact in_app (in_app (in_app (in_app (in_app (in_app (in_app (in_app (in_app (in_app pl_wsL_law_r1 (in_app pl_wsL_law_r2 (in_app pl_wsL_law_r3 (in_app pl_wsL_law_r4 (in_app pl_wsL_law_r5 (in_app pl_wsL_law_r6 (in_app pl_wsL_law_r7 (in_app pl_wsL_law_r8 (in_app pl_wsL_law_r9 (in_app pl_wsL_law_r10 (in_app pl_wsL_law_r11 (in_app pl_wsL_law_r12 (in_app pl_wsL_law_r13 (in_app pl_wsL_law_r14 (in_app pl_wsL_law_r15 (in_app pl_wsL_law_r16 (in_app pl_wsL_law_r17 (in_app pl_wsL_law_r18 (in_app pl_wsL_law_r19 (in_app pl_wsL_law_r20 (in_app pl_wsL_law_r21 (in_app pl_wsL_law_r22 (in_app pl_wsL_law_r23 (in_app pl_wsL_law_r24 (in_app pl_wsL_law_r25 (in_app pl_wsL_law_r26 (in_app pl_wsL_law_r27 (in_app pl_wsL_law_r28 (in_app pl_wsL_law_r29 pl_wsL_law_r30))))))))))))))))))))))))))))) pl_wsX60) pl_wsX70) pl_wsX00) pl_wsX50) pl_wsX40) pl_wsX20) pl_wsX10) pl_wsX30) (fun _ h => absurd h List.not_mem_nil)
theorem inlX0 : ∀ w ∈ wsX00, w ∈ wsL_law := fun _ h => List.mem_append_left _ (List.mem_append_left _ (List.mem_append_left _ (List.mem_append_left _ (List.mem_append_left _ (List.mem_append_left _ (List.mem_append_right _ h))))))
theorem inX0 : ∀ w ∈ wsX00, w ∈ lw_tbl := fun w h => wsL_law_in w (inlX0 w h)
theorem inlX1 : ∀ w ∈ wsX10, w ∈ wsL_law := fun _ h => List.mem_append_left _ (List.mem_append_left _ (List.mem_append_right _ h))
theorem inX1 : ∀ w ∈ wsX10, w ∈ lw_tbl := fun w h => wsL_law_in w (inlX1 w h)
theorem inlX2 : ∀ w ∈ wsX20, w ∈ wsL_law := fun _ h => List.mem_append_left _ (List.mem_append_left _ (List.mem_append_left _ (List.mem_append_right _ h)))
theorem inX2 : ∀ w ∈ wsX20, w ∈ lw_tbl := fun w h => wsL_law_in w (inlX2 w h)
theorem inlX3 : ∀ w ∈ wsX30, w ∈ wsL_law := fun _ h => List.mem_append_left _ (List.mem_append_right _ h)
theorem inX3 : ∀ w ∈ wsX30, w ∈ lw_tbl := fun w h => wsL_law_in w (inlX3 w h)
theorem inlX4 : ∀ w ∈ wsX40, w ∈ wsL_law := fun _ h => List.mem_append_left _ (List.mem_append_left _ (List.mem_append_left _ (List.mem_append_left _ (List.mem_append_right _ h))))
theorem inX4 : ∀ w ∈ wsX40, w ∈ lw_tbl := fun w h => wsL_law_in w (inlX4 w h)
theorem inlX5 : ∀ w ∈ wsX50, w ∈ wsL_law := fun _ h => List.mem_append_left _ (List.mem_append_left _ (List.mem_append_left _ (List.mem_append_left _ (List.mem_append_left _ (List.mem_append_right _ h)))))
theorem inX5 : ∀ w ∈ wsX50, w ∈ lw_tbl := fun w h => wsL_law_in w (inlX5 w h)
theorem inlX6 : ∀ w ∈ wsX60, w ∈ wsL_law := fun _ h => List.mem_append_left _ (List.mem_append_left _ (List.mem_append_left _ (List.mem_append_left _ (List.mem_append_left _ (List.mem_append_left _ (List.mem_append_left _ (List.mem_append_left _ (List.mem_append_right _ h))))))))
theorem inX6 : ∀ w ∈ wsX60, w ∈ lw_tbl := fun w h => wsL_law_in w (inlX6 w h)
theorem inlX7 : ∀ w ∈ wsX70, w ∈ wsL_law := fun _ h => List.mem_append_left _ (List.mem_append_left _ (List.mem_append_left _ (List.mem_append_left _ (List.mem_append_left _ (List.mem_append_left _ (List.mem_append_left _ (List.mem_append_right _ h)))))))
theorem inX7 : ∀ w ∈ wsX70, w ∈ lw_tbl := fun w h => wsL_law_in w (inlX7 w h)
