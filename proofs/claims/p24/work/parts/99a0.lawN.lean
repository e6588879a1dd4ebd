/-! ===== the law's words are words of the tables, by their places ===== -/
theorem in_places {big ws : List Cond} (ps : List Nat) (hp : ws = ps.filterMap (fun i => big[i]?)) : ∀ w ∈ ws, w ∈ big := fun w h => by
  rw [hp] at h
  obtain ⟨i, -, hi⟩ := List.mem_filterMap.mp h
  exact List.mem_of_getElem? hi
theorem in_app {big a b : List Cond} (ha : ∀ w ∈ a, w ∈ big) (hb : ∀ w ∈ b, w ∈ big) : ∀ w ∈ a ++ b, w ∈ big := fun w h => (List.mem_append.mp h).elim (ha w) (hb w)
set_option maxRecDepth 20000 in
theorem pl_wsL_law_r1 : ∀ w ∈ wsL_law_r1, w ∈ lw_tbl := in_places [20, 21, 12, 22, 23, 24, 25, 26, 27, 28, 29, 13, 248, 126, 127, 16, 249, 177, 178, 17, 250, 216, 217, 18] (by decide +kernel)
set_option maxRecDepth 20000 in
theorem pl_wsL_law_r2 : ∀ w ∈ wsL_law_r2, w ∈ lw_tbl := in_places [251, 232, 233, 19, 252, 253, 30, 31, 32, 33, 34, 35, 14, 59, 62, 64, 66, 68, 70, 73, 76, 79, 81, 83] (by decide +kernel)
set_option maxRecDepth 20000 in
theorem pl_wsL_law_r3 : ∀ w ∈ wsL_law_r3, w ∈ lw_tbl := in_places [85, 36, 37, 38, 39, 40, 41, 15, 42, 50, 43, 51, 52, 53, 54, 44, 55, 56, 57, 58, 129, 130, 131, 132] (by decide +kernel)
set_option maxRecDepth 20000 in
theorem pl_wsL_law_r4 : ∀ w ∈ wsL_law_r4, w ∈ lw_tbl := in_places [134, 137, 139, 141, 144, 133, 180, 181, 182, 183, 187, 185, 189, 184, 219, 220, 221, 222, 224, 226, 223, 235, 236, 237] (by decide +kernel)
set_option maxRecDepth 20000 in
theorem pl_wsL_law_r5 : ∀ w ∈ wsL_law_r5, w ∈ lw_tbl := in_places [238, 240, 344, 345, 346, 347, 242, 348, 349, 350, 351, 241, 352, 353, 354, 355, 89, 91, 93, 356, 292, 293, 294, 295] (by decide +kernel)
set_option maxRecDepth 20000 in
theorem pl_wsL_law_r6 : ∀ w ∈ wsL_law_r6, w ∈ lw_tbl := in_places [296, 297, 362, 363, 364, 365, 80, 366, 367, 368, 369, 370, 372, 4, 373, 374, 361, 271, 272, 273, 274, 357, 358, 359] (by decide +kernel)
set_option maxRecDepth 20000 in
theorem pl_wsL_law_r7 : ∀ w ∈ wsL_law_r7, w ∈ lw_tbl := in_places [360, 378, 379, 11, 380, 381, 382, 267, 268, 269, 270, 63, 87, 90, 153, 155, 60, 225, 275, 277, 0, 278, 150, 279] (by decide +kernel)
set_option maxRecDepth 20000 in
theorem pl_wsL_law_r8 : ∀ w ∈ wsL_law_r8, w ∈ lw_tbl := in_places [280, 281, 282, 86, 283, 285, 1, 286, 82, 84, 92, 147, 94, 149, 151, 152, 154, 287, 288, 289, 290, 291, 298, 299] (by decide +kernel)
