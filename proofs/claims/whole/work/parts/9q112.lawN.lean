/-! ===== the law's words are words of the tables, by their places ===== -/
theorem in_places {big ws : List Cond} (ps : List Nat) (hp : ws = ps.filterMap (fun i => big[i]?)) : ∀ w ∈ ws, w ∈ big := fun w h => by
  rw [hp] at h
  obtain ⟨i, -, hi⟩ := List.mem_filterMap.mp h
  exact List.mem_of_getElem? hi
theorem in_app {big a b : List Cond} (ha : ∀ w ∈ a, w ∈ big) (hb : ∀ w ∈ b, w ∈ big) : ∀ w ∈ a ++ b, w ∈ big := fun w h => (List.mem_append.mp h).elim (ha w) (hb w)
set_option maxRecDepth 20000 in
theorem pl_wsL_law_r1 : ∀ w ∈ wsL_law_r1, w ∈ lw_tbl := in_places [56, 57, 47, 602, 603, 55, 919, 58, 59, 60, 61, 62, 63, 64, 65, 48, 290, 162, 163, 51, 291, 213, 214, 52] (by decide +kernel)
set_option maxRecDepth 20000 in
theorem pl_wsL_law_r2 : ∀ w ∈ wsL_law_r2, w ∈ lw_tbl := in_places [292, 257, 258, 53, 293, 274, 275, 54, 294, 295, 66, 67, 68, 69, 70, 71, 49, 95, 98, 100, 102, 104, 106, 109] (by decide +kernel)
set_option maxRecDepth 20000 in
theorem pl_wsL_law_r3 : ∀ w ∈ wsL_law_r3, w ∈ lw_tbl := in_places [112, 115, 117, 119, 121, 72, 73, 74, 75, 76, 77, 50, 78, 86, 79, 87, 88, 89, 90, 80, 91, 92, 93, 94] (by decide +kernel)
set_option maxRecDepth 20000 in
theorem pl_wsL_law_r4 : ∀ w ∈ wsL_law_r4, w ∈ lw_tbl := in_places [165, 166, 167, 168, 170, 173, 175, 177, 180, 169, 216, 217, 218, 219, 223, 221, 225, 220, 260, 261, 262, 263, 265, 267] (by decide +kernel)
set_option maxRecDepth 20000 in
theorem pl_wsL_law_r5 : ∀ w ∈ wsL_law_r5, w ∈ lw_tbl := in_places [264, 277, 278, 279, 280, 282, 604, 605, 606, 607, 609, 610, 611, 613, 687, 614, 615, 617, 619, 620, 621, 632, 608, 309] (by decide +kernel)
set_option maxRecDepth 20000 in
theorem pl_wsL_law_r6 : ∀ w ∈ wsL_law_r6, w ∈ lw_tbl := in_places [310, 311, 312, 123, 96, 313, 314, 315, 316, 317, 318, 319, 320, 321, 322, 323, 324, 325, 326, 283, 327, 329, 0, 330] (by decide +kernel)
set_option maxRecDepth 20000 in
theorem pl_wsL_law_r7 : ∀ w ∈ wsL_law_r7, w ∈ lw_tbl := in_places [331, 332, 333, 334, 335, 125, 127, 129, 336, 337, 338, 339, 340, 341, 342, 343, 344, 345, 346, 347, 348, 349, 350, 774] (by decide +kernel)
set_option maxRecDepth 20000 in
theorem pl_wsL_law_r8 : ∀ w ∈ wsL_law_r8, w ∈ lw_tbl := in_places [775, 776, 777, 704, 705, 706, 766, 768, 28, 769, 612, 351, 352, 353, 354, 99, 101, 355, 778, 779, 780, 781, 356, 357] (by decide +kernel)
set_option maxRecDepth 20000 in
theorem pl_wsL_law_r9 : ∀ w ∈ wsL_law_r9, w ∈ lw_tbl := in_places [358, 359, 224, 360, 362, 1, 363, 116, 364, 366, 2, 367, 368, 369, 370, 371, 372, 373, 374, 375, 376, 226, 124, 236] (by decide +kernel)
set_option maxRecDepth 20000 in
theorem pl_wsL_law_r10 : ∀ w ∈ wsL_law_r10, w ∈ lw_tbl := in_places [237, 377, 378, 379, 380, 381, 382, 383, 384, 385, 386, 387, 388, 389, 390, 392, 393, 394, 391, 395, 396, 397, 398, 399] (by decide +kernel)
set_option maxRecDepth 20000 in
theorem pl_wsL_law_r11 : ∀ w ∈ wsL_law_r11, w ∈ lw_tbl := in_places [400, 402, 3, 403, 404, 406, 407, 408, 410, 411, 412, 413, 414, 415, 122, 416, 418, 4, 419, 118, 120, 128, 183, 130] (by decide +kernel)
set_option maxRecDepth 20000 in
theorem pl_wsL_law_r12 : ∀ w ∈ wsL_law_r12, w ∈ lw_tbl := in_places [185, 187, 188, 190, 420, 421, 422, 423, 424, 425, 426, 427, 428, 429, 430, 431, 433, 5, 434, 107, 448, 97, 110, 436] (by decide +kernel)
set_option maxRecDepth 20000 in
theorem pl_wsL_law_r13 : ∀ w ∈ wsL_law_r13, w ∈ lw_tbl := in_places [437, 439, 440, 441, 442, 443, 444, 447, 449, 450, 451, 453, 6, 454, 113, 455, 457, 7, 458, 181, 234, 460, 184, 228] (by decide +kernel)
