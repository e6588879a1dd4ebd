set_option maxRecDepth 20000 in
theorem pl_wsL_law_r9 : ∀ w ∈ wsL_law_r9, w ∈ lw_tbl := in_places [300, 301, 302, 303, 304, 305, 306, 307, 308, 309, 311, 2, 312, 71, 332, 61, 74, 314, 315, 317, 318, 319, 320, 321] (by decide +kernel)
set_option maxRecDepth 20000 in
theorem pl_wsL_law_r10 : ∀ w ∈ wsL_law_r10, w ∈ lw_tbl := in_places [322, 325, 326, 327, 328, 329, 330, 331, 333, 334, 335, 336, 337, 338, 340, 3, 341, 77, 342, 343, 383, 384, 385, 386] (by decide +kernel)
set_option maxRecDepth 20000 in
theorem pl_wsL_law_r11 : ∀ w ∈ wsL_law_r11, w ∈ lw_tbl := in_places [67, 69, 72, 75, 143, 146, 78, 387, 388, 389, 390, 391, 392, 393, 394, 135, 138, 140, 395, 396, 397, 398, 399, 400] (by decide +kernel)
set_option maxRecDepth 20000 in
theorem pl_wsL_law_r12 : ∀ w ∈ wsL_law_r12, w ∈ lw_tbl := in_places [401, 65, 402, 403, 404, 405, 375, 376, 377, 406, 407, 408, 409, 410, 411, 412, 413, 414, 415, 416, 417, 418, 419, 420] (by decide +kernel)
set_option maxRecDepth 20000 in
theorem pl_wsL_law_r13 : ∀ w ∈ wsL_law_r13, w ∈ lw_tbl := in_places [421, 422, 423, 424, 425, 426, 427, 428, 429, 430, 431, 432, 433, 434, 435, 436, 437, 438, 439, 440, 441, 443, 5, 444] (by decide +kernel)
set_option maxRecDepth 20000 in
theorem pl_wsL_law_r14 : ∀ w ∈ wsL_law_r14, w ∈ lw_tbl := in_places [447, 445, 446, 448, 449, 450, 451, 452, 453, 454, 455, 456, 457, 458, 459, 460, 461, 462, 463, 464, 136, 465, 467, 6] (by decide +kernel)
set_option maxRecDepth 20000 in
theorem pl_wsL_law_r15 : ∀ w ∈ wsL_law_r15, w ∈ lw_tbl := in_places [468, 469, 470, 471, 472, 188, 473, 475, 7, 476, 477, 479, 8, 480, 481, 482, 483, 484, 190, 88, 195, 196, 485, 486] (by decide +kernel)
set_option maxRecDepth 20000 in
theorem pl_wsL_law_r16 : ∀ w ∈ wsL_law_r16, w ∈ lw_tbl := in_places [487, 488, 489, 490, 491, 492, 493, 494, 495, 496, 498, 9, 499, 500, 502, 503, 504, 506, 507, 508, 509, 510, 511, 512] (by decide +kernel)
