set_option maxRecDepth 20000 in
theorem pl_wsL_law_r17 : ∀ w ∈ wsL_law_r17, w ∈ lw_tbl := in_places [514, 10, 515, 145, 194, 517, 148, 191, 142, 192, 193, 516, 525, 526, 527, 521, 522, 523, 524, 518, 519, 520] (by decide +kernel)
set_option maxRecDepth 20000 in
theorem pl_wsX60 : ∀ w ∈ wsX60, w ∈ lw_tbl := in_places [254, 256, 258, 260, 262, 264] (by decide +kernel)
set_option maxRecDepth 20000 in
theorem pl_wsX00 : ∀ w ∈ wsX00, w ∈ lw_tbl := in_places [95, 97, 99, 101, 103, 105, 107, 109, 111, 113, 115, 117, 119, 121, 123] (by decide +kernel)
set_option maxRecDepth 20000 in
theorem pl_wsX50 : ∀ w ∈ wsX50, w ∈ lw_tbl := in_places [156, 158, 160, 162, 164, 166, 168, 170, 172, 174] (by decide +kernel)
set_option maxRecDepth 20000 in
theorem pl_wsX40 : ∀ w ∈ wsX40, w ∈ lw_tbl := in_places [197, 199, 201, 203, 205, 207, 209, 211, 213] (by decide +kernel)
set_option maxRecDepth 20000 in
theorem pl_wsX20 : ∀ w ∈ wsX20, w ∈ lw_tbl := in_places [227, 229] (by decide +kernel)
set_option maxRecDepth 20000 in
theorem pl_wsX10 : ∀ w ∈ wsX10, w ∈ lw_tbl := in_places [243, 245] (by decide +kernel)
set_option maxRecDepth 20000 in
theorem pl_wsX30 : ∀ w ∈ wsX30, w ∈ lw_tbl := in_places [45, 47] (by decide +kernel)
