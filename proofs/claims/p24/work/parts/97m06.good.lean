set_option maxRecDepth 20000 in
theorem ggL_law_L_act_9 : GoodIn wsL_law wsL_act_r9 := goodIn_r _ [296, 297, 298, 299, 247, 248, 249, 250, 300, 301, 302, 303, 304, 305, 306, 307, 308, 309, 310, 311, 312, 313, 314, 315] (by decide +kernel) (by decide +kernel)
set_option maxRecDepth 20000 in
theorem ggL_law_L_act_10 : GoodIn wsL_law wsL_act_r10 := goodIn_r _ [316, 317, 318, 319, 320, 321, 322, 323, 324, 325, 326, 327, 328, 329, 330, 331, 332, 333, 334, 335, 336, 122, 123, 124] (by decide +kernel) (by decide +kernel)
set_option maxRecDepth 20000 in
theorem ggL_law_L_act_11 : GoodIn wsL_law wsL_act_r11 := goodIn_r _ [125, 29, 136, 337, 338, 339, 340, 20, 341, 342, 343, 344, 345, 346, 347, 348, 349, 266, 267, 268, 269, 350, 351, 352] (by decide +kernel) (by decide +kernel)
set_option maxRecDepth 20000 in
theorem ggL_law_L_act_12 : GoodIn wsL_law wsL_act_r12 := goodIn_r _ [19, 353, 82, 354, 355, 84, 356, 357, 358, 359, 360, 361, 362, 363, 364, 365, 366, 367, 368, 369, 370, 371, 372, 373] (by decide +kernel) (by decide +kernel)
set_option maxRecDepth 20000 in
theorem ggL_law_L_act_13 : GoodIn wsL_law wsL_act_r13 := goodIn_r _ [374, 375, 376, 377, 378, 379, 380, 381, 382, 383, 384, 385, 386, 387, 388, 389, 390, 391, 392, 393, 394, 395] (by decide +kernel) (by decide +kernel)
set_option maxRecDepth 20000 in
theorem ggL_law_L_act_14 : GoodIn wsL_law wsX60 := goodIn_r _ [406, 407, 408, 409, 410, 411] (by decide +kernel) (by decide +kernel)
set_option maxRecDepth 20000 in
theorem ggL_law_L_act_15 : GoodIn wsL_law wsX00 := goodIn_r _ [412, 413, 414, 415, 416, 417, 418, 419, 420, 421, 422, 423, 424, 425, 426] (by decide +kernel) (by decide +kernel)
set_option maxRecDepth 20000 in
theorem ggL_law_L_act_16 : GoodIn wsL_law wsX50 := goodIn_r _ [427, 428, 429, 430, 431, 432, 433, 434, 435, 436] (by decide +kernel) (by decide +kernel)
