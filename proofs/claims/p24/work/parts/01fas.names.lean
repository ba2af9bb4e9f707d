set_option maxRecDepth 20000 in
theorem gL_law_L_seen : GoodIn wsL_law (va_wsS RL 85 yL_seen wsL_seen) := goodIn_app (goodIn_of _ (by decide +kernel)) ggL_law_L_seen
set_option maxRecDepth 20000 in
theorem ggL_law_L_drawn : GoodIn wsL_law wsL_drawn := goodIn_r _ [527, 528] (by decide +kernel) (by decide +kernel)
set_option maxRecDepth 20000 in
theorem gL_law_L_drawn : GoodIn wsL_law (va_wsS RL 169 yL_drawn wsL_drawn) := goodIn_app (goodIn_of _ (by decide +kernel)) ggL_law_L_drawn
set_option maxRecDepth 20000 in
theorem ggL_law_L_part : GoodIn wsL_law wsL_part := goodIn_r _ [531, 532] (by decide +kernel) (by decide +kernel)
set_option maxRecDepth 20000 in
theorem gL_law_L_part : GoodIn wsL_law (va_wsS RL 173 yL_part wsL_part) := goodIn_app (goodIn_of _ (by decide +kernel)) ggL_law_L_part
set_option maxRecDepth 20000 in
theorem ggL_law_X6_count : GoodIn wsL_law wsX6_count := goodIn_r _ [119, 29, 21, 17, 120, 101, 2, 102, 121, 122, 123, 28, 124, 125, 126, 127, 128, 20, 129, 74, 130, 105, 106, 16, 107, 43, 533, 534, 535, 536, 537, 538, 545, 546, 540, 541, 542, 539] (by decide +kernel) (by decide +kernel)
set_option maxRecDepth 20000 in
theorem gL_law_X6_count : GoodIn wsL_law (wsV RL 13 RX6 yX6_count wsX6_count) := goodIn_app (goodIn_of _ (by decide +kernel)) ggL_law_X6_count
set_option maxRecDepth 20000 in
theorem ggL_law_X6_file : GoodIn wsL_law wsX6_file := goodIn_r _ [158, 21, 17, 88, 89, 90, 20, 91, 47, 75, 92, 93, 94, 16, 95, 43, 80, 81, 82, 83, 159, 160, 161, 162, 163, 164, 165, 166, 167, 168, 169, 170, 139, 105, 106, 107, 171, 172, 173, 174, 140, 141, 142, 101, 2, 102, 175, 176, 177, 178, 147, 148, 149, 150, 143, 144, 145, 146, 108, 109, 110, 111, 74, 112, 113, 114, 115, 533, 534, 535, 536, 537, 538, 540, 541, 542, 539] (by decide +kernel) (by decide +kernel)
set_option maxRecDepth 20000 in
theorem gL_law_X6_file : GoodIn wsL_law (wsV RL 34 RX6 yX6_file wsX6_file) := goodIn_app (goodIn_of _ (by decide +kernel)) ggL_law_X6_file
set_option maxRecDepth 20000 in
theorem ggL_law_X6_card : GoodIn wsL_law wsX6_card := goodIn_r _ [349, 21, 17, 88, 89, 90, 20, 91, 47, 75, 92, 93, 94, 16, 95, 43, 80, 81, 82, 83, 350, 351, 352, 353, 101, 2, 102, 139, 105, 106, 107, 143, 144, 145, 146, 108, 109, 110, 111, 74, 112, 113, 114, 115, 533, 534, 535, 536, 537, 538, 540, 541, 542, 539] (by decide +kernel) (by decide +kernel)
set_option maxRecDepth 20000 in
theorem gL_law_X6_card : GoodIn wsL_law (wsV RL 41 RX6 yX6_card wsX6_card) := goodIn_app (goodIn_of _ (by decide +kernel)) ggL_law_X6_card
set_option maxRecDepth 20000 in
theorem ggL_law_X6_set : GoodIn wsL_law wsX6_set := goodIn_r _ [332, 21, 17, 88, 89, 90, 20, 91, 47, 75, 92, 93, 94, 16, 95, 43, 80, 81, 82, 83, 333, 334, 335, 336, 101, 2, 102, 337, 259, 260, 261, 139, 105, 106, 107, 143, 144, 145, 146, 108, 109, 110, 111, 74, 112, 113, 114, 115, 533, 534, 535, 536, 537, 538, 540, 541, 542, 539] (by decide +kernel) (by decide +kernel)
set_option maxRecDepth 20000 in
theorem gL_law_X6_set : GoodIn wsL_law (wsV RL 26 RX6 yX6_set wsX6_set) := goodIn_app (goodIn_of _ (by decide +kernel)) ggL_law_X6_set
set_option maxRecDepth 20000 in
theorem ggL_law_X6_run : GoodIn wsL_law wsX6_run := goodIn_r _ [457, 21, 17, 88, 89, 90, 20, 91, 47, 75, 92, 93, 94, 16, 95, 43, 80, 81, 82, 83, 428, 429, 430, 2, 431, 37, 223, 224, 225, 226, 189, 168, 169, 170, 139, 105, 106, 107, 120, 101, 102, 227, 228, 229, 36, 230, 231, 113, 114, 115, 232, 65, 233, 172, 173, 174, 140, 141, 142, 234, 235, 236, 237, 176, 177, 178, 238, 239, 240, 258, 259, 260, 261, 262, 263, 264, 265, 266, 267, 268, 269, 249, 250, 251, 252, 270, 271, 272, 273, 274, 275, 276, 305, 306, 307, 308, 309, 310, 130, 311, 312, 313, 314, 257, 200, 201, 432, 433, 434, 435, 436, 437, 438, 439, 151, 152, 153, 154, 143, 144, 145, 146, 440, 441, 442, 443, 444, 208, 209, 210, 337, 171, 445, 446, 447, 448, 175, 147, 148, 149, 150, 108, 109, 110, 111, 74, 112, 533, 534, 535, 536, 537, 538, 540, 541, 542, 539, 552, 553, 554, 555] (by decide +kernel) (by decide +kernel)
set_option maxRecDepth 20000 in
theorem gL_law_X6_run : GoodIn wsL_law (wsV RL 48 RX6 yX6_run wsX6_run) := goodIn_app (goodIn_of _ (by decide +kernel)) ggL_law_X6_run
set_option maxRecDepth 20000 in
theorem ggL_law_X6_melt : GoodIn wsL_law wsX6_melt := goodIn_r _ [341, 21, 17, 88, 89, 90, 20, 91, 47, 75, 92, 93, 94, 16, 95, 43, 80, 81, 82, 83, 342, 343, 344, 345, 167, 168, 169, 170, 139, 105, 106, 107, 140, 141, 142, 143, 144, 145, 146, 108, 109, 110, 111, 74, 112, 113, 114, 115, 533, 534, 535, 536, 537, 538, 540, 541, 542, 539] (by decide +kernel) (by decide +kernel)
set_option maxRecDepth 20000 in
theorem gL_law_X6_melt : GoodIn wsL_law (wsV RL 38 RX6 yX6_melt wsX6_melt) := goodIn_app (goodIn_of _ (by decide +kernel)) ggL_law_X6_melt
set_option maxRecDepth 20000 in
theorem ggL_law_X6_restore : GoodIn wsL_law wsX6_restore := goodIn_r _ [87, 21, 17, 25, 88, 89, 90, 20, 91, 47, 75, 92, 93, 94, 16, 95, 43, 80, 81, 82, 83, 96, 97, 98, 24, 99, 100, 51, 101, 2, 102, 103, 77, 78, 79, 104, 105, 106, 107, 108, 109, 110, 111, 74, 112, 113, 114, 115, 533, 534, 535, 536, 537, 538, 540, 541, 542, 539, 543, 544] (by decide +kernel) (by decide +kernel)
set_option maxRecDepth 20000 in
theorem gL_law_X6_restore : GoodIn wsL_law (wsV RL 72 RX6 yX6_restore wsX6_restore) := goodIn_app (goodIn_of _ (by decide +kernel)) ggL_law_X6_restore
