set_option maxRecDepth 20000 in
theorem ggL_law_L_refused_10 : GoodIn wsL_law wsL_refused_r4 := by
  show GoodIn wsL_law ([Cond.methodLink RX3 60 Lib.Math.min.name, Cond.static Lib.Math.min.name, Cond.code Lib.Math.min.name Lib.Math.min.code 2 (some .int), Cond.methodLink RX6 138 yX3_stepsSinceWorn, Cond.instanceMethod yX3_stepsSinceWorn, Cond.selects RX3 yX3_stepsSinceWorn yX3_stepsSinceWorn, Cond.code yX3_stepsSinceWorn cX3_stepsSinceWorn 2 (some .int), Cond.methodLink RX6 141 yX3_timesWorn, Cond.instanceMethod yX3_timesWorn, Cond.selects RX3 yX3_timesWorn yX3_timesWorn, Cond.code yX3_timesWorn cX3_timesWorn 2 (some .int), Cond.methodLink RL 23 yX6_tooth, Cond.instanceMethod yX6_tooth, Cond.selects RX6 yX6_tooth yX6_tooth, Cond.code yX6_tooth cX6_tooth 3 (some .int), Cond.methodLink RX6 144 yX3_hasTooth, Cond.instanceMethod yX3_hasTooth, Cond.selects RX3 yX3_hasTooth yX3_hasTooth, Cond.code yX3_hasTooth cX3_hasTooth 3 (some .boolean), Cond.methodLink RX3 30 yX3_has, Cond.methodLink RX6 148 yX3_height, Cond.methodLink RL 89 yL_refusesAny, Cond.static yL_refusesAny] ++ (Cond.code yL_refusesAny cL_refusesAny 5 (some .boolean) :: []))
  exact (goodIn_app ggL_law_L_refused_8 (x_gc ggL_law_L_refused_9 x_gn))
set_option maxRecDepth 20000 in
theorem ggL_law_L_refused_11 : GoodIn wsL_law (wsL_refused_r5) := goodIn_r _ [326, 327, 328, 329, 330, 331, 332, 88, 89, 90, 91, 47, 75, 92, 93, 94, 95, 80, 81, 82, 83, 333, 334, 335] (by decide +kernel) (by decide +kernel)
set_option maxRecDepth 20000 in
theorem ggL_law_L_refused_12 : GoodIn wsL_law (wsL_refused_r6) := goodIn_r _ [336, 337, 259, 260, 261, 143, 144, 145, 146, 108, 109, 110, 111, 112, 131, 132, 133, 134, 135, 136, 137, 138, 147, 148] (by decide +kernel) (by decide +kernel)
set_option maxRecDepth 20000 in
theorem ggL_law_L_refused_13 : GoodIn wsL_law (wsL_refused_r7) := goodIn_r _ [149, 150, 151, 152, 153, 154, 155, 156, 157, 158, 159, 160, 161, 162, 163, 338, 339, 340, 341, 342, 343, 344, 345, 346] (by decide +kernel) (by decide +kernel)
set_option maxRecDepth 20000 in
theorem ggL_law_L_refused_14 : GoodIn wsL_law (wsL_refused_r8) := goodIn_r _ [347, 348, 349, 350, 351, 352, 353, 354, 355, 356, 357, 33, 358, 359, 360, 32, 361, 362, 61, 363, 364, 365, 366, 367] (by decide +kernel) (by decide +kernel)
set_option maxRecDepth 20000 in
theorem ggL_law_L_refused_15 : GoodIn wsL_law (wsL_refused_r9) := goodIn_r _ [368, 369, 370, 371, 372, 373, 374, 375, 376, 55, 377, 378, 379, 380, 381, 382, 383, 384, 385, 386, 387, 388, 389, 390] (by decide +kernel) (by decide +kernel)
set_option maxRecDepth 20000 in
theorem ggL_law_L_refused_16 : GoodIn wsL_law (wsL_refused_r10) := goodIn_r _ [391, 392, 393, 394, 395, 396, 397, 398, 399, 400, 60, 401, 402, 403, 404, 405, 406, 407, 408, 409, 410, 411, 412, 413] (by decide +kernel) (by decide +kernel)
set_option maxRecDepth 20000 in
theorem ggL_law_L_refused_17 : GoodIn wsL_law (wsL_refused_r11) := goodIn_r _ [414, 415, 416, 417, 418, 419, 420, 421, 422, 423, 424, 425, 426, 427, 428, 429, 430, 431, 37, 223, 224, 225, 226, 227] (by decide +kernel) (by decide +kernel)
set_option maxRecDepth 20000 in
theorem ggL_law_L_refused_18 : GoodIn wsL_law (wsL_refused_r12) := goodIn_r _ [228, 229, 36, 230, 231, 232, 65, 233, 234, 235, 236, 237, 238, 239, 240, 258, 262, 263, 264, 265, 266, 267, 268, 269] (by decide +kernel) (by decide +kernel)
