set_option maxRecDepth 20000 in
theorem ggL_limits_L_refused_10 : GoodIn wsL_limits wsL_refused_r4 := by
  show GoodIn wsL_limits ([Cond.methodLink RX3 60 Lib.Math.min.name, Cond.static Lib.Math.min.name, Cond.code Lib.Math.min.name Lib.Math.min.code 2 (some .int), Cond.methodLink RX6 138 yX3_stepsSinceWorn, Cond.instanceMethod yX3_stepsSinceWorn, Cond.selects RX3 yX3_stepsSinceWorn yX3_stepsSinceWorn, Cond.code yX3_stepsSinceWorn cX3_stepsSinceWorn 2 (some .int), Cond.methodLink RX6 141 yX3_timesWorn, Cond.instanceMethod yX3_timesWorn, Cond.selects RX3 yX3_timesWorn yX3_timesWorn, Cond.code yX3_timesWorn cX3_timesWorn 2 (some .int), Cond.methodLink RL 23 yX6_tooth, Cond.instanceMethod yX6_tooth, Cond.selects RX6 yX6_tooth yX6_tooth, Cond.code yX6_tooth cX6_tooth 3 (some .int), Cond.methodLink RX6 144 yX3_hasTooth, Cond.instanceMethod yX3_hasTooth, Cond.selects RX3 yX3_hasTooth yX3_hasTooth, Cond.code yX3_hasTooth cX3_hasTooth 3 (some .boolean), Cond.methodLink RX3 30 yX3_has, Cond.methodLink RX6 148 yX3_height, Cond.methodLink RL 89 yL_refusesAny, Cond.static yL_refusesAny] ++ (Cond.code yL_refusesAny cL_refusesAny 5 (some .boolean) :: []))
  exact (goodIn_app ggL_limits_L_refused_8 (x_gc ggL_limits_L_refused_9 x_gn))
set_option maxRecDepth 20000 in
theorem ggL_limits_L_refused_11 : GoodIn wsL_limits (wsL_refused_r5) := goodIn_r _ [314, 315, 316, 317, 318, 319, 320, 66, 67, 68, 69, 43, 70, 71, 72, 73, 74, 75, 76, 77, 78, 321, 322, 323] (by decide +kernel) (by decide +kernel)
set_option maxRecDepth 20000 in
theorem ggL_limits_L_refused_12 : GoodIn wsL_limits (wsL_refused_r6) := goodIn_r _ [324, 248, 170, 171, 172, 92, 93, 94, 95, 104, 105, 106, 107, 109, 62, 63, 64, 65, 79, 80, 81, 82, 96, 97] (by decide +kernel) (by decide +kernel)
set_option maxRecDepth 20000 in
theorem ggL_limits_L_refused_13 : GoodIn wsL_limits (wsL_refused_r7) := goodIn_r _ [98, 99, 100, 101, 102, 103, 325, 326, 327, 328, 329, 330, 331, 332, 333, 334, 335, 336, 337, 338, 339, 340, 341, 216] (by decide +kernel) (by decide +kernel)
set_option maxRecDepth 20000 in
theorem ggL_limits_L_refused_14 : GoodIn wsL_limits (wsL_refused_r8) := goodIn_r _ [217, 218, 219, 220, 221, 222, 223, 342, 343, 344, 345, 29, 346, 347, 348, 28, 349, 350, 57, 351, 352, 353, 354, 355] (by decide +kernel) (by decide +kernel)
set_option maxRecDepth 20000 in
theorem ggL_limits_L_refused_15 : GoodIn wsL_limits (wsL_refused_r9) := goodIn_r _ [356, 357, 358, 359, 360, 361, 362, 363, 364, 51, 365, 366, 367, 368, 369, 370, 371, 372, 373, 374, 375, 376, 377, 378] (by decide +kernel) (by decide +kernel)
set_option maxRecDepth 20000 in
theorem ggL_limits_L_refused_16 : GoodIn wsL_limits (wsL_refused_r10) := goodIn_r _ [379, 380, 381, 382, 383, 384, 385, 386, 387, 388, 56, 389, 390, 391, 392, 393, 394, 395, 396, 397, 398, 399, 400, 401] (by decide +kernel) (by decide +kernel)
set_option maxRecDepth 20000 in
theorem ggL_limits_L_refused_17 : GoodIn wsL_limits (wsL_refused_r11) := goodIn_r _ [402, 403, 404, 405, 406, 407, 408, 409, 410, 411, 412, 413, 414, 415, 228, 229, 230, 231, 33, 121, 122, 123, 124, 130] (by decide +kernel) (by decide +kernel)
set_option maxRecDepth 20000 in
theorem ggL_limits_L_refused_18 : GoodIn wsL_limits (wsL_refused_r12) := goodIn_r _ [131, 132, 32, 133, 134, 135, 61, 136, 140, 141, 142, 143, 147, 148, 149, 169, 173, 174, 175, 176, 177, 178, 179, 180] (by decide +kernel) (by decide +kernel)
