set_option maxRecDepth 20000 in
theorem ggL_mesh_L_refused_10 : GoodIn wsL_mesh wsL_refused_r4 := by
  show GoodIn wsL_mesh ([Cond.methodLink RX3 60 Lib.Math.min.name, Cond.static Lib.Math.min.name, Cond.code Lib.Math.min.name Lib.Math.min.code 2 (some .int), Cond.methodLink RX6 138 yX3_stepsSinceWorn, Cond.instanceMethod yX3_stepsSinceWorn, Cond.selects RX3 yX3_stepsSinceWorn yX3_stepsSinceWorn, Cond.code yX3_stepsSinceWorn cX3_stepsSinceWorn 2 (some .int), Cond.methodLink RX6 141 yX3_timesWorn, Cond.instanceMethod yX3_timesWorn, Cond.selects RX3 yX3_timesWorn yX3_timesWorn, Cond.code yX3_timesWorn cX3_timesWorn 2 (some .int), Cond.methodLink RL 23 yX6_tooth, Cond.instanceMethod yX6_tooth, Cond.selects RX6 yX6_tooth yX6_tooth, Cond.code yX6_tooth cX6_tooth 3 (some .int), Cond.methodLink RX6 144 yX3_hasTooth, Cond.instanceMethod yX3_hasTooth, Cond.selects RX3 yX3_hasTooth yX3_hasTooth, Cond.code yX3_hasTooth cX3_hasTooth 3 (some .boolean), Cond.methodLink RX3 30 yX3_has, Cond.methodLink RX6 148 yX3_height, Cond.methodLink RL 89 yL_refusesAny, Cond.static yL_refusesAny] ++ (Cond.code yL_refusesAny cL_refusesAny 5 (some .boolean) :: []))
  exact (goodIn_app ggL_mesh_L_refused_8 (x_gc ggL_mesh_L_refused_9 x_gn))
set_option maxRecDepth 20000 in
theorem ggL_mesh_L_refused_11 : GoodIn wsL_mesh (wsL_refused_r5) := goodIn_r _ [323, 324, 325, 326, 327, 328, 329, 84, 85, 86, 87, 43, 71, 88, 89, 90, 91, 76, 77, 78, 79, 330, 331, 332] (by decide +kernel) (by decide +kernel)
set_option maxRecDepth 20000 in
theorem ggL_mesh_L_refused_12 : GoodIn wsL_mesh (wsL_refused_r6) := goodIn_r _ [333, 334, 255, 256, 257, 139, 140, 141, 142, 104, 105, 106, 107, 108, 127, 128, 129, 130, 131, 132, 133, 134, 143, 144] (by decide +kernel) (by decide +kernel)
set_option maxRecDepth 20000 in
theorem ggL_mesh_L_refused_13 : GoodIn wsL_mesh (wsL_refused_r7) := goodIn_r _ [145, 146, 147, 148, 149, 150, 151, 152, 153, 154, 155, 156, 157, 158, 159, 335, 336, 337, 338, 339, 340, 341, 342, 343] (by decide +kernel) (by decide +kernel)
set_option maxRecDepth 20000 in
theorem ggL_mesh_L_refused_14 : GoodIn wsL_mesh (wsL_refused_r8) := goodIn_r _ [344, 345, 346, 347, 348, 349, 350, 351, 352, 353, 354, 29, 355, 356, 357, 28, 358, 359, 57, 360, 361, 362, 363, 364] (by decide +kernel) (by decide +kernel)
set_option maxRecDepth 20000 in
theorem ggL_mesh_L_refused_15 : GoodIn wsL_mesh (wsL_refused_r9) := goodIn_r _ [365, 366, 367, 368, 369, 370, 371, 372, 373, 51, 374, 375, 376, 377, 378, 379, 380, 381, 382, 383, 384, 385, 386, 387] (by decide +kernel) (by decide +kernel)
set_option maxRecDepth 20000 in
theorem ggL_mesh_L_refused_16 : GoodIn wsL_mesh (wsL_refused_r10) := goodIn_r _ [388, 389, 390, 391, 392, 393, 394, 395, 396, 397, 56, 398, 399, 400, 401, 402, 403, 404, 405, 406, 407, 408, 409, 410] (by decide +kernel) (by decide +kernel)
set_option maxRecDepth 20000 in
theorem ggL_mesh_L_refused_17 : GoodIn wsL_mesh (wsL_refused_r11) := goodIn_r _ [411, 412, 413, 414, 415, 416, 417, 418, 419, 420, 421, 422, 423, 424, 425, 426, 427, 428, 33, 219, 220, 221, 222, 223] (by decide +kernel) (by decide +kernel)
set_option maxRecDepth 20000 in
theorem ggL_mesh_L_refused_18 : GoodIn wsL_mesh (wsL_refused_r12) := goodIn_r _ [224, 225, 32, 226, 227, 228, 61, 229, 230, 231, 232, 233, 234, 235, 236, 254, 258, 259, 260, 261, 262, 263, 264, 265] (by decide +kernel) (by decide +kernel)
