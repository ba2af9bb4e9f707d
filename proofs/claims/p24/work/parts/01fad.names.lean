set_option maxRecDepth 20000 in
theorem ggL_law_L_mesh_19 : GoodIn wsL_law ([Cond.constantLong RL 9 (59), Cond.constantLong RL 11 (31), Cond.methodLink RL 89 yL_refusesAny, Cond.static yL_refusesAny] : List Cond) := goodIn_r _ [321, 322, 323, 324] (by decide +kernel) (by decide +kernel)
set_option maxRecDepth 20000 in
theorem ggL_law_L_mesh_20 : GoodIn wsL_law [(Cond.code yL_refusesAny cL_refusesAny 5 (some .boolean) : Cond)] := x_g1 325 rfl (by decide +kernel)
set_option maxRecDepth 20000 in
theorem ggL_law_L_mesh_21 : GoodIn wsL_law ([Cond.constantLong RL 75 (32), Cond.constantLong RL 81 (127), Cond.constantLong RL 83 (11008), Cond.methodLink RL 26 yX6_set, Cond.instanceMethod yX6_set, Cond.selects RX6 yX6_set yX6_set, Cond.code yX6_set cX6_set 3 (some .int), Cond.methodLink RX6 57 yX3_changeSetting, Cond.instanceMethod yX3_changeSetting, Cond.selects RX3 yX3_changeSetting yX3_changeSetting, Cond.code yX3_changeSetting cX3_changeSetting 5 (some .int), Cond.methodLink RX3 27 yX3_setting, Cond.methodLink RL 38 yX6_melt, Cond.instanceMethod yX6_melt] : List Cond) := goodIn_r _ [326, 327, 328, 329, 330, 331, 332, 333, 334, 335, 336, 337, 338, 339] (by decide +kernel) (by decide +kernel)
set_option maxRecDepth 20000 in
theorem ggL_law_L_mesh_22 : GoodIn wsL_law wsL_mesh_r14 := by
  show GoodIn wsL_law ([Cond.initialized RL] ++ (Cond.code yL_refused cL_refused 4 (some .boolean) :: ([Cond.methodLink RL 85 yL_seen, Cond.static yL_seen] ++ (Cond.code yL_seen cL_seen 4 (some .long) :: ([Cond.constantLong RL 9 (59), Cond.constantLong RL 11 (31), Cond.methodLink RL 89 yL_refusesAny, Cond.static yL_refusesAny] ++ (Cond.code yL_refusesAny cL_refusesAny 5 (some .boolean) :: ([Cond.constantLong RL 75 (32), Cond.constantLong RL 81 (127), Cond.constantLong RL 83 (11008), Cond.methodLink RL 26 yX6_set, Cond.instanceMethod yX6_set, Cond.selects RX6 yX6_set yX6_set, Cond.code yX6_set cX6_set 3 (some .int), Cond.methodLink RX6 57 yX3_changeSetting, Cond.instanceMethod yX3_changeSetting, Cond.selects RX3 yX3_changeSetting yX3_changeSetting, Cond.code yX3_changeSetting cX3_changeSetting 5 (some .int), Cond.methodLink RX3 27 yX3_setting, Cond.methodLink RL 38 yX6_melt, Cond.instanceMethod yX6_melt] ++ [])))))))
  exact (goodIn_app ggL_law_L_mesh_15 (x_gc ggL_law_L_mesh_16 (goodIn_app ggL_law_L_mesh_17 (x_gc ggL_law_L_mesh_18 (goodIn_app ggL_law_L_mesh_19 (x_gc ggL_law_L_mesh_20 (goodIn_app ggL_law_L_mesh_21 x_gn)))))))
set_option maxRecDepth 20000 in
theorem ggL_law_L_mesh_23 : GoodIn wsL_law (wsL_mesh_r15) := goodIn_r _ [340, 341, 342, 343, 344, 345, 346, 347, 348, 349, 350, 351, 352, 353, 354, 355, 356, 357, 358, 359, 360, 361, 362, 363] (by decide +kernel) (by decide +kernel)
set_option maxRecDepth 20000 in
theorem ggL_law_L_mesh_24 : GoodIn wsL_law (wsL_mesh_r16) := goodIn_r _ [364, 365, 366, 367, 368, 369, 370, 371, 372, 373, 374, 375, 376, 377, 378, 379, 380, 381, 382, 383, 384, 385, 386, 387] (by decide +kernel) (by decide +kernel)
set_option maxRecDepth 20000 in
theorem ggL_law_L_mesh_25 : GoodIn wsL_law (wsL_mesh_r17) := goodIn_r _ [388, 389, 390, 391, 392, 393, 394, 395, 396, 397, 398, 399, 400, 401, 402, 403, 404, 405, 406, 407, 408, 409, 410, 411] (by decide +kernel) (by decide +kernel)
set_option maxRecDepth 20000 in
theorem ggL_law_L_mesh_26 : GoodIn wsL_law (wsL_mesh_r18) := goodIn_r _ [412, 413, 414, 415, 416, 417, 418, 419, 420, 421, 422, 423, 424, 425, 426, 427, 428, 429, 430, 431, 432, 433, 434, 435] (by decide +kernel) (by decide +kernel)
set_option maxRecDepth 20000 in
theorem ggL_law_L_mesh_27 : GoodIn wsL_law (wsL_mesh_r19) := goodIn_r _ [436, 437, 438, 439, 440, 441, 442, 443, 444, 445, 446, 447, 448, 449, 450, 451, 452, 453, 454, 455, 456, 457, 458, 459] (by decide +kernel) (by decide +kernel)
