set_option maxRecDepth 20000 in
theorem ggL_law_L_limits_10 : GoodIn wsL_law (wsL_limits_r9) := goodIn_r _ [288, 289, 290, 291, 292, 293, 294, 295, 301, 302, 303, 304, 305, 306, 307, 308, 309, 310, 130, 311, 312, 313, 314, 346] (by decide +kernel) (by decide +kernel)
set_option maxRecDepth 20000 in
theorem ggL_law_L_limits_11 : GoodIn wsL_law (wsL_limits_r10) := goodIn_r _ [347, 348, 349, 350, 351, 352, 353, 454, 455, 456, 457, 428, 429, 430, 431, 432, 433, 434, 435, 436, 437, 438, 439, 440] (by decide +kernel) (by decide +kernel)
set_option maxRecDepth 20000 in
theorem ggL_law_L_limits_12 : GoodIn wsL_law (wsL_limits_r11) := goodIn_r _ [441, 442, 443, 444, 208, 209, 210, 337, 171, 445, 446, 447, 448, 175, 116, 117, 118, 119, 121, 122, 123, 124, 125, 126] (by decide +kernel) (by decide +kernel)
set_option maxRecDepth 20000 in
theorem ggL_law_L_limits_13 : GoodIn wsL_law (wsL_limits_r12) := goodIn_r _ [127, 128, 129, 185, 186, 187, 188, 190, 191, 192, 193, 194, 195, 196, 197, 198, 199, 202, 203, 204, 205, 206, 207, 211] (by decide +kernel) (by decide +kernel)
set_option maxRecDepth 20000 in
theorem ggL_law_L_limits_14 : GoodIn wsL_law ([Cond.instanceMethod yX3_timesWorn, Cond.selects RX3 yX3_timesWorn yX3_timesWorn, Cond.code yX3_timesWorn cX3_timesWorn 2 (some .int), Cond.methodLink RL 23 yX6_tooth, Cond.instanceMethod yX6_tooth, Cond.selects RX6 yX6_tooth yX6_tooth, Cond.code yX6_tooth cX6_tooth 3 (some .int), Cond.methodLink RX6 144 yX3_hasTooth, Cond.instanceMethod yX3_hasTooth, Cond.selects RX3 yX3_hasTooth yX3_hasTooth, Cond.code yX3_hasTooth cX3_hasTooth 3 (some .boolean), Cond.methodLink RX3 30 yX3_has, Cond.methodLink RX6 148 yX3_height, Cond.methodLink RL 97 yL_refused, Cond.static yL_refused, Cond.initialized RL] : List Cond) := goodIn_r _ [212, 213, 214, 179, 180, 181, 182, 183, 164, 165, 166, 167, 184, 315, 316, 6] (by decide +kernel) (by decide +kernel)
set_option maxRecDepth 20000 in
theorem ggL_law_L_limits_15 : GoodIn wsL_law [(Cond.code yL_refused cL_refused 4 (some .boolean) : Cond)] := x_g1 317 rfl (by decide +kernel)
set_option maxRecDepth 20000 in
theorem ggL_law_L_limits_16 : GoodIn wsL_law ([Cond.methodLink RL 85 yL_seen, Cond.static yL_seen] : List Cond) := goodIn_r _ [318, 319] (by decide +kernel) (by decide +kernel)
set_option maxRecDepth 20000 in
theorem ggL_law_L_limits_17 : GoodIn wsL_law [(Cond.code yL_seen cL_seen 4 (some .long) : Cond)] := x_g1 320 rfl (by decide +kernel)
set_option maxRecDepth 20000 in
theorem ggL_law_L_limits_18 : GoodIn wsL_law ([Cond.constantLong RL 9 (59), Cond.constantLong RL 11 (31), Cond.methodLink RL 89 yL_refusesAny, Cond.static yL_refusesAny] : List Cond) := goodIn_r _ [321, 322, 323, 324] (by decide +kernel) (by decide +kernel)
