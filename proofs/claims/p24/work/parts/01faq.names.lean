set_option maxRecDepth 20000 in
theorem ggL_law_L_seen_1 : GoodIn wsL_law [(Cond.code yL_seen cL_seen 4 (some .long) : Cond)] := x_g1 320 rfl (by decide +kernel)
set_option maxRecDepth 20000 in
theorem ggL_law_L_seen_2 : GoodIn wsL_law (wsL_seen_r1) := goodIn_r _ [321, 322, 116, 117, 118, 2, 119, 29, 21, 17, 120, 101, 102, 121, 122, 123, 28, 124, 125, 126, 127, 128, 20, 129] (by decide +kernel) (by decide +kernel)
set_option maxRecDepth 20000 in
theorem ggL_law_L_seen_3 : GoodIn wsL_law (wsL_seen_r2) := goodIn_r _ [74, 130, 105, 106, 16, 107, 43, 185, 186, 187, 188, 189, 168, 169, 170, 139, 190, 172, 173, 174, 140, 141, 142, 191] (by decide +kernel) (by decide +kernel)
set_option maxRecDepth 20000 in
theorem ggL_law_L_seen_4 : GoodIn wsL_law (wsL_seen_r3) := goodIn_r _ [192, 193, 194, 171, 175, 176, 177, 178, 195, 196, 197, 198, 199, 200, 114, 201, 202, 203, 204, 205, 206, 113, 115, 207] (by decide +kernel) (by decide +kernel)
set_option maxRecDepth 20000 in
theorem ggL_law_L_seen_5 : GoodIn wsL_law (wsL_seen_r4) := goodIn_r _ [208, 209, 210, 211, 212, 213, 214, 179, 180, 181, 182, 183, 164, 165, 166, 167, 184] (by decide +kernel) (by decide +kernel)
set_option maxRecDepth 20000 in
theorem ggL_law_L_seen_6 : GoodIn wsL_law (wsX60) := goodIn_r _ [533, 534, 535, 536, 537, 538] (by decide +kernel) (by decide +kernel)
set_option maxRecDepth 20000 in
theorem ggL_law_L_seen_7 : GoodIn wsL_law (wsX10) := goodIn_r _ [545, 546] (by decide +kernel) (by decide +kernel)
set_option maxRecDepth 20000 in
theorem ggL_law_L_seen_8 : GoodIn wsL_law (wsX00) := goodIn_r _ [540, 541, 542] (by decide +kernel) (by decide +kernel)
set_option maxRecDepth 20000 in
theorem ggL_law_L_seen_9 : GoodIn wsL_law (wsX30) := goodIn_r _ [539] (by decide +kernel) (by decide +kernel)
