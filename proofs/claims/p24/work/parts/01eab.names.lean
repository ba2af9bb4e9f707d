set_option maxRecDepth 20000 in
theorem ggL_refused_L_seen_1 : GoodIn wsL_refused [(Cond.code yL_seen cL_seen 4 (some .long) : Cond)] := x_g1 4 rfl (by decide +kernel)
set_option maxRecDepth 20000 in
theorem ggL_refused_L_seen_2 : GoodIn wsL_refused (wsL_seen_r1) := goodIn_r _ [5, 6, 7, 8, 9, 10, 11, 12, 13, 14, 15, 16, 17, 18, 19, 20, 21, 22, 23, 24, 25, 26, 27, 28] (by decide +kernel) (by decide +kernel)
set_option maxRecDepth 20000 in
theorem ggL_refused_L_seen_3 : GoodIn wsL_refused (wsL_seen_r2) := goodIn_r _ [29, 30, 31, 32, 33, 34, 35, 36, 37, 38, 39, 40, 41, 42, 43, 44, 45, 46, 47, 48, 49, 50, 51, 52] (by decide +kernel) (by decide +kernel)
set_option maxRecDepth 20000 in
theorem ggL_refused_L_seen_4 : GoodIn wsL_refused (wsL_seen_r3) := goodIn_r _ [53, 54, 55, 56, 57, 58, 59, 60, 61, 62, 63, 64, 65, 66, 67, 68, 69, 70, 71, 72, 73, 74, 75, 76] (by decide +kernel) (by decide +kernel)
set_option maxRecDepth 20000 in
theorem ggL_refused_L_seen_5 : GoodIn wsL_refused (wsL_seen_r4) := goodIn_r _ [77, 78, 79, 80, 81, 82, 83, 84, 85, 86, 87, 88, 89, 90, 91, 92, 93] (by decide +kernel) (by decide +kernel)
set_option maxRecDepth 20000 in
theorem ggL_refused_L_seen_6 : GoodIn wsL_refused (wsX60) := goodIn_r _ [429, 430, 431, 432, 433, 434] (by decide +kernel) (by decide +kernel)
set_option maxRecDepth 20000 in
theorem ggL_refused_L_seen_7 : GoodIn wsL_refused (wsX10) := goodIn_r _ [435, 436] (by decide +kernel) (by decide +kernel)
set_option maxRecDepth 20000 in
theorem ggL_refused_L_seen_8 : GoodIn wsL_refused (wsX00) := goodIn_r _ [437, 438, 439] (by decide +kernel) (by decide +kernel)
set_option maxRecDepth 20000 in
theorem ggL_refused_L_seen_9 : GoodIn wsL_refused (wsX30) := goodIn_r _ [440] (by decide +kernel) (by decide +kernel)
