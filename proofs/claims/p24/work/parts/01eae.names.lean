set_option maxRecDepth 20000 in
theorem ggL_refused_L_refusesAny_1 : GoodIn wsL_refused [(Cond.code yL_refusesAny cL_refusesAny 5 (some .boolean) : Cond)] := x_g1 96 rfl (by decide +kernel)
set_option maxRecDepth 20000 in
theorem ggL_refused_L_refusesAny_2 : GoodIn wsL_refused (wsL_refusesAny_r1) := goodIn_r _ [97, 98, 99, 7, 8, 9, 10, 11, 12, 13, 14, 15, 16, 17, 18, 19, 20, 21, 22, 23, 24, 25, 26, 27] (by decide +kernel) (by decide +kernel)
set_option maxRecDepth 20000 in
theorem ggL_refused_L_refusesAny_3 : GoodIn wsL_refused (wsL_refusesAny_r2) := goodIn_r _ [28, 29, 30, 31, 32, 33, 34, 35, 100, 101, 102, 103, 104, 105, 106, 107, 108, 109, 110, 111, 112, 113, 114, 115] (by decide +kernel) (by decide +kernel)
set_option maxRecDepth 20000 in
theorem ggL_refused_L_refusesAny_4 : GoodIn wsL_refused (wsL_refusesAny_r3) := goodIn_r _ [116, 117, 118, 119, 120, 121, 122, 123, 124, 125, 44, 126, 127, 128, 129, 130, 131, 132, 133, 134, 74, 67, 75, 135] (by decide +kernel) (by decide +kernel)
set_option maxRecDepth 20000 in
theorem ggL_refused_L_refusesAny_5 : GoodIn wsL_refused (wsL_refusesAny_r4) := goodIn_r _ [136, 137, 138, 139, 140, 141, 142, 49, 50, 51, 143, 144, 145, 146, 147, 148, 149, 150, 151, 152, 153, 154, 155, 156] (by decide +kernel) (by decide +kernel)
set_option maxRecDepth 20000 in
theorem ggL_refused_L_refusesAny_6 : GoodIn wsL_refused (wsL_refusesAny_r5) := goodIn_r _ [157, 158, 159, 89, 90, 91, 92, 41, 42, 43, 56, 46, 47, 48, 57, 58, 59, 60, 160, 161, 162, 163, 164, 165] (by decide +kernel) (by decide +kernel)
set_option maxRecDepth 20000 in
theorem ggL_refused_L_refusesAny_7 : GoodIn wsL_refused (wsL_refusesAny_r6) := goodIn_r _ [166, 167, 168, 169, 170, 171, 172, 173, 174, 175, 176, 177, 178, 179, 180, 181, 182, 183, 184, 185, 186, 187, 188, 189] (by decide +kernel) (by decide +kernel)
set_option maxRecDepth 20000 in
theorem ggL_refused_L_refusesAny_8 : GoodIn wsL_refused (wsL_refusesAny_r7) := goodIn_r _ [190, 191, 192, 193, 194, 195, 196, 197, 198, 199, 200, 201, 202, 203, 204, 205, 206, 207, 208, 209, 210, 211, 212, 213] (by decide +kernel) (by decide +kernel)
set_option maxRecDepth 20000 in
theorem ggL_refused_L_refusesAny_9 : GoodIn wsL_refused (wsL_refusesAny_r8) := goodIn_r _ [214, 215, 216, 217, 218, 219, 220, 221, 222, 223, 224, 225, 226, 227, 228, 229, 230, 231, 232, 233, 234, 235, 236, 237] (by decide +kernel) (by decide +kernel)
