set_option maxRecDepth 20000 in
theorem ggL_law_L_limits_1 : GoodIn wsL_law [(Cond.code yL_limits cL_limits 2 (some .boolean) : Cond)] := x_g1 487 rfl (by decide +kernel)
set_option maxRecDepth 20000 in
theorem ggL_law_L_limits_2 : GoodIn wsL_law (wsL_limits_r1) := goodIn_r _ [0, 1, 2, 8, 9, 10, 11, 12, 13, 14, 15, 16, 17, 18, 19, 20, 21, 22, 23, 24, 25, 26, 27, 28] (by decide +kernel) (by decide +kernel)
set_option maxRecDepth 20000 in
theorem ggL_law_L_limits_3 : GoodIn wsL_law (wsL_limits_r2) := goodIn_r _ [29, 30, 31, 32, 33, 34, 35, 36, 37, 38, 39, 40, 41, 42, 43, 44, 45, 46, 47, 48, 49, 50, 51, 52] (by decide +kernel) (by decide +kernel)
set_option maxRecDepth 20000 in
theorem ggL_law_L_limits_4 : GoodIn wsL_law (wsL_limits_r3) := goodIn_r _ [53, 54, 55, 56, 57, 58, 59, 60, 61, 62, 63, 64, 65, 131, 132, 133, 134, 88, 89, 90, 91, 75, 92, 93] (by decide +kernel) (by decide +kernel)
set_option maxRecDepth 20000 in
theorem ggL_law_L_limits_5 : GoodIn wsL_law (wsL_limits_r4) := goodIn_r _ [94, 95, 80, 81, 82, 83, 135, 136, 137, 138, 101, 102, 139, 105, 106, 107, 140, 141, 142, 143, 144, 145, 146, 147] (by decide +kernel) (by decide +kernel)
set_option maxRecDepth 20000 in
theorem ggL_law_L_limits_6 : GoodIn wsL_law (wsL_limits_r5) := goodIn_r _ [148, 149, 150, 151, 152, 153, 154, 108, 109, 110, 111, 74, 112, 113, 114, 115, 215, 216, 217, 218, 219, 220, 221, 222] (by decide +kernel) (by decide +kernel)
set_option maxRecDepth 20000 in
theorem ggL_law_L_limits_7 : GoodIn wsL_law (wsL_limits_r6) := goodIn_r _ [223, 224, 225, 226, 189, 168, 169, 170, 120, 227, 228, 229, 230, 231, 232, 233, 172, 173, 174, 234, 235, 236, 237, 176] (by decide +kernel) (by decide +kernel)
set_option maxRecDepth 20000 in
theorem ggL_law_L_limits_8 : GoodIn wsL_law (wsL_limits_r7) := goodIn_r _ [177, 178, 238, 239, 240, 241, 242, 243, 244, 245, 246, 247, 248, 249, 250, 251, 252, 253, 254, 255, 256, 257, 200, 201] (by decide +kernel) (by decide +kernel)
set_option maxRecDepth 20000 in
theorem ggL_law_L_limits_9 : GoodIn wsL_law (wsL_limits_r8) := goodIn_r _ [258, 259, 260, 261, 262, 263, 264, 265, 266, 267, 268, 269, 270, 271, 272, 273, 274, 275, 276, 283, 284, 285, 286, 287] (by decide +kernel) (by decide +kernel)
