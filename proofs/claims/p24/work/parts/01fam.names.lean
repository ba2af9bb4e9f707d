set_option maxRecDepth 20000 in
theorem ggL_law_L_texts_1 : GoodIn wsL_law [(Cond.code yL_texts cL_texts 2 (some .boolean) : Cond)] := x_g1 490 rfl (by decide +kernel)
set_option maxRecDepth 20000 in
theorem ggL_law_L_texts_2 : GoodIn wsL_law (wsL_texts_r1) := goodIn_r _ [0, 1, 2, 491, 492, 493, 494, 495, 496, 497, 498, 499, 500, 501, 502, 503, 504, 505, 506, 507, 508, 509, 510, 511] (by decide +kernel) (by decide +kernel)
set_option maxRecDepth 20000 in
theorem ggL_law_L_texts_3 : GoodIn wsL_law (wsL_texts_r2) := goodIn_r _ [512, 513, 514, 515, 516, 326, 8, 9, 10, 11, 12, 13, 14, 15, 16, 17, 18, 19, 20, 21, 22, 23, 24, 25] (by decide +kernel) (by decide +kernel)
set_option maxRecDepth 20000 in
theorem ggL_law_L_texts_4 : GoodIn wsL_law (wsL_texts_r3) := goodIn_r _ [26, 27, 28, 29, 30, 31, 32, 33, 34, 35, 36, 37, 38, 39, 40, 41, 42, 43, 44, 45, 46, 47, 48, 49] (by decide +kernel) (by decide +kernel)
set_option maxRecDepth 20000 in
theorem ggL_law_L_texts_5 : GoodIn wsL_law (wsL_texts_r4) := goodIn_r _ [50, 51, 52, 53, 54, 55, 56, 57, 58, 59, 60, 61, 62, 63, 64, 65, 517, 518, 519, 520, 358, 359, 360, 361] (by decide +kernel) (by decide +kernel)
set_option maxRecDepth 20000 in
theorem ggL_law_L_texts_6 : GoodIn wsL_law (wsL_texts_r5) := goodIn_r _ [362, 363, 364, 365, 366, 367, 368, 369, 370, 371, 372, 373, 374, 375, 376, 125, 377, 378, 379, 380, 381, 382, 383, 384] (by decide +kernel) (by decide +kernel)
set_option maxRecDepth 20000 in
theorem ggL_law_L_texts_7 : GoodIn wsL_law (wsL_texts_r6) := goodIn_r _ [385, 386, 387, 388, 389, 390, 391, 392, 101, 102, 393, 394, 395, 396, 397, 398, 399, 400, 401, 402, 403, 404, 405, 122] (by decide +kernel) (by decide +kernel)
set_option maxRecDepth 20000 in
theorem ggL_law_L_texts_8 : GoodIn wsL_law (wsL_texts_r7) := goodIn_r _ [123, 124, 354, 355, 356, 357, 88, 89, 90, 91, 75, 92, 93, 94, 95, 80, 81, 82, 83, 406, 407, 408, 409, 410] (by decide +kernel) (by decide +kernel)
set_option maxRecDepth 20000 in
theorem ggL_law_L_texts_9 : GoodIn wsL_law (wsL_texts_r8) := goodIn_r _ [411, 412, 413, 414, 415, 416, 417, 418, 419, 420, 421, 422, 423, 135, 136, 137, 138, 139, 105, 106, 107, 140, 141, 142] (by decide +kernel) (by decide +kernel)
