set_option maxRecDepth 20000 in
theorem ggL_law_L_texts_10 : GoodIn wsL_law (wsL_texts_r9) := goodIn_r _ [143, 144, 145, 146, 147, 148, 149, 150, 151, 152, 153, 154, 424, 425, 426, 427, 159, 160, 161, 162, 163, 164, 165, 166] (by decide +kernel) (by decide +kernel)
set_option maxRecDepth 20000 in
theorem ggL_law_L_texts_11 : GoodIn wsL_law (wsL_texts_r10) := goodIn_r _ [167, 168, 169, 170, 171, 172, 173, 174, 175, 176, 177, 178, 428, 429, 430, 431, 223, 224, 225, 226, 189, 120, 227, 228] (by decide +kernel) (by decide +kernel)
set_option maxRecDepth 20000 in
theorem ggL_law_L_texts_12 : GoodIn wsL_law (wsL_texts_r11) := goodIn_r _ [229, 230, 231, 113, 114, 115, 232, 233, 234, 235, 236, 237, 238, 239, 240, 258, 259, 260, 261, 262, 263, 264, 265, 266] (by decide +kernel) (by decide +kernel)
set_option maxRecDepth 20000 in
theorem ggL_law_L_texts_13 : GoodIn wsL_law (wsL_texts_r12) := goodIn_r _ [267, 268, 269, 249, 250, 251, 252, 270, 271, 272, 273, 274, 275, 276, 305, 306, 307, 308, 309, 310, 130, 311, 312, 313] (by decide +kernel) (by decide +kernel)
set_option maxRecDepth 20000 in
theorem ggL_law_L_texts_14 : GoodIn wsL_law (wsL_texts_r13) := goodIn_r _ [314, 257, 200, 201, 432, 433, 434, 435, 436, 437, 438, 439, 440, 441, 442, 443, 444, 208, 209, 210, 337, 445, 446, 447] (by decide +kernel) (by decide +kernel)
set_option maxRecDepth 20000 in
theorem ggL_law_L_texts_15 : GoodIn wsL_law (wsL_texts_r14) := goodIn_r _ [448, 342, 343, 344, 345, 449, 450, 451, 452, 453, 108, 109, 110, 111, 74, 112, 467, 468, 469, 470, 471, 472, 473, 474] (by decide +kernel) (by decide +kernel)
set_option maxRecDepth 20000 in
theorem ggL_law_L_texts_16 : GoodIn wsL_law (wsL_texts_r15) := goodIn_r _ [475, 476, 477, 478, 479, 480, 481, 482, 483, 484, 521, 522, 523, 524, 116, 117, 118, 119, 121, 126, 127, 128, 129, 66] (by decide +kernel) (by decide +kernel)
set_option maxRecDepth 20000 in
theorem ggL_law_L_texts_17 : GoodIn wsL_law (wsL_texts_r16) := goodIn_r _ [67, 68, 69, 70, 71, 72, 73, 76, 77, 78, 79, 185, 186, 187, 188, 190, 191, 192, 193, 194, 195, 196, 197, 198] (by decide +kernel) (by decide +kernel)
set_option maxRecDepth 20000 in
theorem ggL_law_L_texts_18 : GoodIn wsL_law (wsL_texts_r17) := goodIn_r _ [199, 202, 203, 204, 205, 206, 207, 211, 212, 213, 214, 179, 180, 181, 182, 183, 184] (by decide +kernel) (by decide +kernel)
