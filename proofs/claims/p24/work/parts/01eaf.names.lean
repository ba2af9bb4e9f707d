set_option maxRecDepth 20000 in
theorem ggL_refused_L_refusesAny_10 : GoodIn wsL_refused (wsL_refusesAny_r9) := goodIn_r _ [238, 239, 240, 241, 242, 243, 244, 245, 246, 247, 248, 249, 250, 251, 252, 253, 254, 255, 256, 257, 258, 259, 260, 261] (by decide +kernel) (by decide +kernel)
set_option maxRecDepth 20000 in
theorem ggL_refused_L_refusesAny_11 : GoodIn wsL_refused (wsL_refusesAny_r10) := goodIn_r _ [262, 263, 40, 264, 265, 266, 267, 268, 269, 270, 271, 272, 273, 274, 275, 276, 277, 278, 279, 280, 281, 282, 283, 284] (by decide +kernel) (by decide +kernel)
set_option maxRecDepth 20000 in
theorem ggL_refused_L_refusesAny_12 : GoodIn wsL_refused (wsL_refusesAny_r11) := goodIn_r _ [285, 286, 287, 288, 289, 290, 291, 292, 293, 294, 295, 296, 297, 298, 299, 300, 301, 302, 303, 304, 305, 306, 307, 308] (by decide +kernel) (by decide +kernel)
set_option maxRecDepth 20000 in
theorem ggL_refused_L_refusesAny_13 : GoodIn wsL_refused (wsL_refusesAny_r12) := goodIn_r _ [309, 310, 66, 68, 311, 312, 313, 314, 315, 316, 317, 318, 319, 320, 321, 322, 323, 77, 78, 79, 324, 325, 326, 327] (by decide +kernel) (by decide +kernel)
set_option maxRecDepth 20000 in
theorem ggL_refused_L_refusesAny_14 : GoodIn wsL_refused (wsL_refusesAny_r13) := goodIn_r _ [328, 329, 330, 331, 332, 333, 334, 335, 336, 36, 37, 38, 39, 45, 52, 53, 54, 55, 61, 62, 63, 64, 65, 69] (by decide +kernel) (by decide +kernel)
set_option maxRecDepth 20000 in
theorem ggL_refused_L_refusesAny_15 : GoodIn wsL_refused (wsL_refusesAny_r14) := goodIn_r _ [70, 71, 72, 73, 76, 80, 81, 82, 83, 84, 85, 86, 87, 88, 93, 337, 338, 339, 340, 341, 342, 343, 344, 345] (by decide +kernel) (by decide +kernel)
set_option maxRecDepth 20000 in
theorem ggL_refused_L_refusesAny_16 : GoodIn wsL_refused (wsL_refusesAny_r15) := goodIn_r _ [346, 347, 348, 349, 350, 351, 352, 353, 354, 355, 356, 357, 358, 359, 360, 361, 362, 363, 364, 365, 366, 367, 368, 369] (by decide +kernel) (by decide +kernel)
set_option maxRecDepth 20000 in
theorem ggL_refused_L_refusesAny_17 : GoodIn wsL_refused (wsL_refusesAny_r16) := goodIn_r _ [370, 371, 372, 373, 374, 375, 376, 377, 378, 379, 380, 381, 382, 383, 384, 385, 386, 387, 388, 389, 390, 391, 392, 393] (by decide +kernel) (by decide +kernel)
set_option maxRecDepth 20000 in
theorem ggL_refused_L_refusesAny_18 : GoodIn wsL_refused (wsL_refusesAny_r17) := goodIn_r _ [394, 395, 396, 397, 398, 399, 400, 401, 402, 403, 404, 405, 406, 407, 408, 409, 410, 411, 412, 413, 414, 415, 416, 417] (by decide +kernel) (by decide +kernel)
