set_option maxRecDepth 20000 in
theorem x_in_wsL_law_r7 : ∀ w ∈ wsL_law_r7, w ∈ lw_tbl := x_in_by [181, 0, 182, 201, 203, 1, 204, 205, 207, 2, 208, 209, 210, 211, 212, 213, 214, 215, 216, 217, 218, 219, 220, 221] (by decide +kernel)
set_option maxRecDepth 20000 in
theorem x_in_wsL_law_r8 : ∀ w ∈ wsL_law_r8, w ∈ lw_tbl := x_in_by [222, 223, 224, 225, 226, 227, 228, 229, 230, 231, 232, 409, 410, 411, 412, 413, 414, 385, 386, 387, 388, 261, 389, 390] (by decide +kernel)
set_option maxRecDepth 20000 in
theorem x_in_wsL_law_r9 : ∀ w ∈ wsL_law_r9, w ∈ lw_tbl := x_in_by [391, 392, 393, 394, 395, 396, 397, 398, 306, 307, 399, 400, 401, 402, 403, 404, 321, 322, 323, 405, 406, 407, 408, 498] (by decide +kernel)
set_option maxRecDepth 20000 in
theorem x_in_wsL_law_r10 : ∀ w ∈ wsL_law_r10, w ∈ lw_tbl := x_in_by [499, 500, 501, 502, 504, 15, 505, 257, 259, 4, 260, 263, 264, 265, 266, 271, 118, 267, 268, 269, 270, 272, 273, 274] (by decide +kernel)
set_option maxRecDepth 20000 in
theorem x_in_wsL_law_r11 : ∀ w ∈ wsL_law_r11, w ∈ lw_tbl := x_in_by [275, 506, 507, 508, 509, 510, 511, 512, 513, 285, 286, 287, 288, 514, 515, 516, 517, 305, 276, 172, 173, 174, 277, 278] (by decide +kernel)
set_option maxRecDepth 20000 in
theorem x_in_wsL_law_r12 : ∀ w ∈ wsL_law_r12, w ∈ lw_tbl := x_in_by [279, 280, 281, 282, 283, 284, 289, 291, 5, 292, 293, 294, 295, 518, 519, 520, 521, 522, 523, 524, 525, 526, 527, 528] (by decide +kernel)
set_option maxRecDepth 20000 in
theorem x_in_wsL_law_r13 : ∀ w ∈ wsL_law_r13, w ∈ lw_tbl := x_in_by [530, 16, 531, 536, 532, 533, 534, 535, 537, 538, 539, 540, 541, 542, 543, 544, 545, 296, 297, 298, 299, 119, 120, 301] (by decide +kernel)
set_option maxRecDepth 20000 in
theorem x_in_wsL_law_r14_0 : ∀ w ∈ ([Cond.instanceMethod yX5_tears, Cond.selects RX5 yX5_tears yX5_tears, Cond.code yX5_tears cX5_tears 9 (some .boolean), Cond.methodLink RL 97 yL_refused, Cond.static yL_refused] : List Cond), w ∈ lw_tbl := x_in_by [302, 303, 304, 415, 416] (by decide +kernel)
set_option maxRecDepth 20000 in
theorem x_in_wsL_law_r14_1 : (Cond.code yL_refused cL_refused 4 (some .boolean) : Cond) ∈ lw_tbl := List.mem_of_getElem? (i := 417) rfl
