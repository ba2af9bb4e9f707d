set_option maxRecDepth 20000 in
theorem ggL_law_L_refused_19 : GoodIn wsL_law (wsL_refused_r13) := goodIn_r _ [249, 250, 251, 252, 270, 271, 272, 273, 274, 275, 276, 305, 306, 307, 308, 309, 310, 311, 312, 313, 314, 257, 432, 433] (by decide +kernel) (by decide +kernel)
set_option maxRecDepth 20000 in
theorem ggL_law_L_refused_20 : GoodIn wsL_law (wsL_refused_r14) := goodIn_r _ [434, 435, 436, 437, 438, 439, 440, 441, 442, 443, 444, 445, 446, 447, 448, 449, 450, 451, 452, 453, 454, 455, 456, 457] (by decide +kernel) (by decide +kernel)
set_option maxRecDepth 20000 in
theorem ggL_law_L_refused_21 : GoodIn wsL_law (wsL_refused_r15) := goodIn_r _ [215, 216, 217, 218, 219, 220, 221, 222, 241, 242, 243, 244, 245, 246, 247, 248, 253, 254, 255, 256, 277, 278, 279, 280] (by decide +kernel) (by decide +kernel)
set_option maxRecDepth 20000 in
theorem ggL_law_L_refused_22 : GoodIn wsL_law (wsL_refused_r16) := goodIn_r _ [281, 282, 283, 284, 285, 286, 287, 288, 289, 290, 291, 292, 293, 294, 295, 296, 297, 298, 299, 300, 301, 302, 303, 304] (by decide +kernel) (by decide +kernel)
set_option maxRecDepth 20000 in
theorem ggL_law_L_refused_23 : GoodIn wsL_law (wsL_refused_r17) := goodIn_r _ [458, 459, 460, 461, 25, 462, 463, 464, 24, 465, 51, 100, 466, 104, 84, 85, 86, 87, 96, 97, 98, 99, 103, 77] (by decide +kernel) (by decide +kernel)
set_option maxRecDepth 20000 in
theorem ggL_law_L_refused_24 : GoodIn wsL_law (wsL_refused_r18) := goodIn_r _ [78, 79, 467, 468, 469, 470, 471, 472, 473, 474, 475, 476, 477, 478, 479, 480, 481, 482, 483, 484] (by decide +kernel) (by decide +kernel)
set_option maxRecDepth 20000 in
theorem ggL_law_L_refused_25 : GoodIn wsL_law (wsX60) := goodIn_r _ [533, 534, 535, 536, 537, 538] (by decide +kernel) (by decide +kernel)
set_option maxRecDepth 20000 in
theorem ggL_law_L_refused_26 : GoodIn wsL_law (wsX10) := goodIn_r _ [545, 546] (by decide +kernel) (by decide +kernel)
set_option maxRecDepth 20000 in
theorem ggL_law_L_refused_27 : GoodIn wsL_law (wsX00) := goodIn_r _ [540, 541, 542] (by decide +kernel) (by decide +kernel)
