set_option maxRecDepth 20000 in
theorem ggL_limits_L_refused_19 : GoodIn wsL_limits (wsL_refused_r13) := goodIn_r _ [158, 159, 160, 161, 181, 182, 183, 184, 185, 186, 187, 205, 206, 207, 208, 209, 210, 212, 213, 214, 215, 166, 232, 233] (by decide +kernel) (by decide +kernel)
set_option maxRecDepth 20000 in
theorem ggL_limits_L_refused_20 : GoodIn wsL_limits (wsL_refused_r14) := goodIn_r _ [234, 235, 236, 237, 238, 239, 240, 241, 242, 243, 244, 250, 251, 252, 253, 416, 417, 418, 419, 420, 224, 225, 226, 227] (by decide +kernel) (by decide +kernel)
set_option maxRecDepth 20000 in
theorem ggL_limits_L_refused_21 : GoodIn wsL_limits (wsL_refused_r15) := goodIn_r _ [113, 114, 115, 116, 117, 118, 119, 120, 150, 151, 152, 153, 154, 155, 156, 157, 162, 163, 164, 165, 421, 422, 423, 424] (by decide +kernel) (by decide +kernel)
set_option maxRecDepth 20000 in
theorem ggL_limits_L_refused_22 : GoodIn wsL_limits (wsL_refused_r16) := goodIn_r _ [425, 426, 188, 189, 190, 191, 192, 193, 194, 195, 196, 197, 198, 199, 200, 427, 428, 429, 430, 431, 201, 202, 203, 204] (by decide +kernel) (by decide +kernel)
set_option maxRecDepth 20000 in
theorem ggL_limits_L_refused_23 : GoodIn wsL_limits (wsL_refused_r17) := goodIn_r _ [432, 433, 434, 435, 21, 436, 437, 438, 20, 439, 47, 440, 441, 442, 443, 444, 445, 446, 447, 448, 449, 450, 451, 452] (by decide +kernel) (by decide +kernel)
set_option maxRecDepth 20000 in
theorem ggL_limits_L_refused_24 : GoodIn wsL_limits (wsL_refused_r18) := goodIn_r _ [453, 454, 455, 456, 457, 458, 459, 460, 461, 462, 463, 464, 465, 466, 467, 468, 469, 470, 471, 472] (by decide +kernel) (by decide +kernel)
set_option maxRecDepth 20000 in
theorem ggL_limits_L_refused_25 : GoodIn wsL_limits (wsX60) := goodIn_r _ [473, 474, 475, 476, 477, 478] (by decide +kernel) (by decide +kernel)
set_option maxRecDepth 20000 in
theorem ggL_limits_L_refused_26 : GoodIn wsL_limits (wsX10) := goodIn_r _ [485, 486] (by decide +kernel) (by decide +kernel)
set_option maxRecDepth 20000 in
theorem ggL_limits_L_refused_27 : GoodIn wsL_limits (wsX00) := goodIn_r _ [480, 481, 482] (by decide +kernel) (by decide +kernel)
