set_option maxRecDepth 20000 in
theorem ggL_mesh_L_refused_19 : GoodIn wsL_mesh (wsL_refused_r13) := goodIn_r _ [245, 246, 247, 248, 266, 267, 268, 269, 270, 271, 272, 301, 302, 303, 304, 305, 306, 307, 308, 309, 310, 253, 429, 430] (by decide +kernel) (by decide +kernel)
set_option maxRecDepth 20000 in
theorem ggL_mesh_L_refused_20 : GoodIn wsL_mesh (wsL_refused_r14) := goodIn_r _ [431, 432, 433, 434, 435, 436, 437, 438, 439, 440, 441, 442, 443, 444, 445, 446, 447, 448, 449, 450, 451, 452, 453, 454] (by decide +kernel) (by decide +kernel)
set_option maxRecDepth 20000 in
theorem ggL_mesh_L_refused_21 : GoodIn wsL_mesh (wsL_refused_r15) := goodIn_r _ [211, 212, 213, 214, 215, 216, 217, 218, 237, 238, 239, 240, 241, 242, 243, 244, 249, 250, 251, 252, 273, 274, 275, 276] (by decide +kernel) (by decide +kernel)
set_option maxRecDepth 20000 in
theorem ggL_mesh_L_refused_22 : GoodIn wsL_mesh (wsL_refused_r16) := goodIn_r _ [277, 278, 279, 280, 281, 282, 283, 284, 285, 286, 287, 288, 289, 290, 291, 292, 293, 294, 295, 296, 297, 298, 299, 300] (by decide +kernel) (by decide +kernel)
set_option maxRecDepth 20000 in
theorem ggL_mesh_L_refused_23 : GoodIn wsL_mesh (wsL_refused_r17) := goodIn_r _ [455, 456, 457, 458, 21, 459, 460, 461, 20, 462, 47, 96, 463, 100, 80, 81, 82, 83, 92, 93, 94, 95, 99, 73] (by decide +kernel) (by decide +kernel)
set_option maxRecDepth 20000 in
theorem ggL_mesh_L_refused_24 : GoodIn wsL_mesh (wsL_refused_r18) := goodIn_r _ [74, 75, 464, 465, 466, 467, 468, 469, 470, 471, 472, 473, 474, 475, 476, 477, 478, 479, 480, 481] (by decide +kernel) (by decide +kernel)
set_option maxRecDepth 20000 in
theorem ggL_mesh_L_refused_25 : GoodIn wsL_mesh (wsX60) := goodIn_r _ [482, 483, 484, 485, 486, 487] (by decide +kernel) (by decide +kernel)
set_option maxRecDepth 20000 in
theorem ggL_mesh_L_refused_26 : GoodIn wsL_mesh (wsX10) := goodIn_r _ [494, 495] (by decide +kernel) (by decide +kernel)
set_option maxRecDepth 20000 in
theorem ggL_mesh_L_refused_27 : GoodIn wsL_mesh (wsX00) := goodIn_r _ [489, 490, 491] (by decide +kernel) (by decide +kernel)
