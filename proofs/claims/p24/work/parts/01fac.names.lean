set_option maxRecDepth 20000 in
theorem ggL_law_L_mesh_10 : GoodIn wsL_law (wsL_mesh_r9) := goodIn_r _ [197, 198, 199, 200, 201, 202, 203, 204, 205, 206, 207, 208, 209, 210, 211, 212, 213, 214, 215, 216, 217, 218, 219, 220] (by decide +kernel) (by decide +kernel)
set_option maxRecDepth 20000 in
theorem ggL_law_L_mesh_11 : GoodIn wsL_law (wsL_mesh_r10) := goodIn_r _ [221, 222, 223, 224, 225, 226, 227, 228, 229, 230, 231, 232, 233, 234, 235, 236, 237, 238, 239, 240, 241, 242, 243, 244] (by decide +kernel) (by decide +kernel)
set_option maxRecDepth 20000 in
theorem ggL_law_L_mesh_12 : GoodIn wsL_law (wsL_mesh_r11) := goodIn_r _ [245, 246, 247, 248, 249, 250, 251, 252, 253, 254, 255, 256, 257, 258, 259, 260, 261, 262, 263, 264, 265, 266, 267, 268] (by decide +kernel) (by decide +kernel)
set_option maxRecDepth 20000 in
theorem ggL_law_L_mesh_13 : GoodIn wsL_law (wsL_mesh_r12) := goodIn_r _ [269, 270, 271, 272, 273, 274, 275, 276, 277, 278, 279, 280, 281, 282, 283, 284, 285, 286, 287, 288, 289, 290, 291, 292] (by decide +kernel) (by decide +kernel)
set_option maxRecDepth 20000 in
theorem ggL_law_L_mesh_14 : GoodIn wsL_law (wsL_mesh_r13) := goodIn_r _ [293, 294, 295, 296, 297, 298, 299, 300, 301, 302, 303, 304, 305, 306, 307, 308, 309, 310, 311, 312, 313, 314, 315, 316] (by decide +kernel) (by decide +kernel)
set_option maxRecDepth 20000 in
theorem ggL_law_L_mesh_15 : GoodIn wsL_law ([Cond.initialized RL] : List Cond) := goodIn_r _ [6] (by decide +kernel) (by decide +kernel)
set_option maxRecDepth 20000 in
theorem ggL_law_L_mesh_16 : GoodIn wsL_law [(Cond.code yL_refused cL_refused 4 (some .boolean) : Cond)] := x_g1 317 rfl (by decide +kernel)
set_option maxRecDepth 20000 in
theorem ggL_law_L_mesh_17 : GoodIn wsL_law ([Cond.methodLink RL 85 yL_seen, Cond.static yL_seen] : List Cond) := goodIn_r _ [318, 319] (by decide +kernel) (by decide +kernel)
set_option maxRecDepth 20000 in
theorem ggL_law_L_mesh_18 : GoodIn wsL_law [(Cond.code yL_seen cL_seen 4 (some .long) : Cond)] := x_g1 320 rfl (by decide +kernel)
