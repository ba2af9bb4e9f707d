set_option maxRecDepth 20000 in
theorem gL_refused_L_refusesAny : GoodIn wsL_refused (va_wsS RL 89 yL_refusesAny wsL_refusesAny) := goodIn_app (goodIn_of _ (by decide +kernel)) ggL_refused_L_refusesAny
theorem dL_refused_0 : decode cL_refused 0 = .ok (.aload_n 0, 1) := by decide +kernel
theorem dL_refused_1 : decode cL_refused 1 = .ok (.invokestatic 85, 3) := by decide +kernel
theorem dL_refused_4 : decode cL_refused 4 = .ok (.lstore_n 1, 1) := by decide +kernel
theorem dL_refused_5 : decode cL_refused 5 = .ok (.aload_n 0, 1) := by decide +kernel
theorem dL_refused_6 : decode cL_refused 6 = .ok (.bipush 10, 2) := by decide +kernel
theorem dL_refused_8 : decode cL_refused 8 = .ok (.invokevirtual 13, 3) := by decide +kernel
theorem dL_refused_11 : decode cL_refused 11 = .ok (.istore_n 3, 1) := by decide +kernel
theorem dL_refused_12 : decode cL_refused 12 = .ok (.aload_n 0, 1) := by decide +kernel
theorem dL_refused_13 : decode cL_refused 13 = .ok (.iconst 0, 1) := by decide +kernel
theorem dL_refused_14 : decode cL_refused 14 = .ok (.invokestatic 89, 3) := by decide +kernel
theorem dL_refused_17 : decode cL_refused 17 = .ok (.ifCond .eq 34, 3) := by decide +kernel
theorem dL_refused_20 : decode cL_refused 20 = .ok (.aload_n 0, 1) := by decide +kernel
theorem dL_refused_21 : decode cL_refused 21 = .ok (.iconst 1, 1) := by decide +kernel
theorem dL_refused_22 : decode cL_refused 22 = .ok (.invokestatic 89, 3) := by decide +kernel
theorem dL_refused_25 : decode cL_refused 25 = .ok (.ifCond .eq 26, 3) := by decide +kernel
theorem dL_refused_28 : decode cL_refused 28 = .ok (.aload_n 0, 1) := by decide +kernel
theorem dL_refused_29 : decode cL_refused 29 = .ok (.invokestatic 85, 3) := by decide +kernel
theorem dL_refused_32 : decode cL_refused 32 = .ok (.lload_n 1, 1) := by decide +kernel
theorem dL_refused_33 : decode cL_refused 33 = .ok (.lcmp, 1) := by decide +kernel
theorem dL_refused_34 : decode cL_refused 34 = .ok (.ifCond .ne 17, 3) := by decide +kernel
theorem dL_refused_37 : decode cL_refused 37 = .ok (.aload_n 0, 1) := by decide +kernel
theorem dL_refused_38 : decode cL_refused 38 = .ok (.bipush 10, 2) := by decide +kernel
theorem dL_refused_40 : decode cL_refused 40 = .ok (.invokevirtual 13, 3) := by decide +kernel
theorem dL_refused_43 : decode cL_refused 43 = .ok (.iload_n 3, 1) := by decide +kernel
theorem dL_refused_44 : decode cL_refused 44 = .ok (.if_icmp .ne 7, 3) := by decide +kernel
theorem dL_refused_47 : decode cL_refused 47 = .ok (.iconst 1, 1) := by decide +kernel
theorem dL_refused_48 : decode cL_refused 48 = .ok (.goto 4, 3) := by decide +kernel
theorem dL_refused_51 : decode cL_refused 51 = .ok (.iconst 0, 1) := by decide +kernel
theorem dL_refused_52 : decode cL_refused 52 = .ok (.ireturn, 1) := by decide +kernel
set_option maxRecDepth 20000 in
theorem ggL_mesh_X6_init : GoodIn wsL_mesh wsX6_init := goodIn_r _ [6, 7, 8, 9, 10, 11, 12, 13, 14, 15, 16, 17, 18, 19, 20, 21, 22, 23, 24, 25, 26, 27, 28, 29, 30, 31, 32, 33, 34, 35, 36, 37, 38, 39, 40, 41, 42, 43, 44, 45, 46, 47, 48, 49, 50, 51, 52, 53, 54, 55, 56, 57, 58, 59, 60, 61, 488, 482, 483, 484, 485, 486, 487, 489, 490, 491, 492, 493, 494, 495, 496, 497, 498, 499, 500, 501, 502, 503, 504] (by decide +kernel) (by decide +kernel)
set_option maxRecDepth 20000 in
theorem gL_mesh_X6_init : GoodIn wsL_mesh (wsX6_init) := ggL_mesh_X6_init
set_option maxRecDepth 20000 in
theorem ggL_mesh_X6_undo : GoodIn wsL_mesh wsX6_undo := goodIn_r _ [65, 17, 13, 66, 67, 68, 16, 69, 70, 71, 43, 72, 73, 74, 12, 75, 39, 76, 77, 78, 79, 482, 483, 484, 485, 486, 487, 489, 490, 491, 488] (by decide +kernel) (by decide +kernel)
set_option maxRecDepth 20000 in
theorem gL_mesh_X6_undo : GoodIn wsL_mesh (wsV RL 94 RX6 yX6_undo wsX6_undo) := goodIn_app (goodIn_of _ (by decide +kernel)) ggL_mesh_X6_undo
set_option maxRecDepth 20000 in
theorem ggL_mesh_X6_restore : GoodIn wsL_mesh wsX6_restore := goodIn_r _ [83, 17, 13, 21, 84, 85, 86, 16, 87, 43, 71, 88, 89, 90, 12, 91, 39, 76, 77, 78, 79, 92, 93, 94, 20, 95, 96, 47, 97, 3, 98, 99, 73, 74, 75, 100, 101, 102, 103, 104, 105, 106, 107, 70, 108, 109, 110, 111, 482, 483, 484, 485, 486, 487, 489, 490, 491, 488, 492, 493] (by decide +kernel) (by decide +kernel)
set_option maxRecDepth 20000 in
theorem gL_mesh_X6_restore : GoodIn wsL_mesh (wsV RL 72 RX6 yX6_restore wsX6_restore) := goodIn_app (goodIn_of _ (by decide +kernel)) ggL_mesh_X6_restore
set_option maxRecDepth 20000 in
theorem ggL_mesh_X6_count : GoodIn wsL_mesh wsX6_count := goodIn_r _ [115, 25, 17, 13, 116, 97, 3, 98, 117, 118, 119, 24, 120, 121, 122, 123, 124, 16, 125, 70, 126, 101, 102, 12, 103, 39, 482, 483, 484, 485, 486, 487, 494, 495, 489, 490, 491, 488] (by decide +kernel) (by decide +kernel)
set_option maxRecDepth 20000 in
theorem gL_mesh_X6_count : GoodIn wsL_mesh (wsV RL 13 RX6 yX6_count wsX6_count) := goodIn_app (goodIn_of _ (by decide +kernel)) ggL_mesh_X6_count
set_option maxRecDepth 20000 in
theorem ggL_mesh_X6_roller : GoodIn wsL_mesh wsX6_roller := goodIn_r _ [130, 17, 13, 84, 85, 86, 16, 87, 43, 71, 88, 89, 90, 12, 91, 39, 76, 77, 78, 79, 131, 132, 133, 134, 97, 3, 98, 135, 101, 102, 103, 136, 137, 138, 139, 140, 141, 142, 143, 144, 145, 146, 147, 148, 149, 150, 104, 105, 106, 107, 70, 108, 109, 110, 111, 482, 483, 484, 485, 486, 487, 489, 490, 491, 488] (by decide +kernel) (by decide +kernel)
set_option maxRecDepth 20000 in
theorem gL_mesh_X6_roller : GoodIn wsL_mesh (wsV RL 31 RX6 yX6_roller wsX6_roller) := goodIn_app (goodIn_of _ (by decide +kernel)) ggL_mesh_X6_roller
set_option maxRecDepth 20000 in
theorem ggL_mesh_X6_file : GoodIn wsL_mesh wsX6_file := goodIn_r _ [154, 17, 13, 84, 85, 86, 16, 87, 43, 71, 88, 89, 90, 12, 91, 39, 76, 77, 78, 79, 155, 156, 157, 158, 159, 160, 161, 162, 163, 164, 165, 166, 135, 101, 102, 103, 167, 168, 169, 170, 136, 137, 138, 97, 3, 98, 171, 172, 173, 174, 143, 144, 145, 146, 139, 140, 141, 142, 104, 105, 106, 107, 70, 108, 109, 110, 111, 482, 483, 484, 485, 486, 487, 489, 490, 491, 488] (by decide +kernel) (by decide +kernel)
set_option maxRecDepth 20000 in
theorem gL_mesh_X6_file : GoodIn wsL_mesh (wsV RL 34 RX6 yX6_file wsX6_file) := goodIn_app (goodIn_of _ (by decide +kernel)) ggL_mesh_X6_file
set_option maxRecDepth 20000 in
theorem ggL_mesh_X6_tooth : GoodIn wsL_mesh wsX6_tooth := goodIn_r _ [178, 13, 179, 160, 161, 12, 162, 163, 164, 165, 166, 135, 101, 102, 103, 39, 167, 168, 169, 170, 136, 137, 138, 180, 172, 173, 174, 482, 483, 484, 485, 486, 487, 488] (by decide +kernel) (by decide +kernel)
set_option maxRecDepth 20000 in
theorem gL_mesh_X6_tooth : GoodIn wsL_mesh (wsV RL 23 RX6 yX6_tooth wsX6_tooth) := goodIn_app (goodIn_of _ (by decide +kernel)) ggL_mesh_X6_tooth
set_option maxRecDepth 20000 in
theorem ggL_mesh_X6_of : GoodIn wsL_mesh wsX6_of := goodIn_r _ [184, 13, 185, 164, 165, 12, 166, 135, 101, 102, 103, 39, 186, 168, 169, 170, 136, 137, 138, 187, 188, 189, 190, 167, 171, 172, 173, 174, 191, 192, 193, 194, 195, 196, 110, 197, 198, 199, 200, 201, 202, 109, 111, 203, 204, 205, 206, 207, 208, 209, 210, 482, 483, 484, 485, 486, 487, 488] (by decide +kernel) (by decide +kernel)
set_option maxRecDepth 20000 in
theorem gL_mesh_X6_of : GoodIn wsL_mesh (wsV RL 19 RX6 yX6_of wsX6_of) := goodIn_app (goodIn_of _ (by decide +kernel)) ggL_mesh_X6_of
set_option maxRecDepth 20000 in
theorem ggL_mesh_X6_pair : GoodIn wsL_mesh wsX6_pair := goodIn_r _ [214, 33, 13, 215, 216, 217, 3, 218, 219, 220, 221, 222, 185, 164, 165, 12, 166, 135, 101, 102, 103, 39, 116, 97, 98, 223, 224, 225, 32, 226, 227, 109, 110, 111, 228, 61, 229, 168, 169, 170, 136, 137, 138, 230, 231, 232, 233, 172, 173, 174, 234, 235, 236, 237, 238, 239, 240, 241, 242, 243, 244, 245, 246, 247, 248, 249, 250, 251, 252, 253, 196, 197, 254, 255, 256, 257, 258, 259, 260, 261, 262, 263, 264, 265, 266, 267, 268, 269, 270, 271, 272, 482, 483, 484, 485, 486, 487, 488, 501, 502, 503, 504] (by decide +kernel) (by decide +kernel)
set_option maxRecDepth 20000 in
theorem gL_mesh_X6_pair : GoodIn wsL_mesh (wsV RL 52 RX6 yX6_pair wsX6_pair) := goodIn_app (goodIn_of _ (by decide +kernel)) ggL_mesh_X6_pair
set_option maxRecDepth 20000 in
theorem ggL_mesh_X6_why : GoodIn wsL_mesh wsX6_why := goodIn_r _ [276, 33, 13, 215, 216, 217, 3, 218, 219, 220, 221, 222, 185, 164, 165, 12, 166, 135, 101, 102, 103, 39, 116, 97, 98, 223, 224, 225, 32, 226, 227, 109, 110, 111, 228, 61, 229, 168, 169, 170, 136, 137, 138, 230, 231, 232, 233, 172, 173, 174, 234, 235, 236, 254, 255, 256, 257, 277, 263, 264, 265, 245, 246, 247, 248, 266, 267, 268, 269, 270, 271, 272, 278, 482, 483, 484, 485, 486, 487, 488, 501, 502, 503, 504] (by decide +kernel) (by decide +kernel)
set_option maxRecDepth 20000 in
theorem gL_mesh_X6_why : GoodIn wsL_mesh (wsV RL 56 RX6 yX6_why wsX6_why) := goodIn_app (goodIn_of _ (by decide +kernel)) ggL_mesh_X6_why
set_option maxRecDepth 20000 in
theorem ggL_mesh_X6_leastGap : GoodIn wsL_mesh wsX6_leastGap := goodIn_r _ [282, 219, 220, 221, 3, 222, 13, 185, 164, 165, 12, 166, 135, 101, 102, 103, 39, 116, 97, 98, 283, 284, 285, 286, 33, 287, 196, 110, 197, 223, 224, 225, 32, 226, 227, 109, 111, 228, 61, 229, 168, 169, 170, 136, 137, 138, 230, 231, 232, 233, 172, 173, 174, 234, 235, 236, 254, 255, 256, 257, 288, 289, 290, 291, 266, 267, 268, 269, 270, 271, 272, 245, 246, 247, 248, 241, 242, 243, 244, 482, 483, 484, 485, 486, 487, 488, 501, 502, 503, 504] (by decide +kernel) (by decide +kernel)
set_option maxRecDepth 20000 in
theorem gL_mesh_X6_leastGap : GoodIn wsL_mesh (wsV RL 59 RX6 yX6_leastGap wsX6_leastGap) := goodIn_app (goodIn_of _ (by decide +kernel)) ggL_mesh_X6_leastGap
set_option maxRecDepth 20000 in
theorem ggL_mesh_X6_bestOffset : GoodIn wsL_mesh wsX6_bestOffset := goodIn_r _ [295, 13, 296, 109, 110, 111, 215, 216, 217, 3, 218, 219, 220, 221, 222, 185, 164, 165, 12, 166, 135, 101, 102, 103, 39, 116, 97, 98, 186, 168, 169, 170, 136, 137, 138, 283, 284, 285, 286, 33, 287, 196, 197, 223, 224, 225, 32, 226, 227, 228, 61, 229, 230, 231, 232, 233, 172, 173, 174, 234, 235, 236, 254, 255, 256, 257, 288, 289, 290, 291, 266, 267, 268, 269, 270, 271, 272, 245, 246, 247, 248, 241, 242, 243, 244, 482, 483, 484, 485, 486, 487, 488, 501, 502, 503, 504] (by decide +kernel) (by decide +kernel)
set_option maxRecDepth 20000 in
theorem gL_mesh_X6_bestOffset : GoodIn wsL_mesh (wsV RL 62 RX6 yX6_bestOffset wsX6_bestOffset) := goodIn_app (goodIn_of _ (by decide +kernel)) ggL_mesh_X6_bestOffset
set_option maxRecDepth 20000 in
theorem ggL_mesh_X6_thickest : GoodIn wsL_mesh wsX6_thickest := goodIn_r _ [300, 33, 13, 219, 220, 221, 3, 222, 185, 164, 165, 12, 166, 135, 101, 102, 103, 39, 116, 97, 98, 223, 224, 225, 32, 226, 227, 109, 110, 111, 228, 61, 229, 168, 169, 170, 136, 137, 138, 230, 231, 232, 233, 172, 173, 174, 234, 235, 236, 254, 255, 256, 257, 258, 259, 260, 261, 262, 263, 264, 265, 245, 246, 247, 248, 266, 267, 268, 269, 270, 271, 272, 301, 302, 303, 304, 305, 306, 237, 238, 239, 240, 126, 307, 308, 309, 310, 253, 196, 197, 482, 483, 484, 485, 486, 487, 488, 501, 502, 503, 504] (by decide +kernel) (by decide +kernel)
set_option maxRecDepth 20000 in
theorem gL_mesh_X6_thickest : GoodIn wsL_mesh (wsV RL 65 RX6 yX6_thickest wsX6_thickest) := goodIn_app (goodIn_of _ (by decide +kernel)) ggL_mesh_X6_thickest
