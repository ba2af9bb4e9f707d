theorem dL_limits_71 : decode cL_limits 71 = .ok (.sipush 552, 3) := by decide +kernel
theorem dL_limits_74 : decode cL_limits 74 = .ok (.if_icmp .ne 180, 3) := by decide +kernel
theorem dL_limits_77 : decode cL_limits 77 = .ok (.aload_n 0, 1) := by decide +kernel
theorem dL_limits_78 : decode cL_limits 78 = .ok (.iconst 0, 1) := by decide +kernel
theorem dL_limits_79 : decode cL_limits 79 = .ok (.iconst 1, 1) := by decide +kernel
theorem dL_limits_80 : decode cL_limits 80 = .ok (.bipush 23, 2) := by decide +kernel
theorem dL_limits_82 : decode cL_limits 82 = .ok (.bipush 30, 2) := by decide +kernel
theorem dL_limits_84 : decode cL_limits 84 = .ok (.iconst 1, 1) := by decide +kernel
theorem dL_limits_85 : decode cL_limits 85 = .ok (.invokevirtual 52, 3) := by decide +kernel
theorem dL_limits_88 : decode cL_limits 88 = .ok (.bipush 112, 2) := by decide +kernel
theorem dL_limits_90 : decode cL_limits 90 = .ok (.if_icmp .ne 164, 3) := by decide +kernel
theorem dL_limits_93 : decode cL_limits 93 = .ok (.aload_n 0, 1) := by decide +kernel
theorem dL_limits_94 : decode cL_limits 94 = .ok (.bipush 7, 2) := by decide +kernel
theorem dL_limits_96 : decode cL_limits 96 = .ok (.iconst 3, 1) := by decide +kernel
theorem dL_limits_97 : decode cL_limits 97 = .ok (.bipush 9, 2) := by decide +kernel
theorem dL_limits_99 : decode cL_limits 99 = .ok (.invokevirtual 59, 3) := by decide +kernel
theorem dL_limits_102 : decode cL_limits 102 = .ok (.bipush 19, 2) := by decide +kernel
theorem dL_limits_104 : decode cL_limits 104 = .ok (.if_icmp .ne 150, 3) := by decide +kernel
theorem dL_limits_107 : decode cL_limits 107 = .ok (.aload_n 0, 1) := by decide +kernel
theorem dL_limits_108 : decode cL_limits 108 = .ok (.bipush 7, 2) := by decide +kernel
theorem dL_limits_110 : decode cL_limits 110 = .ok (.iconst 3, 1) := by decide +kernel
theorem dL_limits_111 : decode cL_limits 111 = .ok (.bipush 24, 2) := by decide +kernel
theorem dL_limits_113 : decode cL_limits 113 = .ok (.invokevirtual 59, 3) := by decide +kernel
theorem dL_limits_116 : decode cL_limits 116 = .ok (.bipush (-2), 2) := by decide +kernel
theorem dL_limits_118 : decode cL_limits 118 = .ok (.if_icmp .ne 136, 3) := by decide +kernel
theorem dL_limits_121 : decode cL_limits 121 = .ok (.aload_n 0, 1) := by decide +kernel
theorem dL_limits_122 : decode cL_limits 122 = .ok (.iconst 0, 1) := by decide +kernel
theorem dL_limits_123 : decode cL_limits 123 = .ok (.iconst 1, 1) := by decide +kernel
theorem dL_limits_124 : decode cL_limits 124 = .ok (.iconst 0, 1) := by decide +kernel
theorem dL_limits_125 : decode cL_limits 125 = .ok (.bipush 30, 2) := by decide +kernel
theorem dL_limits_127 : decode cL_limits 127 = .ok (.invokevirtual 65, 3) := by decide +kernel
theorem dL_limits_130 : decode cL_limits 130 = .ok (.bipush 17, 2) := by decide +kernel
theorem dL_limits_132 : decode cL_limits 132 = .ok (.if_icmp .ne 122, 3) := by decide +kernel
theorem dL_limits_135 : decode cL_limits 135 = .ok (.aload_n 0, 1) := by decide +kernel
theorem dL_limits_136 : decode cL_limits 136 = .ok (.bipush 30, 2) := by decide +kernel
theorem dL_limits_138 : decode cL_limits 138 = .ok (.bipush 30, 2) := by decide +kernel
theorem dL_limits_140 : decode cL_limits 140 = .ok (.invokevirtual 41, 3) := by decide +kernel
theorem dL_limits_143 : decode cL_limits 143 = .ok (.iconst 5, 1) := by decide +kernel
theorem dL_limits_144 : decode cL_limits 144 = .ok (.if_icmp .ne 110, 3) := by decide +kernel
theorem dL_limits_147 : decode cL_limits 147 = .ok (.aload_n 0, 1) := by decide +kernel
theorem dL_limits_148 : decode cL_limits 148 = .ok (.iconst 0, 1) := by decide +kernel
theorem dL_limits_149 : decode cL_limits 149 = .ok (.iconst 1, 1) := by decide +kernel
theorem dL_limits_150 : decode cL_limits 150 = .ok (.iconst 0, 1) := by decide +kernel
theorem dL_limits_151 : decode cL_limits 151 = .ok (.bipush 30, 2) := by decide +kernel
theorem dL_limits_153 : decode cL_limits 153 = .ok (.invokevirtual 65, 3) := by decide +kernel
theorem dL_limits_156 : decode cL_limits 156 = .ok (.bipush 30, 2) := by decide +kernel
theorem dL_limits_158 : decode cL_limits 158 = .ok (.if_icmp .ne 96, 3) := by decide +kernel
theorem dL_limits_161 : decode cL_limits 161 = .ok (.aload_n 0, 1) := by decide +kernel
theorem dL_limits_162 : decode cL_limits 162 = .ok (.iconst 0, 1) := by decide +kernel
theorem dL_limits_163 : decode cL_limits 163 = .ok (.iconst 1, 1) := by decide +kernel
theorem dL_limits_164 : decode cL_limits 164 = .ok (.iconst 0, 1) := by decide +kernel
theorem dL_limits_165 : decode cL_limits 165 = .ok (.bipush 30, 2) := by decide +kernel
theorem dL_limits_167 : decode cL_limits 167 = .ok (.bipush 99, 2) := by decide +kernel
theorem dL_limits_169 : decode cL_limits 169 = .ok (.bipush 99, 2) := by decide +kernel
theorem dL_limits_171 : decode cL_limits 171 = .ok (.invokevirtual 48, 3) := by decide +kernel
theorem dL_limits_174 : decode cL_limits 174 = .ok (.ifCond .ne 80, 3) := by decide +kernel
theorem dL_limits_177 : decode cL_limits 177 = .ok (.aload_n 0, 1) := by decide +kernel
theorem dL_limits_178 : decode cL_limits 178 = .ok (.iconst 5, 1) := by decide +kernel
theorem dL_limits_179 : decode cL_limits 179 = .ok (.invokevirtual 13, 3) := by decide +kernel
theorem dL_limits_182 : decode cL_limits 182 = .ok (.sipush 9801, 3) := by decide +kernel
theorem dL_limits_185 : decode cL_limits 185 = .ok (.if_icmp .ne 69, 3) := by decide +kernel
theorem dL_limits_188 : decode cL_limits 188 = .ok (.aload_n 0, 1) := by decide +kernel
theorem dL_limits_189 : decode cL_limits 189 = .ok (.iconst 0, 1) := by decide +kernel
theorem dL_limits_190 : decode cL_limits 190 = .ok (.bipush 6, 2) := by decide +kernel
theorem dL_limits_192 : decode cL_limits 192 = .ok (.invokevirtual 19, 3) := by decide +kernel
theorem dL_limits_195 : decode cL_limits 195 = .ok (.iconst 1, 1) := by decide +kernel
theorem dL_limits_196 : decode cL_limits 196 = .ok (.if_icmp .ne 58, 3) := by decide +kernel
theorem dL_limits_199 : decode cL_limits 199 = .ok (.aload_n 0, 1) := by decide +kernel
theorem dL_limits_200 : decode cL_limits 200 = .ok (.iconst 0, 1) := by decide +kernel
theorem dL_limits_201 : decode cL_limits 201 = .ok (.bipush 23, 2) := by decide +kernel
theorem dL_limits_203 : decode cL_limits 203 = .ok (.invokevirtual 23, 3) := by decide +kernel
theorem dL_limits_206 : decode cL_limits 206 = .ok (.bipush 17, 2) := by decide +kernel
theorem dL_limits_208 : decode cL_limits 208 = .ok (.if_icmp .ne 46, 3) := by decide +kernel
theorem dL_limits_211 : decode cL_limits 211 = .ok (.aload_n 0, 1) := by decide +kernel
theorem dL_limits_212 : decode cL_limits 212 = .ok (.iconst 1, 1) := by decide +kernel
theorem dL_limits_213 : decode cL_limits 213 = .ok (.bipush 22, 2) := by decide +kernel
theorem dL_limits_215 : decode cL_limits 215 = .ok (.invokevirtual 23, 3) := by decide +kernel
theorem dL_limits_218 : decode cL_limits 218 = .ok (.bipush 17, 2) := by decide +kernel
theorem dL_limits_220 : decode cL_limits 220 = .ok (.if_icmp .ne 34, 3) := by decide +kernel
theorem dL_limits_223 : decode cL_limits 223 = .ok (.aload_n 0, 1) := by decide +kernel
theorem dL_limits_224 : decode cL_limits 224 = .ok (.iconst 2, 1) := by decide +kernel
theorem dL_limits_225 : decode cL_limits 225 = .ok (.iconst 5, 1) := by decide +kernel
theorem dL_limits_226 : decode cL_limits 226 = .ok (.invokevirtual 19, 3) := by decide +kernel
theorem dL_limits_229 : decode cL_limits 229 = .ok (.ifCond .ne 25, 3) := by decide +kernel
theorem dL_limits_232 : decode cL_limits 232 = .ok (.aload_n 0, 1) := by decide +kernel
theorem dL_limits_233 : decode cL_limits 233 = .ok (.bipush 10, 2) := by decide +kernel
theorem dL_limits_235 : decode cL_limits 235 = .ok (.invokevirtual 13, 3) := by decide +kernel
theorem dL_limits_238 : decode cL_limits 238 = .ok (.bipush 6, 2) := by decide +kernel
theorem dL_limits_240 : decode cL_limits 240 = .ok (.if_icmp .ne 14, 3) := by decide +kernel
theorem dL_limits_243 : decode cL_limits 243 = .ok (.aload_n 0, 1) := by decide +kernel
theorem dL_limits_244 : decode cL_limits 244 = .ok (.invokestatic 97, 3) := by decide +kernel
theorem dL_limits_247 : decode cL_limits 247 = .ok (.ifCond .eq 7, 3) := by decide +kernel
theorem dL_limits_250 : decode cL_limits 250 = .ok (.iconst 1, 1) := by decide +kernel
theorem dL_limits_251 : decode cL_limits 251 = .ok (.goto 4, 3) := by decide +kernel
theorem dL_limits_254 : decode cL_limits 254 = .ok (.iconst 0, 1) := by decide +kernel
theorem dL_limits_255 : decode cL_limits 255 = .ok (.ireturn, 1) := by decide +kernel
set_option maxRecDepth 20000 in
theorem ggL_texts_X6_init : GoodIn wsL_texts wsX6_init := goodIn_r _ [33, 34, 35, 36, 37, 38, 39, 40, 41, 42, 43, 44, 45, 46, 47, 48, 49, 50, 51, 52, 53, 54, 55, 56, 57, 58, 59, 60, 61, 62, 63, 64, 65, 66, 67, 68, 69, 70, 71, 72, 73, 74, 75, 76, 77, 78, 79, 80, 81, 82, 83, 84, 85, 86, 87, 88, 408, 402, 403, 404, 405, 406, 407, 409, 410, 411, 412, 413, 414, 415, 416, 417, 418, 419, 420, 421, 422, 423, 424] (by decide +kernel) (by decide +kernel)
set_option maxRecDepth 20000 in
theorem gL_texts_X6_init : GoodIn wsL_texts (wsX6_init) := ggL_texts_X6_init
set_option maxRecDepth 20000 in
theorem ggL_texts_X6_fault : GoodIn wsL_texts wsX6_fault := goodIn_r _ [92, 56, 93, 94, 95, 55, 96, 97, 84, 98, 99, 100, 101, 102, 103, 104, 105, 106, 107, 108, 109, 110, 51, 111, 112, 78, 113, 114, 115, 116, 117, 118, 119, 120, 121, 122, 123, 124, 125, 126, 127, 128, 129, 3, 130, 131, 132, 133, 134, 135, 136, 137, 138, 83, 139, 140, 141, 142, 143, 144, 145, 146, 402, 403, 404, 405, 406, 407, 416, 417, 418, 419, 420, 414, 415] (by decide +kernel) (by decide +kernel)
set_option maxRecDepth 20000 in
theorem gL_texts_X6_fault : GoodIn wsL_texts (wsV RL 101 RX6 yX6_fault wsX6_fault) := goodIn_app (goodIn_of _ (by decide +kernel)) ggL_texts_X6_fault
set_option maxRecDepth 20000 in
theorem ggL_texts_X6_carryOut : GoodIn wsL_texts wsX6_carryOut := goodIn_r _ [150, 56, 44, 40, 52, 93, 94, 95, 55, 96, 97, 84, 98, 99, 100, 101, 102, 103, 104, 105, 106, 107, 108, 109, 110, 51, 111, 112, 78, 113, 114, 115, 116, 117, 118, 119, 120, 121, 122, 123, 124, 125, 126, 127, 128, 129, 3, 130, 131, 132, 133, 134, 135, 136, 137, 138, 83, 139, 140, 141, 142, 143, 144, 145, 146, 151, 152, 153, 43, 154, 70, 155, 156, 157, 158, 39, 159, 66, 160, 161, 162, 163, 164, 165, 166, 167, 168, 169, 170, 171, 172, 173, 174, 175, 176, 177, 178, 179, 180, 181, 182, 183, 184, 185, 186, 187, 188, 189, 190, 191, 192, 193, 194, 195, 196, 197, 198, 199, 200, 201, 202, 203, 204, 205, 206, 207, 208, 209, 210, 211, 212, 213, 214, 215, 216, 217, 218, 219, 220, 221, 222, 223, 224, 225, 226, 227, 228, 229, 230, 231, 232, 60, 233, 234, 235, 236, 237, 238, 239, 240, 241, 59, 242, 243, 244, 245, 246, 247, 88, 248, 249, 250, 251, 252, 253, 254, 255, 256, 257, 258, 259, 260, 261, 262, 263, 264, 265, 266, 267, 268, 269, 270, 271, 272, 273, 274, 275, 276, 277, 278, 279, 280, 281, 282, 283, 284, 285, 286, 287, 288, 289, 290, 291, 292, 293, 294, 295, 296, 297, 298, 299, 300, 301, 302, 303, 304, 305, 306, 307, 308, 309, 310, 311, 312, 313, 314, 315, 316, 317, 318, 319, 320, 321, 322, 323, 324, 325, 326, 327, 328, 402, 403, 404, 405, 406, 407, 416, 417, 418, 419, 420, 414, 415, 409, 410, 411, 408, 421, 422, 423, 424] (by decide +kernel) (by decide +kernel)
set_option maxRecDepth 20000 in
theorem gL_texts_X6_carryOut : GoodIn wsL_texts (wsV RL 44 RX6 yX6_carryOut wsX6_carryOut) := goodIn_app (goodIn_of _ (by decide +kernel)) ggL_texts_X6_carryOut
set_option maxRecDepth 20000 in
theorem ggL_texts_X6_put : GoodIn wsL_texts wsX6_put := goodIn_r _ [332, 52, 333, 334, 335, 51, 336, 112, 337, 338, 339, 340, 341, 342, 129, 3, 130, 343, 344, 345, 346, 78, 402, 403, 404, 405, 406, 407, 414, 415] (by decide +kernel) (by decide +kernel)
set_option maxRecDepth 20000 in
theorem gL_texts_X6_put : GoodIn wsL_texts (wsV RL 77 RX6 yX6_put wsX6_put) := goodIn_app (goodIn_of _ (by decide +kernel)) ggL_texts_X6_put
set_option maxRecDepth 20000 in
theorem ggL_texts_X6_wipe : GoodIn wsL_texts wsX6_wipe := goodIn_r _ [350, 52, 319, 320, 321, 51, 322, 112, 402, 403, 404, 405, 406, 407, 414, 415] (by decide +kernel) (by decide +kernel)
set_option maxRecDepth 20000 in
theorem gL_texts_X6_wipe : GoodIn wsL_texts (wsV RL 106 RX6 yX6_wipe wsX6_wipe) := goodIn_app (goodIn_of _ (by decide +kernel)) ggL_texts_X6_wipe
set_option maxRecDepth 20000 in
theorem ggL_texts_X6_count : GoodIn wsL_texts wsX6_count := goodIn_r _ [354, 52, 44, 40, 238, 129, 3, 130, 355, 144, 145, 51, 146, 112, 356, 357, 358, 43, 359, 327, 285, 187, 188, 39, 189, 66, 402, 403, 404, 405, 406, 407, 414, 415, 409, 410, 411, 408] (by decide +kernel) (by decide +kernel)
set_option maxRecDepth 20000 in
theorem gL_texts_X6_count : GoodIn wsL_texts (wsV RL 13 RX6 yX6_count wsX6_count) := goodIn_app (goodIn_of _ (by decide +kernel)) ggL_texts_X6_count
set_option maxRecDepth 20000 in
theorem ggL_texts_X6_undo : GoodIn wsL_texts wsX6_undo := goodIn_r _ [363, 44, 40, 364, 365, 366, 43, 367, 327, 155, 70, 368, 369, 370, 39, 371, 66, 160, 161, 162, 163, 402, 403, 404, 405, 406, 407, 409, 410, 411, 408] (by decide +kernel) (by decide +kernel)
set_option maxRecDepth 20000 in
theorem gL_texts_X6_undo : GoodIn wsL_texts (wsV RL 94 RX6 yX6_undo wsX6_undo) := goodIn_app (goodIn_of _ (by decide +kernel)) ggL_texts_X6_undo
set_option maxRecDepth 20000 in
theorem ggL_texts_X6_of : GoodIn wsL_texts wsX6_of := goodIn_r _ [375, 40, 237, 218, 219, 39, 220, 186, 187, 188, 189, 66, 376, 222, 223, 224, 190, 191, 192, 377, 378, 379, 380, 221, 225, 226, 227, 228, 381, 382, 383, 384, 385, 291, 245, 292, 386, 387, 388, 389, 390, 244, 246, 391, 306, 307, 308, 392, 393, 394, 395, 402, 403, 404, 405, 406, 407, 408] (by decide +kernel) (by decide +kernel)
set_option maxRecDepth 20000 in
theorem gL_texts_X6_of : GoodIn wsL_texts (wsV RL 19 RX6 yX6_of wsX6_of) := goodIn_app (goodIn_of _ (by decide +kernel)) ggL_texts_X6_of
set_option maxRecDepth 20000 in
theorem ggL_texts_X6_tooth : GoodIn wsL_texts wsX6_tooth := goodIn_r _ [399, 40, 400, 214, 215, 39, 216, 217, 218, 219, 220, 186, 187, 188, 189, 66, 221, 222, 223, 224, 190, 191, 192, 401, 226, 227, 228, 402, 403, 404, 405, 406, 407, 408] (by decide +kernel) (by decide +kernel)
set_option maxRecDepth 20000 in
theorem gL_texts_X6_tooth : GoodIn wsL_texts (wsV RL 23 RX6 yX6_tooth wsX6_tooth) := goodIn_app (goodIn_of _ (by decide +kernel)) ggL_texts_X6_tooth
theorem dL_texts_0 : decode cL_texts 0 = .ok (.new 14, 3) := by decide +kernel
theorem dL_texts_3 : decode cL_texts 3 = .ok (.dup, 1) := by decide +kernel
theorem dL_texts_4 : decode cL_texts 4 = .ok (.invokespecial 93, 3) := by decide +kernel
theorem dL_texts_7 : decode cL_texts 7 = .ok (.astore_n 0, 1) := by decide +kernel
theorem dL_texts_8 : decode cL_texts 8 = .ok (.aload_n 0, 1) := by decide +kernel
theorem dL_texts_9 : decode cL_texts 9 = .ok (.invokevirtual 101, 3) := by decide +kernel
theorem dL_texts_12 : decode cL_texts 12 = .ok (.ifCond .ne 412, 3) := by decide +kernel
theorem dL_texts_15 : decode cL_texts 15 = .ok (.aload_n 0, 1) := by decide +kernel
theorem dL_texts_16 : decode cL_texts 16 = .ok (.invokevirtual 44, 3) := by decide +kernel
theorem dL_texts_19 : decode cL_texts 19 = .ok (.bipush (-3), 2) := by decide +kernel
theorem dL_texts_21 : decode cL_texts 21 = .ok (.if_icmp .ne 403, 3) := by decide +kernel
theorem dL_texts_24 : decode cL_texts 24 = .ok (.aload_n 0, 1) := by decide +kernel
theorem dL_texts_25 : decode cL_texts 25 = .ok (.ldc2_w 104, 3) := by decide +kernel
theorem dL_texts_28 : decode cL_texts 28 = .ok (.invokevirtual 77, 3) := by decide +kernel
theorem dL_texts_31 : decode cL_texts 31 = .ok (.ifCond .lt 393, 3) := by decide +kernel
theorem dL_texts_34 : decode cL_texts 34 = .ok (.aload_n 0, 1) := by decide +kernel
theorem dL_texts_35 : decode cL_texts 35 = .ok (.invokevirtual 101, 3) := by decide +kernel
theorem dL_texts_38 : decode cL_texts 38 = .ok (.iconst 1, 1) := by decide +kernel
theorem dL_texts_39 : decode cL_texts 39 = .ok (.if_icmp .ne 385, 3) := by decide +kernel
theorem dL_texts_42 : decode cL_texts 42 = .ok (.aload_n 0, 1) := by decide +kernel
theorem dL_texts_43 : decode cL_texts 43 = .ok (.invokevirtual 106, 3) := by decide +kernel
theorem dL_texts_46 : decode cL_texts 46 = .ok (.iconst 1, 1) := by decide +kernel
theorem dL_texts_47 : decode cL_texts 47 = .ok (.if_icmp .ne 377, 3) := by decide +kernel
theorem dL_texts_50 : decode cL_texts 50 = .ok (.aload_n 0, 1) := by decide +kernel
theorem dL_texts_51 : decode cL_texts 51 = .ok (.ldc2_w 109, 3) := by decide +kernel
theorem dL_texts_54 : decode cL_texts 54 = .ok (.invokevirtual 77, 3) := by decide +kernel
theorem dL_texts_57 : decode cL_texts 57 = .ok (.ifCond .lt 367, 3) := by decide +kernel
theorem dL_texts_60 : decode cL_texts 60 = .ok (.aload_n 0, 1) := by decide +kernel
theorem dL_texts_61 : decode cL_texts 61 = .ok (.invokevirtual 101, 3) := by decide +kernel
theorem dL_texts_64 : decode cL_texts 64 = .ok (.iconst 2, 1) := by decide +kernel
theorem dL_texts_65 : decode cL_texts 65 = .ok (.if_icmp .ne 359, 3) := by decide +kernel
theorem dL_texts_68 : decode cL_texts 68 = .ok (.aload_n 0, 1) := by decide +kernel
theorem dL_texts_69 : decode cL_texts 69 = .ok (.invokevirtual 106, 3) := by decide +kernel
theorem dL_texts_72 : decode cL_texts 72 = .ok (.iconst 3, 1) := by decide +kernel
theorem dL_texts_73 : decode cL_texts 73 = .ok (.if_icmp .ne 351, 3) := by decide +kernel
theorem dL_texts_76 : decode cL_texts 76 = .ok (.aload_n 0, 1) := by decide +kernel
theorem dL_texts_77 : decode cL_texts 77 = .ok (.ldc2_w 111, 3) := by decide +kernel
theorem dL_texts_80 : decode cL_texts 80 = .ok (.invokevirtual 77, 3) := by decide +kernel
theorem dL_texts_83 : decode cL_texts 83 = .ok (.ifCond .lt 341, 3) := by decide +kernel
theorem dL_texts_86 : decode cL_texts 86 = .ok (.aload_n 0, 1) := by decide +kernel
theorem dL_texts_87 : decode cL_texts 87 = .ok (.invokevirtual 101, 3) := by decide +kernel
theorem dL_texts_90 : decode cL_texts 90 = .ok (.iconst 3, 1) := by decide +kernel
theorem dL_texts_91 : decode cL_texts 91 = .ok (.if_icmp .ne 333, 3) := by decide +kernel
theorem dL_texts_94 : decode cL_texts 94 = .ok (.aload_n 0, 1) := by decide +kernel
theorem dL_texts_95 : decode cL_texts 95 = .ok (.invokevirtual 106, 3) := by decide +kernel
theorem dL_texts_98 : decode cL_texts 98 = .ok (.iconst 3, 1) := by decide +kernel
theorem dL_texts_99 : decode cL_texts 99 = .ok (.if_icmp .ne 325, 3) := by decide +kernel
theorem dL_texts_102 : decode cL_texts 102 = .ok (.aload_n 0, 1) := by decide +kernel
theorem dL_texts_103 : decode cL_texts 103 = .ok (.ldc2_w 113, 3) := by decide +kernel
theorem dL_texts_106 : decode cL_texts 106 = .ok (.invokevirtual 77, 3) := by decide +kernel
theorem dL_texts_109 : decode cL_texts 109 = .ok (.ifCond .lt 315, 3) := by decide +kernel
theorem dL_texts_112 : decode cL_texts 112 = .ok (.aload_n 0, 1) := by decide +kernel
theorem dL_texts_113 : decode cL_texts 113 = .ok (.invokevirtual 101, 3) := by decide +kernel
theorem dL_texts_116 : decode cL_texts 116 = .ok (.iconst 2, 1) := by decide +kernel
theorem dL_texts_117 : decode cL_texts 117 = .ok (.if_icmp .ne 307, 3) := by decide +kernel
theorem dL_texts_120 : decode cL_texts 120 = .ok (.aload_n 0, 1) := by decide +kernel
theorem dL_texts_121 : decode cL_texts 121 = .ok (.invokevirtual 106, 3) := by decide +kernel
theorem dL_texts_124 : decode cL_texts 124 = .ok (.iconst 2, 1) := by decide +kernel
theorem dL_texts_125 : decode cL_texts 125 = .ok (.if_icmp .ne 299, 3) := by decide +kernel
theorem dL_texts_128 : decode cL_texts 128 = .ok (.aload_n 0, 1) := by decide +kernel
theorem dL_texts_129 : decode cL_texts 129 = .ok (.ldc2_w 115, 3) := by decide +kernel
theorem dL_texts_132 : decode cL_texts 132 = .ok (.invokevirtual 77, 3) := by decide +kernel
theorem dL_texts_135 : decode cL_texts 135 = .ok (.ifCond .lt 289, 3) := by decide +kernel
theorem dL_texts_138 : decode cL_texts 138 = .ok (.aload_n 0, 1) := by decide +kernel
theorem dL_texts_139 : decode cL_texts 139 = .ok (.invokevirtual 101, 3) := by decide +kernel
theorem dL_texts_142 : decode cL_texts 142 = .ok (.iconst 2, 1) := by decide +kernel
theorem dL_texts_143 : decode cL_texts 143 = .ok (.if_icmp .ne 281, 3) := by decide +kernel
theorem dL_texts_146 : decode cL_texts 146 = .ok (.aload_n 0, 1) := by decide +kernel
theorem dL_texts_147 : decode cL_texts 147 = .ok (.invokevirtual 106, 3) := by decide +kernel
theorem dL_texts_150 : decode cL_texts 150 = .ok (.iconst 3, 1) := by decide +kernel
theorem dL_texts_151 : decode cL_texts 151 = .ok (.if_icmp .ne 273, 3) := by decide +kernel
theorem dL_texts_154 : decode cL_texts 154 = .ok (.aload_n 0, 1) := by decide +kernel
theorem dL_texts_155 : decode cL_texts 155 = .ok (.ldc2_w 117, 3) := by decide +kernel
theorem dL_texts_158 : decode cL_texts 158 = .ok (.invokevirtual 77, 3) := by decide +kernel
theorem dL_texts_161 : decode cL_texts 161 = .ok (.ifCond .lt 263, 3) := by decide +kernel
theorem dL_texts_164 : decode cL_texts 164 = .ok (.aload_n 0, 1) := by decide +kernel
theorem dL_texts_165 : decode cL_texts 165 = .ok (.invokevirtual 101, 3) := by decide +kernel
theorem dL_texts_168 : decode cL_texts 168 = .ok (.iconst 3, 1) := by decide +kernel
theorem dL_texts_169 : decode cL_texts 169 = .ok (.if_icmp .ne 255, 3) := by decide +kernel
theorem dL_texts_172 : decode cL_texts 172 = .ok (.aload_n 0, 1) := by decide +kernel
theorem dL_texts_173 : decode cL_texts 173 = .ok (.invokevirtual 106, 3) := by decide +kernel
theorem dL_texts_176 : decode cL_texts 176 = .ok (.iconst 4, 1) := by decide +kernel
theorem dL_texts_177 : decode cL_texts 177 = .ok (.if_icmp .ne 247, 3) := by decide +kernel
theorem dL_texts_180 : decode cL_texts 180 = .ok (.aload_n 0, 1) := by decide +kernel
theorem dL_texts_181 : decode cL_texts 181 = .ok (.ldc2_w 119, 3) := by decide +kernel
theorem dL_texts_184 : decode cL_texts 184 = .ok (.invokevirtual 77, 3) := by decide +kernel
theorem dL_texts_187 : decode cL_texts 187 = .ok (.ifCond .lt 237, 3) := by decide +kernel
theorem dL_texts_190 : decode cL_texts 190 = .ok (.aload_n 0, 1) := by decide +kernel
theorem dL_texts_191 : decode cL_texts 191 = .ok (.invokevirtual 101, 3) := by decide +kernel
theorem dL_texts_194 : decode cL_texts 194 = .ok (.iconst 5, 1) := by decide +kernel
theorem dL_texts_195 : decode cL_texts 195 = .ok (.if_icmp .ne 229, 3) := by decide +kernel
theorem dL_texts_198 : decode cL_texts 198 = .ok (.aload_n 0, 1) := by decide +kernel
theorem dL_texts_199 : decode cL_texts 199 = .ok (.invokevirtual 106, 3) := by decide +kernel
theorem dL_texts_202 : decode cL_texts 202 = .ok (.iconst 5, 1) := by decide +kernel
theorem dL_texts_203 : decode cL_texts 203 = .ok (.if_icmp .ne 221, 3) := by decide +kernel
theorem dL_texts_206 : decode cL_texts 206 = .ok (.aload_n 0, 1) := by decide +kernel
theorem dL_texts_207 : decode cL_texts 207 = .ok (.ldc2_w 121, 3) := by decide +kernel
theorem dL_texts_210 : decode cL_texts 210 = .ok (.invokevirtual 77, 3) := by decide +kernel
theorem dL_texts_213 : decode cL_texts 213 = .ok (.ifCond .lt 211, 3) := by decide +kernel
theorem dL_texts_216 : decode cL_texts 216 = .ok (.aload_n 0, 1) := by decide +kernel
theorem dL_texts_217 : decode cL_texts 217 = .ok (.invokevirtual 101, 3) := by decide +kernel
theorem dL_texts_220 : decode cL_texts 220 = .ok (.bipush (-6), 2) := by decide +kernel
theorem dL_texts_222 : decode cL_texts 222 = .ok (.if_icmp .ne 202, 3) := by decide +kernel
theorem dL_texts_225 : decode cL_texts 225 = .ok (.aload_n 0, 1) := by decide +kernel
theorem dL_texts_226 : decode cL_texts 226 = .ok (.invokevirtual 106, 3) := by decide +kernel
theorem dL_texts_229 : decode cL_texts 229 = .ok (.bipush 7, 2) := by decide +kernel
theorem dL_texts_231 : decode cL_texts 231 = .ok (.if_icmp .ne 193, 3) := by decide +kernel
theorem dL_texts_234 : decode cL_texts 234 = .ok (.aload_n 0, 1) := by decide +kernel
theorem dL_texts_235 : decode cL_texts 235 = .ok (.ldc2_w 123, 3) := by decide +kernel
theorem dL_texts_238 : decode cL_texts 238 = .ok (.invokevirtual 77, 3) := by decide +kernel
theorem dL_texts_241 : decode cL_texts 241 = .ok (.ifCond .lt 183, 3) := by decide +kernel
theorem dL_texts_244 : decode cL_texts 244 = .ok (.aload_n 0, 1) := by decide +kernel
theorem dL_texts_245 : decode cL_texts 245 = .ok (.invokevirtual 101, 3) := by decide +kernel
theorem dL_texts_248 : decode cL_texts 248 = .ok (.bipush (-6), 2) := by decide +kernel
theorem dL_texts_250 : decode cL_texts 250 = .ok (.if_icmp .ne 174, 3) := by decide +kernel
theorem dL_texts_253 : decode cL_texts 253 = .ok (.aload_n 0, 1) := by decide +kernel
theorem dL_texts_254 : decode cL_texts 254 = .ok (.invokevirtual 106, 3) := by decide +kernel
theorem dL_texts_257 : decode cL_texts 257 = .ok (.iconst 5, 1) := by decide +kernel
theorem dL_texts_258 : decode cL_texts 258 = .ok (.if_icmp .ne 166, 3) := by decide +kernel
theorem dL_texts_261 : decode cL_texts 261 = .ok (.aload_n 0, 1) := by decide +kernel
theorem dL_texts_262 : decode cL_texts 262 = .ok (.ldc2_w 125, 3) := by decide +kernel
theorem dL_texts_265 : decode cL_texts 265 = .ok (.invokevirtual 77, 3) := by decide +kernel
theorem dL_texts_268 : decode cL_texts 268 = .ok (.ifCond .lt 156, 3) := by decide +kernel
theorem dL_texts_271 : decode cL_texts 271 = .ok (.aload_n 0, 1) := by decide +kernel
theorem dL_texts_272 : decode cL_texts 272 = .ok (.invokevirtual 101, 3) := by decide +kernel
theorem dL_texts_275 : decode cL_texts 275 = .ok (.ifCond .ne 149, 3) := by decide +kernel
theorem dL_texts_278 : decode cL_texts 278 = .ok (.aload_n 0, 1) := by decide +kernel
theorem dL_texts_279 : decode cL_texts 279 = .ok (.invokevirtual 106, 3) := by decide +kernel
theorem dL_texts_282 : decode cL_texts 282 = .ok (.iconst 1, 1) := by decide +kernel
theorem dL_texts_283 : decode cL_texts 283 = .ok (.if_icmp .ne 141, 3) := by decide +kernel
theorem dL_texts_286 : decode cL_texts 286 = .ok (.aload_n 0, 1) := by decide +kernel
theorem dL_texts_287 : decode cL_texts 287 = .ok (.ldc2_w 127, 3) := by decide +kernel
theorem dL_texts_290 : decode cL_texts 290 = .ok (.invokevirtual 77, 3) := by decide +kernel
theorem dL_texts_293 : decode cL_texts 293 = .ok (.ifCond .lt 131, 3) := by decide +kernel
theorem dL_texts_296 : decode cL_texts 296 = .ok (.aload_n 0, 1) := by decide +kernel
theorem dL_texts_297 : decode cL_texts 297 = .ok (.invokevirtual 101, 3) := by decide +kernel
theorem dL_texts_300 : decode cL_texts 300 = .ok (.bipush (-6), 2) := by decide +kernel
theorem dL_texts_302 : decode cL_texts 302 = .ok (.if_icmp .ne 122, 3) := by decide +kernel
theorem dL_texts_305 : decode cL_texts 305 = .ok (.aload_n 0, 1) := by decide +kernel
theorem dL_texts_306 : decode cL_texts 306 = .ok (.invokevirtual 106, 3) := by decide +kernel
theorem dL_texts_309 : decode cL_texts 309 = .ok (.bipush 7, 2) := by decide +kernel
theorem dL_texts_311 : decode cL_texts 311 = .ok (.if_icmp .ne 113, 3) := by decide +kernel
theorem dL_texts_314 : decode cL_texts 314 = .ok (.aload_n 0, 1) := by decide +kernel
theorem dL_texts_315 : decode cL_texts 315 = .ok (.ldc2_w 129, 3) := by decide +kernel
theorem dL_texts_318 : decode cL_texts 318 = .ok (.invokevirtual 77, 3) := by decide +kernel
theorem dL_texts_321 : decode cL_texts 321 = .ok (.ifCond .lt 103, 3) := by decide +kernel
theorem dL_texts_324 : decode cL_texts 324 = .ok (.aload_n 0, 1) := by decide +kernel
theorem dL_texts_325 : decode cL_texts 325 = .ok (.invokevirtual 101, 3) := by decide +kernel
theorem dL_texts_328 : decode cL_texts 328 = .ok (.bipush 7, 2) := by decide +kernel
theorem dL_texts_330 : decode cL_texts 330 = .ok (.if_icmp .ne 94, 3) := by decide +kernel
theorem dL_texts_333 : decode cL_texts 333 = .ok (.aload_n 0, 1) := by decide +kernel
theorem dL_texts_334 : decode cL_texts 334 = .ok (.invokevirtual 106, 3) := by decide +kernel
theorem dL_texts_337 : decode cL_texts 337 = .ok (.bipush 7, 2) := by decide +kernel
theorem dL_texts_339 : decode cL_texts 339 = .ok (.if_icmp .ne 85, 3) := by decide +kernel
theorem dL_texts_342 : decode cL_texts 342 = .ok (.aload_n 0, 1) := by decide +kernel
theorem dL_texts_343 : decode cL_texts 343 = .ok (.ldc2_w 131, 3) := by decide +kernel
theorem dL_texts_346 : decode cL_texts 346 = .ok (.invokevirtual 77, 3) := by decide +kernel
theorem dL_texts_349 : decode cL_texts 349 = .ok (.ifCond .lt 75, 3) := by decide +kernel
theorem dL_texts_352 : decode cL_texts 352 = .ok (.aload_n 0, 1) := by decide +kernel
theorem dL_texts_353 : decode cL_texts 353 = .ok (.invokevirtual 101, 3) := by decide +kernel
theorem dL_texts_356 : decode cL_texts 356 = .ok (.iconst 3, 1) := by decide +kernel
theorem dL_texts_357 : decode cL_texts 357 = .ok (.if_icmp .ne 67, 3) := by decide +kernel
theorem dL_texts_360 : decode cL_texts 360 = .ok (.aload_n 0, 1) := by decide +kernel
theorem dL_texts_361 : decode cL_texts 361 = .ok (.invokevirtual 106, 3) := by decide +kernel
theorem dL_texts_364 : decode cL_texts 364 = .ok (.iconst 3, 1) := by decide +kernel
theorem dL_texts_365 : decode cL_texts 365 = .ok (.if_icmp .ne 59, 3) := by decide +kernel
theorem dL_texts_368 : decode cL_texts 368 = .ok (.aload_n 0, 1) := by decide +kernel
theorem dL_texts_369 : decode cL_texts 369 = .ok (.ldc2_w 133, 3) := by decide +kernel
theorem dL_texts_372 : decode cL_texts 372 = .ok (.invokevirtual 77, 3) := by decide +kernel
theorem dL_texts_375 : decode cL_texts 375 = .ok (.ifCond .lt 49, 3) := by decide +kernel
theorem dL_texts_378 : decode cL_texts 378 = .ok (.aload_n 0, 1) := by decide +kernel
theorem dL_texts_379 : decode cL_texts 379 = .ok (.invokevirtual 101, 3) := by decide +kernel
theorem dL_texts_382 : decode cL_texts 382 = .ok (.bipush 6, 2) := by decide +kernel
theorem dL_texts_384 : decode cL_texts 384 = .ok (.if_icmp .ne 40, 3) := by decide +kernel
theorem dL_texts_387 : decode cL_texts 387 = .ok (.aload_n 0, 1) := by decide +kernel
theorem dL_texts_388 : decode cL_texts 388 = .ok (.invokevirtual 106, 3) := by decide +kernel
theorem dL_texts_391 : decode cL_texts 391 = .ok (.bipush 6, 2) := by decide +kernel
theorem dL_texts_393 : decode cL_texts 393 = .ok (.if_icmp .ne 31, 3) := by decide +kernel
theorem dL_texts_396 : decode cL_texts 396 = .ok (.aload_n 0, 1) := by decide +kernel
theorem dL_texts_397 : decode cL_texts 397 = .ok (.ldc2_w 135, 3) := by decide +kernel
theorem dL_texts_400 : decode cL_texts 400 = .ok (.invokevirtual 77, 3) := by decide +kernel
theorem dL_texts_403 : decode cL_texts 403 = .ok (.ifCond .lt 21, 3) := by decide +kernel
theorem dL_texts_406 : decode cL_texts 406 = .ok (.aload_n 0, 1) := by decide +kernel
theorem dL_texts_407 : decode cL_texts 407 = .ok (.invokevirtual 101, 3) := by decide +kernel
theorem dL_texts_410 : decode cL_texts 410 = .ok (.bipush 6, 2) := by decide +kernel
theorem dL_texts_412 : decode cL_texts 412 = .ok (.if_icmp .ne 12, 3) := by decide +kernel
theorem dL_texts_415 : decode cL_texts 415 = .ok (.aload_n 0, 1) := by decide +kernel
theorem dL_texts_416 : decode cL_texts 416 = .ok (.invokevirtual 106, 3) := by decide +kernel
theorem dL_texts_419 : decode cL_texts 419 = .ok (.bipush 7, 2) := by decide +kernel
theorem dL_texts_421 : decode cL_texts 421 = .ok (.if_icmp .eq 5, 3) := by decide +kernel
theorem dL_texts_424 : decode cL_texts 424 = .ok (.iconst 0, 1) := by decide +kernel
theorem dL_texts_425 : decode cL_texts 425 = .ok (.ireturn, 1) := by decide +kernel
theorem dL_texts_426 : decode cL_texts 426 = .ok (.aload_n 0, 1) := by decide +kernel
theorem dL_texts_427 : decode cL_texts 427 = .ok (.ldc2_w 137, 3) := by decide +kernel
theorem dL_texts_430 : decode cL_texts 430 = .ok (.invokevirtual 77, 3) := by decide +kernel
theorem dL_texts_433 : decode cL_texts 433 = .ok (.bipush 8, 2) := by decide +kernel
theorem dL_texts_435 : decode cL_texts 435 = .ok (.if_icmp .ne 57, 3) := by decide +kernel
theorem dL_texts_438 : decode cL_texts 438 = .ok (.aload_n 0, 1) := by decide +kernel
theorem dL_texts_439 : decode cL_texts 439 = .ok (.ldc2_w 139, 3) := by decide +kernel
theorem dL_texts_442 : decode cL_texts 442 = .ok (.invokevirtual 77, 3) := by decide +kernel
theorem dL_texts_445 : decode cL_texts 445 = .ok (.bipush 12, 2) := by decide +kernel
theorem dL_texts_447 : decode cL_texts 447 = .ok (.if_icmp .ne 45, 3) := by decide +kernel
theorem dL_texts_450 : decode cL_texts 450 = .ok (.aload_n 0, 1) := by decide +kernel
theorem dL_texts_451 : decode cL_texts 451 = .ok (.invokevirtual 101, 3) := by decide +kernel
theorem dL_texts_454 : decode cL_texts 454 = .ok (.bipush (-6), 2) := by decide +kernel
theorem dL_texts_456 : decode cL_texts 456 = .ok (.if_icmp .ne 36, 3) := by decide +kernel
theorem dL_texts_459 : decode cL_texts 459 = .ok (.aload_n 0, 1) := by decide +kernel
theorem dL_texts_460 : decode cL_texts 460 = .ok (.invokevirtual 44, 3) := by decide +kernel
theorem dL_texts_463 : decode cL_texts 463 = .ok (.ifCond .ne 29, 3) := by decide +kernel
theorem dL_texts_466 : decode cL_texts 466 = .ok (.aload_n 0, 1) := by decide +kernel
theorem dL_texts_467 : decode cL_texts 467 = .ok (.bipush 10, 2) := by decide +kernel
theorem dL_texts_469 : decode cL_texts 469 = .ok (.invokevirtual 13, 3) := by decide +kernel
theorem dL_texts_472 : decode cL_texts 472 = .ok (.iconst 1, 1) := by decide +kernel
theorem dL_texts_473 : decode cL_texts 473 = .ok (.if_icmp .ne 19, 3) := by decide +kernel
theorem dL_texts_476 : decode cL_texts 476 = .ok (.aload_n 0, 1) := by decide +kernel
theorem dL_texts_477 : decode cL_texts 477 = .ok (.bipush 9, 2) := by decide +kernel
theorem dL_texts_479 : decode cL_texts 479 = .ok (.invokevirtual 13, 3) := by decide +kernel
theorem dL_texts_482 : decode cL_texts 482 = .ok (.ifCond .ne 10, 3) := by decide +kernel
theorem dL_texts_485 : decode cL_texts 485 = .ok (.aload_n 0, 1) := by decide +kernel
theorem dL_texts_486 : decode cL_texts 486 = .ok (.invokevirtual 94, 3) := by decide +kernel
theorem dL_texts_489 : decode cL_texts 489 = .ok (.ifCond .eq 5, 3) := by decide +kernel
theorem dL_texts_492 : decode cL_texts 492 = .ok (.iconst 0, 1) := by decide +kernel
theorem dL_texts_493 : decode cL_texts 493 = .ok (.ireturn, 1) := by decide +kernel
theorem dL_texts_494 : decode cL_texts 494 = .ok (.aload_n 0, 1) := by decide +kernel
theorem dL_texts_495 : decode cL_texts 495 = .ok (.ldc2_w 141, 3) := by decide +kernel
theorem dL_texts_498 : decode cL_texts 498 = .ok (.invokevirtual 77, 3) := by decide +kernel
theorem dL_texts_501 : decode cL_texts 501 = .ok (.bipush 8, 2) := by decide +kernel
theorem dL_texts_503 : decode cL_texts 503 = .ok (.if_icmp .ne 185, 3) := by decide +kernel
theorem dL_texts_506 : decode cL_texts 506 = .ok (.aload_n 0, 1) := by decide +kernel
theorem dL_texts_507 : decode cL_texts 507 = .ok (.ldc2_w 143, 3) := by decide +kernel
theorem dL_texts_510 : decode cL_texts 510 = .ok (.invokevirtual 77, 3) := by decide +kernel
theorem dL_texts_513 : decode cL_texts 513 = .ok (.bipush 16, 2) := by decide +kernel
theorem dL_texts_515 : decode cL_texts 515 = .ok (.if_icmp .ne 173, 3) := by decide +kernel
theorem dL_texts_518 : decode cL_texts 518 = .ok (.aload_n 0, 1) := by decide +kernel
theorem dL_texts_519 : decode cL_texts 519 = .ok (.ldc2_w 145, 3) := by decide +kernel
theorem dL_texts_522 : decode cL_texts 522 = .ok (.invokevirtual 77, 3) := by decide +kernel
theorem dL_texts_525 : decode cL_texts 525 = .ok (.bipush 24, 2) := by decide +kernel
theorem dL_texts_527 : decode cL_texts 527 = .ok (.if_icmp .ne 161, 3) := by decide +kernel
theorem dL_texts_530 : decode cL_texts 530 = .ok (.aload_n 0, 1) := by decide +kernel
theorem dL_texts_531 : decode cL_texts 531 = .ok (.ldc2_w 147, 3) := by decide +kernel
theorem dL_texts_534 : decode cL_texts 534 = .ok (.invokevirtual 77, 3) := by decide +kernel
theorem dL_texts_537 : decode cL_texts 537 = .ok (.bipush 32, 2) := by decide +kernel
theorem dL_texts_539 : decode cL_texts 539 = .ok (.if_icmp .ne 149, 3) := by decide +kernel
theorem dL_texts_542 : decode cL_texts 542 = .ok (.aload_n 0, 1) := by decide +kernel
theorem dL_texts_543 : decode cL_texts 543 = .ok (.ldc2_w 149, 3) := by decide +kernel
theorem dL_texts_546 : decode cL_texts 546 = .ok (.invokevirtual 77, 3) := by decide +kernel
theorem dL_texts_549 : decode cL_texts 549 = .ok (.bipush 40, 2) := by decide +kernel
theorem dL_texts_551 : decode cL_texts 551 = .ok (.if_icmp .ne 137, 3) := by decide +kernel
theorem dL_texts_554 : decode cL_texts 554 = .ok (.aload_n 0, 1) := by decide +kernel
theorem dL_texts_555 : decode cL_texts 555 = .ok (.ldc2_w 151, 3) := by decide +kernel
theorem dL_texts_558 : decode cL_texts 558 = .ok (.invokevirtual 77, 3) := by decide +kernel
theorem dL_texts_561 : decode cL_texts 561 = .ok (.bipush 48, 2) := by decide +kernel
theorem dL_texts_563 : decode cL_texts 563 = .ok (.if_icmp .ne 125, 3) := by decide +kernel
theorem dL_texts_566 : decode cL_texts 566 = .ok (.aload_n 0, 1) := by decide +kernel
theorem dL_texts_567 : decode cL_texts 567 = .ok (.ldc2_w 153, 3) := by decide +kernel
theorem dL_texts_570 : decode cL_texts 570 = .ok (.invokevirtual 77, 3) := by decide +kernel
theorem dL_texts_573 : decode cL_texts 573 = .ok (.bipush 50, 2) := by decide +kernel
theorem dL_texts_575 : decode cL_texts 575 = .ok (.if_icmp .ne 113, 3) := by decide +kernel
theorem dL_texts_578 : decode cL_texts 578 = .ok (.aload_n 0, 1) := by decide +kernel
theorem dL_texts_579 : decode cL_texts 579 = .ok (.invokevirtual 101, 3) := by decide +kernel
theorem dL_texts_582 : decode cL_texts 582 = .ok (.bipush (-6), 2) := by decide +kernel
theorem dL_texts_584 : decode cL_texts 584 = .ok (.if_icmp .ne 104, 3) := by decide +kernel
theorem dL_texts_587 : decode cL_texts 587 = .ok (.aload_n 0, 1) := by decide +kernel
theorem dL_texts_588 : decode cL_texts 588 = .ok (.invokevirtual 44, 3) := by decide +kernel
theorem dL_texts_591 : decode cL_texts 591 = .ok (.iconst 5, 1) := by decide +kernel
theorem dL_texts_592 : decode cL_texts 592 = .ok (.if_icmp .ne 96, 3) := by decide +kernel
theorem dL_texts_595 : decode cL_texts 595 = .ok (.aload_n 0, 1) := by decide +kernel
theorem dL_texts_596 : decode cL_texts 596 = .ok (.iconst 0, 1) := by decide +kernel
theorem dL_texts_597 : decode cL_texts 597 = .ok (.invokevirtual 13, 3) := by decide +kernel
theorem dL_texts_600 : decode cL_texts 600 = .ok (.iconst 1, 1) := by decide +kernel
theorem dL_texts_601 : decode cL_texts 601 = .ok (.if_icmp .ne 87, 3) := by decide +kernel
theorem dL_texts_604 : decode cL_texts 604 = .ok (.aload_n 0, 1) := by decide +kernel
theorem dL_texts_605 : decode cL_texts 605 = .ok (.iconst 3, 1) := by decide +kernel
theorem dL_texts_606 : decode cL_texts 606 = .ok (.invokevirtual 13, 3) := by decide +kernel
theorem dL_texts_609 : decode cL_texts 609 = .ok (.iconst 3, 1) := by decide +kernel
theorem dL_texts_610 : decode cL_texts 610 = .ok (.if_icmp .ne 78, 3) := by decide +kernel
theorem dL_texts_613 : decode cL_texts 613 = .ok (.aload_n 0, 1) := by decide +kernel
theorem dL_texts_614 : decode cL_texts 614 = .ok (.iconst 5, 1) := by decide +kernel
theorem dL_texts_615 : decode cL_texts 615 = .ok (.invokevirtual 13, 3) := by decide +kernel
theorem dL_texts_618 : decode cL_texts 618 = .ok (.bipush 12, 2) := by decide +kernel
theorem dL_texts_620 : decode cL_texts 620 = .ok (.if_icmp .ne 68, 3) := by decide +kernel
theorem dL_texts_623 : decode cL_texts 623 = .ok (.aload_n 0, 1) := by decide +kernel
theorem dL_texts_624 : decode cL_texts 624 = .ok (.iconst 0, 1) := by decide +kernel
theorem dL_texts_625 : decode cL_texts 625 = .ok (.iconst 5, 1) := by decide +kernel
theorem dL_texts_626 : decode cL_texts 626 = .ok (.invokevirtual 19, 3) := by decide +kernel
theorem dL_texts_629 : decode cL_texts 629 = .ok (.bipush 12, 2) := by decide +kernel
theorem dL_texts_631 : decode cL_texts 631 = .ok (.if_icmp .ne 57, 3) := by decide +kernel
theorem dL_texts_634 : decode cL_texts 634 = .ok (.aload_n 0, 1) := by decide +kernel
theorem dL_texts_635 : decode cL_texts 635 = .ok (.iconst 0, 1) := by decide +kernel
theorem dL_texts_636 : decode cL_texts 636 = .ok (.iconst 0, 1) := by decide +kernel
theorem dL_texts_637 : decode cL_texts 637 = .ok (.invokevirtual 23, 3) := by decide +kernel
theorem dL_texts_640 : decode cL_texts 640 = .ok (.ifCond .ne 48, 3) := by decide +kernel
theorem dL_texts_643 : decode cL_texts 643 = .ok (.aload_n 0, 1) := by decide +kernel
theorem dL_texts_644 : decode cL_texts 644 = .ok (.iconst 0, 1) := by decide +kernel
theorem dL_texts_645 : decode cL_texts 645 = .ok (.iconst 2, 1) := by decide +kernel
theorem dL_texts_646 : decode cL_texts 646 = .ok (.invokevirtual 23, 3) := by decide +kernel
theorem dL_texts_649 : decode cL_texts 649 = .ok (.bipush 8, 2) := by decide +kernel
theorem dL_texts_651 : decode cL_texts 651 = .ok (.if_icmp .ne 37, 3) := by decide +kernel
theorem dL_texts_654 : decode cL_texts 654 = .ok (.aload_n 0, 1) := by decide +kernel
theorem dL_texts_655 : decode cL_texts 655 = .ok (.bipush 10, 2) := by decide +kernel
theorem dL_texts_657 : decode cL_texts 657 = .ok (.invokevirtual 13, 3) := by decide +kernel
theorem dL_texts_660 : decode cL_texts 660 = .ok (.iconst 1, 1) := by decide +kernel
theorem dL_texts_661 : decode cL_texts 661 = .ok (.if_icmp .ne 27, 3) := by decide +kernel
theorem dL_texts_664 : decode cL_texts 664 = .ok (.aload_n 0, 1) := by decide +kernel
theorem dL_texts_665 : decode cL_texts 665 = .ok (.bipush 9, 2) := by decide +kernel
theorem dL_texts_667 : decode cL_texts 667 = .ok (.invokevirtual 13, 3) := by decide +kernel
theorem dL_texts_670 : decode cL_texts 670 = .ok (.ifCond .ne 18, 3) := by decide +kernel
theorem dL_texts_673 : decode cL_texts 673 = .ok (.aload_n 0, 1) := by decide +kernel
theorem dL_texts_674 : decode cL_texts 674 = .ok (.invokevirtual 94, 3) := by decide +kernel
theorem dL_texts_677 : decode cL_texts 677 = .ok (.ifCond .ne 11, 3) := by decide +kernel
theorem dL_texts_680 : decode cL_texts 680 = .ok (.aload_n 0, 1) := by decide +kernel
theorem dL_texts_681 : decode cL_texts 681 = .ok (.iconst 0, 1) := by decide +kernel
theorem dL_texts_682 : decode cL_texts 682 = .ok (.invokevirtual 13, 3) := by decide +kernel
theorem dL_texts_685 : decode cL_texts 685 = .ok (.ifCond .eq 5, 3) := by decide +kernel
theorem dL_texts_688 : decode cL_texts 688 = .ok (.iconst 0, 1) := by decide +kernel
theorem dL_texts_689 : decode cL_texts 689 = .ok (.ireturn, 1) := by decide +kernel
theorem dL_texts_690 : decode cL_texts 690 = .ok (.iconst 0, 1) := by decide +kernel
theorem dL_texts_691 : decode cL_texts 691 = .ok (.istore_n 1, 1) := by decide +kernel
theorem dL_texts_692 : decode cL_texts 692 = .ok (.iload_n 1, 1) := by decide +kernel
theorem dL_texts_693 : decode cL_texts 693 = .ok (.bipush 10, 2) := by decide +kernel
theorem dL_texts_695 : decode cL_texts 695 = .ok (.if_icmp .ge 28, 3) := by decide +kernel
theorem dL_texts_698 : decode cL_texts 698 = .ok (.aload_n 0, 1) := by decide +kernel
theorem dL_texts_699 : decode cL_texts 699 = .ok (.ldc2_w 155, 3) := by decide +kernel
theorem dL_texts_702 : decode cL_texts 702 = .ok (.invokevirtual 77, 3) := by decide +kernel
theorem dL_texts_705 : decode cL_texts 705 = .ok (.bipush 8, 2) := by decide +kernel
theorem dL_texts_707 : decode cL_texts 707 = .ok (.iload_n 1, 1) := by decide +kernel
theorem dL_texts_708 : decode cL_texts 708 = .ok (.imul, 1) := by decide +kernel
theorem dL_texts_709 : decode cL_texts 709 = .ok (.bipush 8, 2) := by decide +kernel
theorem dL_texts_711 : decode cL_texts 711 = .ok (.iadd, 1) := by decide +kernel
theorem dL_texts_712 : decode cL_texts 712 = .ok (.if_icmp .eq 5, 3) := by decide +kernel
theorem dL_texts_715 : decode cL_texts 715 = .ok (.iconst 0, 1) := by decide +kernel
theorem dL_texts_716 : decode cL_texts 716 = .ok (.ireturn, 1) := by decide +kernel
theorem dL_texts_717 : decode cL_texts 717 = .ok (.iinc 1 1, 3) := by decide +kernel
theorem dL_texts_720 : decode cL_texts 720 = .ok (.goto (-28), 3) := by decide +kernel
theorem dL_texts_723 : decode cL_texts 723 = .ok (.aload_n 0, 1) := by decide +kernel
theorem dL_texts_724 : decode cL_texts 724 = .ok (.ldc2_w 157, 3) := by decide +kernel
theorem dL_texts_727 : decode cL_texts 727 = .ok (.invokevirtual 77, 3) := by decide +kernel
theorem dL_texts_730 : decode cL_texts 730 = .ok (.bipush (-4), 2) := by decide +kernel
theorem dL_texts_732 : decode cL_texts 732 = .ok (.if_icmp .ne 37, 3) := by decide +kernel
theorem dL_texts_735 : decode cL_texts 735 = .ok (.aload_n 0, 1) := by decide +kernel
theorem dL_texts_736 : decode cL_texts 736 = .ok (.ldc2_w 75, 3) := by decide +kernel
theorem dL_texts_739 : decode cL_texts 739 = .ok (.invokevirtual 77, 3) := by decide +kernel
theorem dL_texts_742 : decode cL_texts 742 = .ok (.bipush (-2), 2) := by decide +kernel
theorem dL_texts_744 : decode cL_texts 744 = .ok (.if_icmp .ne 25, 3) := by decide +kernel
theorem dL_texts_747 : decode cL_texts 747 = .ok (.aload_n 0, 1) := by decide +kernel
theorem dL_texts_748 : decode cL_texts 748 = .ok (.invokevirtual 101, 3) := by decide +kernel
theorem dL_texts_751 : decode cL_texts 751 = .ok (.bipush 8, 2) := by decide +kernel
theorem dL_texts_753 : decode cL_texts 753 = .ok (.if_icmp .ne 16, 3) := by decide +kernel
theorem dL_texts_756 : decode cL_texts 756 = .ok (.aload_n 0, 1) := by decide +kernel
theorem dL_texts_757 : decode cL_texts 757 = .ok (.invokevirtual 106, 3) := by decide +kernel
theorem dL_texts_760 : decode cL_texts 760 = .ok (.bipush 80, 2) := by decide +kernel
theorem dL_texts_762 : decode cL_texts 762 = .ok (.if_icmp .ne 7, 3) := by decide +kernel
theorem dL_texts_765 : decode cL_texts 765 = .ok (.iconst 1, 1) := by decide +kernel
theorem dL_texts_766 : decode cL_texts 766 = .ok (.goto 4, 3) := by decide +kernel
theorem dL_texts_769 : decode cL_texts 769 = .ok (.iconst 0, 1) := by decide +kernel
theorem dL_texts_770 : decode cL_texts 770 = .ok (.ireturn, 1) := by decide +kernel
