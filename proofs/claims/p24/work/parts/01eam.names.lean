set_option maxRecDepth 20000 in
theorem gL_mesh_L_refused : GoodIn wsL_mesh (va_wsS RL 97 yL_refused wsL_refused) := goodIn_app (goodIn_of _ (by decide +kernel)) ggL_mesh_L_refused
set_option maxRecDepth 20000 in
theorem ggL_mesh_X6_set : GoodIn wsL_mesh wsX6_set := goodIn_r _ [329, 17, 13, 84, 85, 86, 16, 87, 43, 71, 88, 89, 90, 12, 91, 39, 76, 77, 78, 79, 330, 331, 332, 333, 97, 3, 98, 334, 255, 256, 257, 135, 101, 102, 103, 139, 140, 141, 142, 104, 105, 106, 107, 70, 108, 109, 110, 111, 482, 483, 484, 485, 486, 487, 489, 490, 491, 488] (by decide +kernel) (by decide +kernel)
set_option maxRecDepth 20000 in
theorem gL_mesh_X6_set : GoodIn wsL_mesh (wsV RL 26 RX6 yX6_set wsX6_set) := goodIn_app (goodIn_of _ (by decide +kernel)) ggL_mesh_X6_set
set_option maxRecDepth 20000 in
theorem ggL_mesh_X6_run : GoodIn wsL_mesh wsX6_run := goodIn_r _ [454, 17, 13, 84, 85, 86, 16, 87, 43, 71, 88, 89, 90, 12, 91, 39, 76, 77, 78, 79, 425, 426, 427, 3, 428, 33, 219, 220, 221, 222, 185, 164, 165, 166, 135, 101, 102, 103, 116, 97, 98, 223, 224, 225, 32, 226, 227, 109, 110, 111, 228, 61, 229, 168, 169, 170, 136, 137, 138, 230, 231, 232, 233, 172, 173, 174, 234, 235, 236, 254, 255, 256, 257, 258, 259, 260, 261, 262, 263, 264, 265, 245, 246, 247, 248, 266, 267, 268, 269, 270, 271, 272, 301, 302, 303, 304, 305, 306, 126, 307, 308, 309, 310, 253, 196, 197, 429, 430, 431, 432, 433, 434, 435, 436, 147, 148, 149, 150, 139, 140, 141, 142, 437, 438, 439, 440, 441, 204, 205, 206, 334, 167, 442, 443, 444, 445, 171, 143, 144, 145, 146, 104, 105, 106, 107, 70, 108, 482, 483, 484, 485, 486, 487, 489, 490, 491, 488, 501, 502, 503, 504] (by decide +kernel) (by decide +kernel)
set_option maxRecDepth 20000 in
theorem gL_mesh_X6_run : GoodIn wsL_mesh (wsV RL 48 RX6 yX6_run wsX6_run) := goodIn_app (goodIn_of _ (by decide +kernel)) ggL_mesh_X6_run
set_option maxRecDepth 20000 in
theorem ggL_mesh_X6_card : GoodIn wsL_mesh wsX6_card := goodIn_r _ [346, 17, 13, 84, 85, 86, 16, 87, 43, 71, 88, 89, 90, 12, 91, 39, 76, 77, 78, 79, 347, 348, 349, 350, 97, 3, 98, 135, 101, 102, 103, 139, 140, 141, 142, 104, 105, 106, 107, 70, 108, 109, 110, 111, 482, 483, 484, 485, 486, 487, 489, 490, 491, 488] (by decide +kernel) (by decide +kernel)
set_option maxRecDepth 20000 in
theorem gL_mesh_X6_card : GoodIn wsL_mesh (wsV RL 41 RX6 yX6_card wsX6_card) := goodIn_app (goodIn_of _ (by decide +kernel)) ggL_mesh_X6_card
set_option maxRecDepth 20000 in
theorem ggL_mesh_X6_melt : GoodIn wsL_mesh wsX6_melt := goodIn_r _ [338, 17, 13, 84, 85, 86, 16, 87, 43, 71, 88, 89, 90, 12, 91, 39, 76, 77, 78, 79, 339, 340, 341, 342, 163, 164, 165, 166, 135, 101, 102, 103, 136, 137, 138, 139, 140, 141, 142, 104, 105, 106, 107, 70, 108, 109, 110, 111, 482, 483, 484, 485, 486, 487, 489, 490, 491, 488] (by decide +kernel) (by decide +kernel)
set_option maxRecDepth 20000 in
theorem gL_mesh_X6_melt : GoodIn wsL_mesh (wsV RL 38 RX6 yX6_melt wsX6_melt) := goodIn_app (goodIn_of _ (by decide +kernel)) ggL_mesh_X6_melt
set_option maxRecDepth 20000 in
theorem ggL_mesh_X6_save : GoodIn wsL_mesh wsX6_save := goodIn_r _ [458, 21, 13, 459, 460, 461, 20, 462, 47, 96, 97, 3, 98, 463, 89, 90, 12, 91, 39, 76, 77, 78, 79, 100, 101, 102, 103, 482, 483, 484, 485, 486, 487, 492, 493, 488] (by decide +kernel) (by decide +kernel)
set_option maxRecDepth 20000 in
theorem gL_mesh_X6_save : GoodIn wsL_mesh (wsV RL 69 RX6 yX6_save wsX6_save) := goodIn_app (goodIn_of _ (by decide +kernel)) ggL_mesh_X6_save
theorem dL_mesh_0 : decode cL_mesh 0 = .ok (.new 14, 3) := by decide +kernel
theorem dL_mesh_3 : decode cL_mesh 3 = .ok (.dup, 1) := by decide +kernel
theorem dL_mesh_4 : decode cL_mesh 4 = .ok (.invokespecial 93, 3) := by decide +kernel
theorem dL_mesh_7 : decode cL_mesh 7 = .ok (.astore_n 0, 1) := by decide +kernel
theorem dL_mesh_8 : decode cL_mesh 8 = .ok (.aload_n 0, 1) := by decide +kernel
theorem dL_mesh_9 : decode cL_mesh 9 = .ok (.invokevirtual 94, 3) := by decide +kernel
theorem dL_mesh_12 : decode cL_mesh 12 = .ok (.bipush (-5), 2) := by decide +kernel
theorem dL_mesh_14 : decode cL_mesh 14 = .ok (.if_icmp .ne 370, 3) := by decide +kernel
theorem dL_mesh_17 : decode cL_mesh 17 = .ok (.aload_n 0, 1) := by decide +kernel
theorem dL_mesh_18 : decode cL_mesh 18 = .ok (.iconst 0, 1) := by decide +kernel
theorem dL_mesh_19 : decode cL_mesh 19 = .ok (.invokevirtual 72, 3) := by decide +kernel
theorem dL_mesh_22 : decode cL_mesh 22 = .ok (.bipush (-5), 2) := by decide +kernel
theorem dL_mesh_24 : decode cL_mesh 24 = .ok (.if_icmp .ne 360, 3) := by decide +kernel
theorem dL_mesh_27 : decode cL_mesh 27 = .ok (.aload_n 0, 1) := by decide +kernel
theorem dL_mesh_28 : decode cL_mesh 28 = .ok (.iconst 1, 1) := by decide +kernel
theorem dL_mesh_29 : decode cL_mesh 29 = .ok (.invokevirtual 13, 3) := by decide +kernel
theorem dL_mesh_32 : decode cL_mesh 32 = .ok (.iconst 5, 1) := by decide +kernel
theorem dL_mesh_33 : decode cL_mesh 33 = .ok (.if_icmp .ne 351, 3) := by decide +kernel
theorem dL_mesh_36 : decode cL_mesh 36 = .ok (.aload_n 0, 1) := by decide +kernel
theorem dL_mesh_37 : decode cL_mesh 37 = .ok (.iconst 2, 1) := by decide +kernel
theorem dL_mesh_38 : decode cL_mesh 38 = .ok (.invokevirtual 13, 3) := by decide +kernel
theorem dL_mesh_41 : decode cL_mesh 41 = .ok (.iconst 5, 1) := by decide +kernel
theorem dL_mesh_42 : decode cL_mesh 42 = .ok (.if_icmp .ne 342, 3) := by decide +kernel
theorem dL_mesh_45 : decode cL_mesh 45 = .ok (.aload_n 0, 1) := by decide +kernel
theorem dL_mesh_46 : decode cL_mesh 46 = .ok (.iconst 4, 1) := by decide +kernel
theorem dL_mesh_47 : decode cL_mesh 47 = .ok (.iconst 0, 1) := by decide +kernel
theorem dL_mesh_48 : decode cL_mesh 48 = .ok (.invokevirtual 31, 3) := by decide +kernel
theorem dL_mesh_51 : decode cL_mesh 51 = .ok (.ifCond .ne 333, 3) := by decide +kernel
theorem dL_mesh_54 : decode cL_mesh 54 = .ok (.aload_n 0, 1) := by decide +kernel
theorem dL_mesh_55 : decode cL_mesh 55 = .ok (.iconst 4, 1) := by decide +kernel
theorem dL_mesh_56 : decode cL_mesh 56 = .ok (.iconst 0, 1) := by decide +kernel
theorem dL_mesh_57 : decode cL_mesh 57 = .ok (.invokevirtual 31, 3) := by decide +kernel
theorem dL_mesh_60 : decode cL_mesh 60 = .ok (.iconst 1, 1) := by decide +kernel
theorem dL_mesh_61 : decode cL_mesh 61 = .ok (.if_icmp .ne 323, 3) := by decide +kernel
theorem dL_mesh_64 : decode cL_mesh 64 = .ok (.aload_n 0, 1) := by decide +kernel
theorem dL_mesh_65 : decode cL_mesh 65 = .ok (.iconst 0, 1) := by decide +kernel
theorem dL_mesh_66 : decode cL_mesh 66 = .ok (.iconst 0, 1) := by decide +kernel
theorem dL_mesh_67 : decode cL_mesh 67 = .ok (.iconst 2, 1) := by decide +kernel
theorem dL_mesh_68 : decode cL_mesh 68 = .ok (.invokevirtual 34, 3) := by decide +kernel
theorem dL_mesh_71 : decode cL_mesh 71 = .ok (.bipush 9, 2) := by decide +kernel
theorem dL_mesh_73 : decode cL_mesh 73 = .ok (.if_icmp .ne 311, 3) := by decide +kernel
theorem dL_mesh_76 : decode cL_mesh 76 = .ok (.aload_n 0, 1) := by decide +kernel
theorem dL_mesh_77 : decode cL_mesh 77 = .ok (.iconst 0, 1) := by decide +kernel
theorem dL_mesh_78 : decode cL_mesh 78 = .ok (.iconst 2, 1) := by decide +kernel
theorem dL_mesh_79 : decode cL_mesh 79 = .ok (.iconst (-1), 1) := by decide +kernel
theorem dL_mesh_80 : decode cL_mesh 80 = .ok (.invokevirtual 34, 3) := by decide +kernel
theorem dL_mesh_83 : decode cL_mesh 83 = .ok (.bipush 9, 2) := by decide +kernel
theorem dL_mesh_85 : decode cL_mesh 85 = .ok (.if_icmp .ne 299, 3) := by decide +kernel
theorem dL_mesh_88 : decode cL_mesh 88 = .ok (.aload_n 0, 1) := by decide +kernel
theorem dL_mesh_89 : decode cL_mesh 89 = .ok (.iconst 1, 1) := by decide +kernel
theorem dL_mesh_90 : decode cL_mesh 90 = .ok (.iconst 0, 1) := by decide +kernel
theorem dL_mesh_91 : decode cL_mesh 91 = .ok (.bipush (-2), 2) := by decide +kernel
theorem dL_mesh_93 : decode cL_mesh 93 = .ok (.invokevirtual 34, 3) := by decide +kernel
theorem dL_mesh_96 : decode cL_mesh 96 = .ok (.bipush 9, 2) := by decide +kernel
theorem dL_mesh_98 : decode cL_mesh 98 = .ok (.if_icmp .ne 286, 3) := by decide +kernel
theorem dL_mesh_101 : decode cL_mesh 101 = .ok (.aload_n 0, 1) := by decide +kernel
theorem dL_mesh_102 : decode cL_mesh 102 = .ok (.iconst 1, 1) := by decide +kernel
theorem dL_mesh_103 : decode cL_mesh 103 = .ok (.iconst 2, 1) := by decide +kernel
theorem dL_mesh_104 : decode cL_mesh 104 = .ok (.iconst 1, 1) := by decide +kernel
theorem dL_mesh_105 : decode cL_mesh 105 = .ok (.invokevirtual 34, 3) := by decide +kernel
theorem dL_mesh_108 : decode cL_mesh 108 = .ok (.bipush 9, 2) := by decide +kernel
theorem dL_mesh_110 : decode cL_mesh 110 = .ok (.if_icmp .ne 274, 3) := by decide +kernel
theorem dL_mesh_113 : decode cL_mesh 113 = .ok (.aload_n 0, 1) := by decide +kernel
theorem dL_mesh_114 : decode cL_mesh 114 = .ok (.iconst 0, 1) := by decide +kernel
theorem dL_mesh_115 : decode cL_mesh 115 = .ok (.iconst 0, 1) := by decide +kernel
theorem dL_mesh_116 : decode cL_mesh 116 = .ok (.invokevirtual 23, 3) := by decide +kernel
theorem dL_mesh_119 : decode cL_mesh 119 = .ok (.bipush 11, 2) := by decide +kernel
theorem dL_mesh_121 : decode cL_mesh 121 = .ok (.if_icmp .ne 263, 3) := by decide +kernel
theorem dL_mesh_124 : decode cL_mesh 124 = .ok (.aload_n 0, 1) := by decide +kernel
theorem dL_mesh_125 : decode cL_mesh 125 = .ok (.iconst 0, 1) := by decide +kernel
theorem dL_mesh_126 : decode cL_mesh 126 = .ok (.iconst 4, 1) := by decide +kernel
theorem dL_mesh_127 : decode cL_mesh 127 = .ok (.invokevirtual 23, 3) := by decide +kernel
theorem dL_mesh_130 : decode cL_mesh 130 = .ok (.iconst (-1), 1) := by decide +kernel
theorem dL_mesh_131 : decode cL_mesh 131 = .ok (.if_icmp .ne 253, 3) := by decide +kernel
theorem dL_mesh_134 : decode cL_mesh 134 = .ok (.aload_n 0, 1) := by decide +kernel
theorem dL_mesh_135 : decode cL_mesh 135 = .ok (.iconst 0, 1) := by decide +kernel
theorem dL_mesh_136 : decode cL_mesh 136 = .ok (.iconst 1, 1) := by decide +kernel
theorem dL_mesh_137 : decode cL_mesh 137 = .ok (.invokevirtual 19, 3) := by decide +kernel
theorem dL_mesh_140 : decode cL_mesh 140 = .ok (.iconst 1, 1) := by decide +kernel
theorem dL_mesh_141 : decode cL_mesh 141 = .ok (.if_icmp .ne 243, 3) := by decide +kernel
theorem dL_mesh_144 : decode cL_mesh 144 = .ok (.aload_n 0, 1) := by decide +kernel
theorem dL_mesh_145 : decode cL_mesh 145 = .ok (.iconst 0, 1) := by decide +kernel
theorem dL_mesh_146 : decode cL_mesh 146 = .ok (.iconst 2, 1) := by decide +kernel
theorem dL_mesh_147 : decode cL_mesh 147 = .ok (.invokevirtual 19, 3) := by decide +kernel
theorem dL_mesh_150 : decode cL_mesh 150 = .ok (.iconst 4, 1) := by decide +kernel
theorem dL_mesh_151 : decode cL_mesh 151 = .ok (.if_icmp .ne 233, 3) := by decide +kernel
theorem dL_mesh_154 : decode cL_mesh 154 = .ok (.aload_n 0, 1) := by decide +kernel
theorem dL_mesh_155 : decode cL_mesh 155 = .ok (.iconst 0, 1) := by decide +kernel
theorem dL_mesh_156 : decode cL_mesh 156 = .ok (.iconst 3, 1) := by decide +kernel
theorem dL_mesh_157 : decode cL_mesh 157 = .ok (.invokevirtual 19, 3) := by decide +kernel
theorem dL_mesh_160 : decode cL_mesh 160 = .ok (.bipush 11, 2) := by decide +kernel
theorem dL_mesh_162 : decode cL_mesh 162 = .ok (.if_icmp .ne 222, 3) := by decide +kernel
theorem dL_mesh_165 : decode cL_mesh 165 = .ok (.aload_n 0, 1) := by decide +kernel
theorem dL_mesh_166 : decode cL_mesh 166 = .ok (.iconst 0, 1) := by decide +kernel
theorem dL_mesh_167 : decode cL_mesh 167 = .ok (.iconst 4, 1) := by decide +kernel
theorem dL_mesh_168 : decode cL_mesh 168 = .ok (.invokevirtual 19, 3) := by decide +kernel
theorem dL_mesh_171 : decode cL_mesh 171 = .ok (.bipush 8, 2) := by decide +kernel
theorem dL_mesh_173 : decode cL_mesh 173 = .ok (.if_icmp .ne 211, 3) := by decide +kernel
theorem dL_mesh_176 : decode cL_mesh 176 = .ok (.aload_n 0, 1) := by decide +kernel
theorem dL_mesh_177 : decode cL_mesh 177 = .ok (.iconst 0, 1) := by decide +kernel
theorem dL_mesh_178 : decode cL_mesh 178 = .ok (.iconst 1, 1) := by decide +kernel
theorem dL_mesh_179 : decode cL_mesh 179 = .ok (.iconst 0, 1) := by decide +kernel
theorem dL_mesh_180 : decode cL_mesh 180 = .ok (.iconst 1, 1) := by decide +kernel
theorem dL_mesh_181 : decode cL_mesh 181 = .ok (.iconst 0, 1) := by decide +kernel
theorem dL_mesh_182 : decode cL_mesh 182 = .ok (.invokevirtual 52, 3) := by decide +kernel
theorem dL_mesh_185 : decode cL_mesh 185 = .ok (.iconst 4, 1) := by decide +kernel
theorem dL_mesh_186 : decode cL_mesh 186 = .ok (.if_icmp .ne 198, 3) := by decide +kernel
theorem dL_mesh_189 : decode cL_mesh 189 = .ok (.aload_n 0, 1) := by decide +kernel
theorem dL_mesh_190 : decode cL_mesh 190 = .ok (.iconst 0, 1) := by decide +kernel
theorem dL_mesh_191 : decode cL_mesh 191 = .ok (.iconst 1, 1) := by decide +kernel
theorem dL_mesh_192 : decode cL_mesh 192 = .ok (.iconst 0, 1) := by decide +kernel
theorem dL_mesh_193 : decode cL_mesh 193 = .ok (.iconst 1, 1) := by decide +kernel
theorem dL_mesh_194 : decode cL_mesh 194 = .ok (.iconst 1, 1) := by decide +kernel
theorem dL_mesh_195 : decode cL_mesh 195 = .ok (.invokevirtual 52, 3) := by decide +kernel
theorem dL_mesh_198 : decode cL_mesh 198 = .ok (.bipush 101, 2) := by decide +kernel
theorem dL_mesh_200 : decode cL_mesh 200 = .ok (.if_icmp .ne 184, 3) := by decide +kernel
theorem dL_mesh_203 : decode cL_mesh 203 = .ok (.aload_n 0, 1) := by decide +kernel
theorem dL_mesh_204 : decode cL_mesh 204 = .ok (.iconst 0, 1) := by decide +kernel
theorem dL_mesh_205 : decode cL_mesh 205 = .ok (.iconst 1, 1) := by decide +kernel
theorem dL_mesh_206 : decode cL_mesh 206 = .ok (.iconst 0, 1) := by decide +kernel
theorem dL_mesh_207 : decode cL_mesh 207 = .ok (.iconst 1, 1) := by decide +kernel
theorem dL_mesh_208 : decode cL_mesh 208 = .ok (.iconst 2, 1) := by decide +kernel
theorem dL_mesh_209 : decode cL_mesh 209 = .ok (.invokevirtual 52, 3) := by decide +kernel
theorem dL_mesh_212 : decode cL_mesh 212 = .ok (.bipush 101, 2) := by decide +kernel
theorem dL_mesh_214 : decode cL_mesh 214 = .ok (.if_icmp .ne 170, 3) := by decide +kernel
theorem dL_mesh_217 : decode cL_mesh 217 = .ok (.aload_n 0, 1) := by decide +kernel
theorem dL_mesh_218 : decode cL_mesh 218 = .ok (.iconst 0, 1) := by decide +kernel
theorem dL_mesh_219 : decode cL_mesh 219 = .ok (.iconst 1, 1) := by decide +kernel
theorem dL_mesh_220 : decode cL_mesh 220 = .ok (.iconst 0, 1) := by decide +kernel
theorem dL_mesh_221 : decode cL_mesh 221 = .ok (.iconst 1, 1) := by decide +kernel
theorem dL_mesh_222 : decode cL_mesh 222 = .ok (.iconst 3, 1) := by decide +kernel
theorem dL_mesh_223 : decode cL_mesh 223 = .ok (.invokevirtual 52, 3) := by decide +kernel
theorem dL_mesh_226 : decode cL_mesh 226 = .ok (.iconst 1, 1) := by decide +kernel
theorem dL_mesh_227 : decode cL_mesh 227 = .ok (.if_icmp .ne 157, 3) := by decide +kernel
theorem dL_mesh_230 : decode cL_mesh 230 = .ok (.aload_n 0, 1) := by decide +kernel
theorem dL_mesh_231 : decode cL_mesh 231 = .ok (.iconst 0, 1) := by decide +kernel
theorem dL_mesh_232 : decode cL_mesh 232 = .ok (.iconst 1, 1) := by decide +kernel
theorem dL_mesh_233 : decode cL_mesh 233 = .ok (.iconst 0, 1) := by decide +kernel
theorem dL_mesh_234 : decode cL_mesh 234 = .ok (.iconst 0, 1) := by decide +kernel
theorem dL_mesh_235 : decode cL_mesh 235 = .ok (.iconst 3, 1) := by decide +kernel
theorem dL_mesh_236 : decode cL_mesh 236 = .ok (.invokevirtual 52, 3) := by decide +kernel
theorem dL_mesh_239 : decode cL_mesh 239 = .ok (.ifCond .ne 145, 3) := by decide +kernel
theorem dL_mesh_242 : decode cL_mesh 242 = .ok (.aload_n 0, 1) := by decide +kernel
theorem dL_mesh_243 : decode cL_mesh 243 = .ok (.iconst 0, 1) := by decide +kernel
theorem dL_mesh_244 : decode cL_mesh 244 = .ok (.iconst 1, 1) := by decide +kernel
theorem dL_mesh_245 : decode cL_mesh 245 = .ok (.iconst 0, 1) := by decide +kernel
theorem dL_mesh_246 : decode cL_mesh 246 = .ok (.iconst 0, 1) := by decide +kernel
theorem dL_mesh_247 : decode cL_mesh 247 = .ok (.iconst 0, 1) := by decide +kernel
theorem dL_mesh_248 : decode cL_mesh 248 = .ok (.invokevirtual 56, 3) := by decide +kernel
theorem dL_mesh_251 : decode cL_mesh 251 = .ok (.iconst 1, 1) := by decide +kernel
theorem dL_mesh_252 : decode cL_mesh 252 = .ok (.if_icmp .ne 132, 3) := by decide +kernel
theorem dL_mesh_255 : decode cL_mesh 255 = .ok (.aload_n 0, 1) := by decide +kernel
theorem dL_mesh_256 : decode cL_mesh 256 = .ok (.iconst 0, 1) := by decide +kernel
theorem dL_mesh_257 : decode cL_mesh 257 = .ok (.iconst 1, 1) := by decide +kernel
theorem dL_mesh_258 : decode cL_mesh 258 = .ok (.iconst 0, 1) := by decide +kernel
theorem dL_mesh_259 : decode cL_mesh 259 = .ok (.iconst 0, 1) := by decide +kernel
theorem dL_mesh_260 : decode cL_mesh 260 = .ok (.iconst 1, 1) := by decide +kernel
theorem dL_mesh_261 : decode cL_mesh 261 = .ok (.invokevirtual 56, 3) := by decide +kernel
theorem dL_mesh_264 : decode cL_mesh 264 = .ok (.ifCond .ne 120, 3) := by decide +kernel
theorem dL_mesh_267 : decode cL_mesh 267 = .ok (.aload_n 0, 1) := by decide +kernel
theorem dL_mesh_268 : decode cL_mesh 268 = .ok (.iconst 0, 1) := by decide +kernel
theorem dL_mesh_269 : decode cL_mesh 269 = .ok (.iconst 1, 1) := by decide +kernel
theorem dL_mesh_270 : decode cL_mesh 270 = .ok (.iconst 0, 1) := by decide +kernel
theorem dL_mesh_271 : decode cL_mesh 271 = .ok (.iconst 1, 1) := by decide +kernel
theorem dL_mesh_272 : decode cL_mesh 272 = .ok (.iconst 0, 1) := by decide +kernel
theorem dL_mesh_273 : decode cL_mesh 273 = .ok (.invokevirtual 56, 3) := by decide +kernel
theorem dL_mesh_276 : decode cL_mesh 276 = .ok (.ifCond .ne 108, 3) := by decide +kernel
theorem dL_mesh_279 : decode cL_mesh 279 = .ok (.aload_n 0, 1) := by decide +kernel
theorem dL_mesh_280 : decode cL_mesh 280 = .ok (.iconst 0, 1) := by decide +kernel
theorem dL_mesh_281 : decode cL_mesh 281 = .ok (.iconst 1, 1) := by decide +kernel
theorem dL_mesh_282 : decode cL_mesh 282 = .ok (.iconst 0, 1) := by decide +kernel
theorem dL_mesh_283 : decode cL_mesh 283 = .ok (.iconst 1, 1) := by decide +kernel
theorem dL_mesh_284 : decode cL_mesh 284 = .ok (.iconst 1, 1) := by decide +kernel
theorem dL_mesh_285 : decode cL_mesh 285 = .ok (.invokevirtual 56, 3) := by decide +kernel
theorem dL_mesh_288 : decode cL_mesh 288 = .ok (.bipush (-6), 2) := by decide +kernel
theorem dL_mesh_290 : decode cL_mesh 290 = .ok (.if_icmp .ne 94, 3) := by decide +kernel
theorem dL_mesh_293 : decode cL_mesh 293 = .ok (.aload_n 0, 1) := by decide +kernel
theorem dL_mesh_294 : decode cL_mesh 294 = .ok (.iconst 0, 1) := by decide +kernel
theorem dL_mesh_295 : decode cL_mesh 295 = .ok (.iconst 1, 1) := by decide +kernel
theorem dL_mesh_296 : decode cL_mesh 296 = .ok (.iconst 0, 1) := by decide +kernel
theorem dL_mesh_297 : decode cL_mesh 297 = .ok (.invokevirtual 59, 3) := by decide +kernel
theorem dL_mesh_300 : decode cL_mesh 300 = .ok (.iconst 1, 1) := by decide +kernel
theorem dL_mesh_301 : decode cL_mesh 301 = .ok (.if_icmp .ne 83, 3) := by decide +kernel
theorem dL_mesh_304 : decode cL_mesh 304 = .ok (.aload_n 0, 1) := by decide +kernel
theorem dL_mesh_305 : decode cL_mesh 305 = .ok (.iconst 0, 1) := by decide +kernel
theorem dL_mesh_306 : decode cL_mesh 306 = .ok (.iconst 1, 1) := by decide +kernel
theorem dL_mesh_307 : decode cL_mesh 307 = .ok (.iconst 1, 1) := by decide +kernel
theorem dL_mesh_308 : decode cL_mesh 308 = .ok (.invokevirtual 59, 3) := by decide +kernel
theorem dL_mesh_311 : decode cL_mesh 311 = .ok (.iconst 3, 1) := by decide +kernel
theorem dL_mesh_312 : decode cL_mesh 312 = .ok (.if_icmp .ne 72, 3) := by decide +kernel
theorem dL_mesh_315 : decode cL_mesh 315 = .ok (.aload_n 0, 1) := by decide +kernel
theorem dL_mesh_316 : decode cL_mesh 316 = .ok (.iconst 0, 1) := by decide +kernel
theorem dL_mesh_317 : decode cL_mesh 317 = .ok (.iconst 1, 1) := by decide +kernel
theorem dL_mesh_318 : decode cL_mesh 318 = .ok (.iconst 1, 1) := by decide +kernel
theorem dL_mesh_319 : decode cL_mesh 319 = .ok (.iconst 3, 1) := by decide +kernel
theorem dL_mesh_320 : decode cL_mesh 320 = .ok (.iconst 1, 1) := by decide +kernel
theorem dL_mesh_321 : decode cL_mesh 321 = .ok (.invokevirtual 52, 3) := by decide +kernel
theorem dL_mesh_324 : decode cL_mesh 324 = .ok (.bipush 101, 2) := by decide +kernel
theorem dL_mesh_326 : decode cL_mesh 326 = .ok (.if_icmp .ne 58, 3) := by decide +kernel
theorem dL_mesh_329 : decode cL_mesh 329 = .ok (.aload_n 0, 1) := by decide +kernel
theorem dL_mesh_330 : decode cL_mesh 330 = .ok (.iconst 0, 1) := by decide +kernel
theorem dL_mesh_331 : decode cL_mesh 331 = .ok (.iconst 1, 1) := by decide +kernel
theorem dL_mesh_332 : decode cL_mesh 332 = .ok (.iconst 1, 1) := by decide +kernel
theorem dL_mesh_333 : decode cL_mesh 333 = .ok (.iconst 3, 1) := by decide +kernel
theorem dL_mesh_334 : decode cL_mesh 334 = .ok (.iconst 2, 1) := by decide +kernel
theorem dL_mesh_335 : decode cL_mesh 335 = .ok (.invokevirtual 52, 3) := by decide +kernel
theorem dL_mesh_338 : decode cL_mesh 338 = .ok (.bipush 105, 2) := by decide +kernel
theorem dL_mesh_340 : decode cL_mesh 340 = .ok (.if_icmp .ne 44, 3) := by decide +kernel
theorem dL_mesh_343 : decode cL_mesh 343 = .ok (.aload_n 0, 1) := by decide +kernel
theorem dL_mesh_344 : decode cL_mesh 344 = .ok (.iconst 0, 1) := by decide +kernel
theorem dL_mesh_345 : decode cL_mesh 345 = .ok (.iconst 1, 1) := by decide +kernel
theorem dL_mesh_346 : decode cL_mesh 346 = .ok (.iconst 0, 1) := by decide +kernel
theorem dL_mesh_347 : decode cL_mesh 347 = .ok (.invokevirtual 62, 3) := by decide +kernel
theorem dL_mesh_350 : decode cL_mesh 350 = .ok (.ifCond .ne 34, 3) := by decide +kernel
theorem dL_mesh_353 : decode cL_mesh 353 = .ok (.aload_n 0, 1) := by decide +kernel
theorem dL_mesh_354 : decode cL_mesh 354 = .ok (.iconst 0, 1) := by decide +kernel
theorem dL_mesh_355 : decode cL_mesh 355 = .ok (.iconst 1, 1) := by decide +kernel
theorem dL_mesh_356 : decode cL_mesh 356 = .ok (.iconst 1, 1) := by decide +kernel
theorem dL_mesh_357 : decode cL_mesh 357 = .ok (.invokevirtual 62, 3) := by decide +kernel
theorem dL_mesh_360 : decode cL_mesh 360 = .ok (.iconst 1, 1) := by decide +kernel
theorem dL_mesh_361 : decode cL_mesh 361 = .ok (.if_icmp .ne 23, 3) := by decide +kernel
theorem dL_mesh_364 : decode cL_mesh 364 = .ok (.aload_n 0, 1) := by decide +kernel
theorem dL_mesh_365 : decode cL_mesh 365 = .ok (.iconst 0, 1) := by decide +kernel
theorem dL_mesh_366 : decode cL_mesh 366 = .ok (.iconst 1, 1) := by decide +kernel
theorem dL_mesh_367 : decode cL_mesh 367 = .ok (.iconst 0, 1) := by decide +kernel
theorem dL_mesh_368 : decode cL_mesh 368 = .ok (.iconst 1, 1) := by decide +kernel
theorem dL_mesh_369 : decode cL_mesh 369 = .ok (.invokevirtual 65, 3) := by decide +kernel
theorem dL_mesh_372 : decode cL_mesh 372 = .ok (.bipush 6, 2) := by decide +kernel
theorem dL_mesh_374 : decode cL_mesh 374 = .ok (.if_icmp .ne 10, 3) := by decide +kernel
theorem dL_mesh_377 : decode cL_mesh 377 = .ok (.aload_n 0, 1) := by decide +kernel
theorem dL_mesh_378 : decode cL_mesh 378 = .ok (.invokestatic 97, 3) := by decide +kernel
theorem dL_mesh_381 : decode cL_mesh 381 = .ok (.ifCond .ne 5, 3) := by decide +kernel
theorem dL_mesh_384 : decode cL_mesh 384 = .ok (.iconst 0, 1) := by decide +kernel
theorem dL_mesh_385 : decode cL_mesh 385 = .ok (.ireturn, 1) := by decide +kernel
theorem dL_mesh_386 : decode cL_mesh 386 = .ok (.aload_n 0, 1) := by decide +kernel
theorem dL_mesh_387 : decode cL_mesh 387 = .ok (.iconst 0, 1) := by decide +kernel
theorem dL_mesh_388 : decode cL_mesh 388 = .ok (.iconst 3, 1) := by decide +kernel
theorem dL_mesh_389 : decode cL_mesh 389 = .ok (.invokevirtual 26, 3) := by decide +kernel
theorem dL_mesh_392 : decode cL_mesh 392 = .ok (.bipush 6, 2) := by decide +kernel
theorem dL_mesh_394 : decode cL_mesh 394 = .ok (.if_icmp .ne 324, 3) := by decide +kernel
theorem dL_mesh_397 : decode cL_mesh 397 = .ok (.aload_n 0, 1) := by decide +kernel
theorem dL_mesh_398 : decode cL_mesh 398 = .ok (.iconst 0, 1) := by decide +kernel
theorem dL_mesh_399 : decode cL_mesh 399 = .ok (.iconst 1, 1) := by decide +kernel
theorem dL_mesh_400 : decode cL_mesh 400 = .ok (.iconst 1, 1) := by decide +kernel
theorem dL_mesh_401 : decode cL_mesh 401 = .ok (.invokevirtual 59, 3) := by decide +kernel
theorem dL_mesh_404 : decode cL_mesh 404 = .ok (.bipush (-6), 2) := by decide +kernel
theorem dL_mesh_406 : decode cL_mesh 406 = .ok (.if_icmp .ne 312, 3) := by decide +kernel
theorem dL_mesh_409 : decode cL_mesh 409 = .ok (.aload_n 0, 1) := by decide +kernel
theorem dL_mesh_410 : decode cL_mesh 410 = .ok (.iconst 0, 1) := by decide +kernel
theorem dL_mesh_411 : decode cL_mesh 411 = .ok (.iconst 1, 1) := by decide +kernel
theorem dL_mesh_412 : decode cL_mesh 412 = .ok (.iconst 1, 1) := by decide +kernel
theorem dL_mesh_413 : decode cL_mesh 413 = .ok (.iconst 3, 1) := by decide +kernel
theorem dL_mesh_414 : decode cL_mesh 414 = .ok (.iconst 0, 1) := by decide +kernel
theorem dL_mesh_415 : decode cL_mesh 415 = .ok (.invokevirtual 56, 3) := by decide +kernel
theorem dL_mesh_418 : decode cL_mesh 418 = .ok (.iconst 2, 1) := by decide +kernel
theorem dL_mesh_419 : decode cL_mesh 419 = .ok (.if_icmp .ne 299, 3) := by decide +kernel
theorem dL_mesh_422 : decode cL_mesh 422 = .ok (.aload_n 0, 1) := by decide +kernel
theorem dL_mesh_423 : decode cL_mesh 423 = .ok (.iconst 0, 1) := by decide +kernel
theorem dL_mesh_424 : decode cL_mesh 424 = .ok (.iconst 1, 1) := by decide +kernel
theorem dL_mesh_425 : decode cL_mesh 425 = .ok (.iconst 1, 1) := by decide +kernel
theorem dL_mesh_426 : decode cL_mesh 426 = .ok (.iconst 3, 1) := by decide +kernel
theorem dL_mesh_427 : decode cL_mesh 427 = .ok (.iconst 1, 1) := by decide +kernel
theorem dL_mesh_428 : decode cL_mesh 428 = .ok (.invokevirtual 56, 3) := by decide +kernel
theorem dL_mesh_431 : decode cL_mesh 431 = .ok (.ifCond .ne 287, 3) := by decide +kernel
theorem dL_mesh_434 : decode cL_mesh 434 = .ok (.aload_n 0, 1) := by decide +kernel
theorem dL_mesh_435 : decode cL_mesh 435 = .ok (.iconst 0, 1) := by decide +kernel
theorem dL_mesh_436 : decode cL_mesh 436 = .ok (.iconst 1, 1) := by decide +kernel
theorem dL_mesh_437 : decode cL_mesh 437 = .ok (.iconst 1, 1) := by decide +kernel
theorem dL_mesh_438 : decode cL_mesh 438 = .ok (.iconst 2, 1) := by decide +kernel
theorem dL_mesh_439 : decode cL_mesh 439 = .ok (.iconst 0, 1) := by decide +kernel
theorem dL_mesh_440 : decode cL_mesh 440 = .ok (.invokevirtual 56, 3) := by decide +kernel
theorem dL_mesh_443 : decode cL_mesh 443 = .ok (.iconst 1, 1) := by decide +kernel
theorem dL_mesh_444 : decode cL_mesh 444 = .ok (.if_icmp .ne 274, 3) := by decide +kernel
theorem dL_mesh_447 : decode cL_mesh 447 = .ok (.aload_n 0, 1) := by decide +kernel
theorem dL_mesh_448 : decode cL_mesh 448 = .ok (.iconst 0, 1) := by decide +kernel
theorem dL_mesh_449 : decode cL_mesh 449 = .ok (.iconst 1, 1) := by decide +kernel
theorem dL_mesh_450 : decode cL_mesh 450 = .ok (.iconst 1, 1) := by decide +kernel
theorem dL_mesh_451 : decode cL_mesh 451 = .ok (.iconst 3, 1) := by decide +kernel
theorem dL_mesh_452 : decode cL_mesh 452 = .ok (.invokevirtual 65, 3) := by decide +kernel
theorem dL_mesh_455 : decode cL_mesh 455 = .ok (.bipush (-6), 2) := by decide +kernel
theorem dL_mesh_457 : decode cL_mesh 457 = .ok (.if_icmp .ne 261, 3) := by decide +kernel
theorem dL_mesh_460 : decode cL_mesh 460 = .ok (.aload_n 0, 1) := by decide +kernel
theorem dL_mesh_461 : decode cL_mesh 461 = .ok (.iconst 0, 1) := by decide +kernel
theorem dL_mesh_462 : decode cL_mesh 462 = .ok (.iconst 1, 1) := by decide +kernel
theorem dL_mesh_463 : decode cL_mesh 463 = .ok (.iconst 1, 1) := by decide +kernel
theorem dL_mesh_464 : decode cL_mesh 464 = .ok (.iconst 3, 1) := by decide +kernel
theorem dL_mesh_465 : decode cL_mesh 465 = .ok (.iconst 1, 1) := by decide +kernel
theorem dL_mesh_466 : decode cL_mesh 466 = .ok (.iconst 1, 1) := by decide +kernel
theorem dL_mesh_467 : decode cL_mesh 467 = .ok (.invokevirtual 48, 3) := by decide +kernel
theorem dL_mesh_470 : decode cL_mesh 470 = .ok (.bipush (-5), 2) := by decide +kernel
theorem dL_mesh_472 : decode cL_mesh 472 = .ok (.if_icmp .ne 246, 3) := by decide +kernel
theorem dL_mesh_475 : decode cL_mesh 475 = .ok (.aload_n 0, 1) := by decide +kernel
theorem dL_mesh_476 : decode cL_mesh 476 = .ok (.iconst 0, 1) := by decide +kernel
theorem dL_mesh_477 : decode cL_mesh 477 = .ok (.iconst 1, 1) := by decide +kernel
theorem dL_mesh_478 : decode cL_mesh 478 = .ok (.iconst 0, 1) := by decide +kernel
theorem dL_mesh_479 : decode cL_mesh 479 = .ok (.iconst 1, 1) := by decide +kernel
theorem dL_mesh_480 : decode cL_mesh 480 = .ok (.iconst 3, 1) := by decide +kernel
theorem dL_mesh_481 : decode cL_mesh 481 = .ok (.iconst 4, 1) := by decide +kernel
theorem dL_mesh_482 : decode cL_mesh 482 = .ok (.invokevirtual 48, 3) := by decide +kernel
theorem dL_mesh_485 : decode cL_mesh 485 = .ok (.ifCond .ne 233, 3) := by decide +kernel
theorem dL_mesh_488 : decode cL_mesh 488 = .ok (.aload_n 0, 1) := by decide +kernel
theorem dL_mesh_489 : decode cL_mesh 489 = .ok (.iconst 3, 1) := by decide +kernel
theorem dL_mesh_490 : decode cL_mesh 490 = .ok (.invokevirtual 13, 3) := by decide +kernel
theorem dL_mesh_493 : decode cL_mesh 493 = .ok (.iconst 3, 1) := by decide +kernel
theorem dL_mesh_494 : decode cL_mesh 494 = .ok (.if_icmp .ne 224, 3) := by decide +kernel
theorem dL_mesh_497 : decode cL_mesh 497 = .ok (.aload_n 0, 1) := by decide +kernel
theorem dL_mesh_498 : decode cL_mesh 498 = .ok (.iconst 5, 1) := by decide +kernel
theorem dL_mesh_499 : decode cL_mesh 499 = .ok (.invokevirtual 13, 3) := by decide +kernel
theorem dL_mesh_502 : decode cL_mesh 502 = .ok (.bipush 12, 2) := by decide +kernel
theorem dL_mesh_504 : decode cL_mesh 504 = .ok (.if_icmp .ne 214, 3) := by decide +kernel
theorem dL_mesh_507 : decode cL_mesh 507 = .ok (.aload_n 0, 1) := by decide +kernel
theorem dL_mesh_508 : decode cL_mesh 508 = .ok (.iconst 0, 1) := by decide +kernel
theorem dL_mesh_509 : decode cL_mesh 509 = .ok (.iconst 5, 1) := by decide +kernel
theorem dL_mesh_510 : decode cL_mesh 510 = .ok (.invokevirtual 19, 3) := by decide +kernel
theorem dL_mesh_513 : decode cL_mesh 513 = .ok (.bipush 12, 2) := by decide +kernel
theorem dL_mesh_515 : decode cL_mesh 515 = .ok (.if_icmp .ne 203, 3) := by decide +kernel
theorem dL_mesh_518 : decode cL_mesh 518 = .ok (.aload_n 0, 1) := by decide +kernel
theorem dL_mesh_519 : decode cL_mesh 519 = .ok (.iconst 1, 1) := by decide +kernel
theorem dL_mesh_520 : decode cL_mesh 520 = .ok (.iconst 5, 1) := by decide +kernel
theorem dL_mesh_521 : decode cL_mesh 521 = .ok (.invokevirtual 19, 3) := by decide +kernel
theorem dL_mesh_524 : decode cL_mesh 524 = .ok (.bipush 12, 2) := by decide +kernel
theorem dL_mesh_526 : decode cL_mesh 526 = .ok (.if_icmp .ne 192, 3) := by decide +kernel
theorem dL_mesh_529 : decode cL_mesh 529 = .ok (.aload_n 0, 1) := by decide +kernel
theorem dL_mesh_530 : decode cL_mesh 530 = .ok (.bipush 7, 2) := by decide +kernel
theorem dL_mesh_532 : decode cL_mesh 532 = .ok (.iconst 5, 1) := by decide +kernel
theorem dL_mesh_533 : decode cL_mesh 533 = .ok (.invokevirtual 41, 3) := by decide +kernel
theorem dL_mesh_536 : decode cL_mesh 536 = .ok (.iconst 5, 1) := by decide +kernel
theorem dL_mesh_537 : decode cL_mesh 537 = .ok (.if_icmp .ne 181, 3) := by decide +kernel
theorem dL_mesh_540 : decode cL_mesh 540 = .ok (.aload_n 0, 1) := by decide +kernel
theorem dL_mesh_541 : decode cL_mesh 541 = .ok (.iconst 0, 1) := by decide +kernel
theorem dL_mesh_542 : decode cL_mesh 542 = .ok (.iconst 1, 1) := by decide +kernel
theorem dL_mesh_543 : decode cL_mesh 543 = .ok (.iconst 0, 1) := by decide +kernel
theorem dL_mesh_544 : decode cL_mesh 544 = .ok (.iconst 1, 1) := by decide +kernel
theorem dL_mesh_545 : decode cL_mesh 545 = .ok (.iconst 5, 1) := by decide +kernel
theorem dL_mesh_546 : decode cL_mesh 546 = .ok (.iconst 4, 1) := by decide +kernel
theorem dL_mesh_547 : decode cL_mesh 547 = .ok (.invokevirtual 48, 3) := by decide +kernel
theorem dL_mesh_550 : decode cL_mesh 550 = .ok (.iconst 5, 1) := by decide +kernel
theorem dL_mesh_551 : decode cL_mesh 551 = .ok (.if_icmp .ne 167, 3) := by decide +kernel
theorem dL_mesh_554 : decode cL_mesh 554 = .ok (.aload_n 0, 1) := by decide +kernel
theorem dL_mesh_555 : decode cL_mesh 555 = .ok (.iconst 4, 1) := by decide +kernel
theorem dL_mesh_556 : decode cL_mesh 556 = .ok (.invokevirtual 13, 3) := by decide +kernel
theorem dL_mesh_559 : decode cL_mesh 559 = .ok (.iconst 5, 1) := by decide +kernel
theorem dL_mesh_560 : decode cL_mesh 560 = .ok (.if_icmp .ne 158, 3) := by decide +kernel
theorem dL_mesh_563 : decode cL_mesh 563 = .ok (.aload_n 0, 1) := by decide +kernel
theorem dL_mesh_564 : decode cL_mesh 564 = .ok (.iconst 5, 1) := by decide +kernel
theorem dL_mesh_565 : decode cL_mesh 565 = .ok (.invokevirtual 13, 3) := by decide +kernel
theorem dL_mesh_568 : decode cL_mesh 568 = .ok (.bipush 17, 2) := by decide +kernel
theorem dL_mesh_570 : decode cL_mesh 570 = .ok (.if_icmp .ne 148, 3) := by decide +kernel
theorem dL_mesh_573 : decode cL_mesh 573 = .ok (.aload_n 0, 1) := by decide +kernel
theorem dL_mesh_574 : decode cL_mesh 574 = .ok (.iconst 0, 1) := by decide +kernel
theorem dL_mesh_575 : decode cL_mesh 575 = .ok (.iconst 5, 1) := by decide +kernel
theorem dL_mesh_576 : decode cL_mesh 576 = .ok (.invokevirtual 19, 3) := by decide +kernel
theorem dL_mesh_579 : decode cL_mesh 579 = .ok (.bipush 17, 2) := by decide +kernel
theorem dL_mesh_581 : decode cL_mesh 581 = .ok (.if_icmp .ne 137, 3) := by decide +kernel
theorem dL_mesh_584 : decode cL_mesh 584 = .ok (.aload_n 0, 1) := by decide +kernel
theorem dL_mesh_585 : decode cL_mesh 585 = .ok (.iconst 5, 1) := by decide +kernel
theorem dL_mesh_586 : decode cL_mesh 586 = .ok (.iconst 5, 1) := by decide +kernel
theorem dL_mesh_587 : decode cL_mesh 587 = .ok (.invokevirtual 41, 3) := by decide +kernel
theorem dL_mesh_590 : decode cL_mesh 590 = .ok (.bipush 7, 2) := by decide +kernel
theorem dL_mesh_592 : decode cL_mesh 592 = .ok (.if_icmp .ne 126, 3) := by decide +kernel
theorem dL_mesh_595 : decode cL_mesh 595 = .ok (.aload_n 0, 1) := by decide +kernel
theorem dL_mesh_596 : decode cL_mesh 596 = .ok (.iconst 2, 1) := by decide +kernel
theorem dL_mesh_597 : decode cL_mesh 597 = .ok (.iconst 5, 1) := by decide +kernel
theorem dL_mesh_598 : decode cL_mesh 598 = .ok (.invokevirtual 26, 3) := by decide +kernel
theorem dL_mesh_601 : decode cL_mesh 601 = .ok (.bipush 20, 2) := by decide +kernel
theorem dL_mesh_603 : decode cL_mesh 603 = .ok (.if_icmp .ne 115, 3) := by decide +kernel
theorem dL_mesh_606 : decode cL_mesh 606 = .ok (.aload_n 0, 1) := by decide +kernel
theorem dL_mesh_607 : decode cL_mesh 607 = .ok (.iconst 0, 1) := by decide +kernel
theorem dL_mesh_608 : decode cL_mesh 608 = .ok (.bipush 6, 2) := by decide +kernel
theorem dL_mesh_610 : decode cL_mesh 610 = .ok (.invokevirtual 19, 3) := by decide +kernel
theorem dL_mesh_613 : decode cL_mesh 613 = .ok (.ifCond .ne 105, 3) := by decide +kernel
theorem dL_mesh_616 : decode cL_mesh 616 = .ok (.aload_n 0, 1) := by decide +kernel
theorem dL_mesh_617 : decode cL_mesh 617 = .ok (.iconst 0, 1) := by decide +kernel
theorem dL_mesh_618 : decode cL_mesh 618 = .ok (.iconst 1, 1) := by decide +kernel
theorem dL_mesh_619 : decode cL_mesh 619 = .ok (.iconst 0, 1) := by decide +kernel
theorem dL_mesh_620 : decode cL_mesh 620 = .ok (.iconst 1, 1) := by decide +kernel
theorem dL_mesh_621 : decode cL_mesh 621 = .ok (.iconst 1, 1) := by decide +kernel
theorem dL_mesh_622 : decode cL_mesh 622 = .ok (.iconst 3, 1) := by decide +kernel
theorem dL_mesh_623 : decode cL_mesh 623 = .ok (.invokevirtual 48, 3) := by decide +kernel
theorem dL_mesh_626 : decode cL_mesh 626 = .ok (.ifCond .ne 92, 3) := by decide +kernel
theorem dL_mesh_629 : decode cL_mesh 629 = .ok (.aload_n 0, 1) := by decide +kernel
theorem dL_mesh_630 : decode cL_mesh 630 = .ok (.iconst 0, 1) := by decide +kernel
theorem dL_mesh_631 : decode cL_mesh 631 = .ok (.iconst 5, 1) := by decide +kernel
theorem dL_mesh_632 : decode cL_mesh 632 = .ok (.invokevirtual 19, 3) := by decide +kernel
theorem dL_mesh_635 : decode cL_mesh 635 = .ok (.ifCond .ne 83, 3) := by decide +kernel
theorem dL_mesh_638 : decode cL_mesh 638 = .ok (.aload_n 0, 1) := by decide +kernel
theorem dL_mesh_639 : decode cL_mesh 639 = .ok (.iconst 0, 1) := by decide +kernel
theorem dL_mesh_640 : decode cL_mesh 640 = .ok (.bipush 6, 2) := by decide +kernel
theorem dL_mesh_642 : decode cL_mesh 642 = .ok (.invokevirtual 19, 3) := by decide +kernel
theorem dL_mesh_645 : decode cL_mesh 645 = .ok (.iconst 1, 1) := by decide +kernel
theorem dL_mesh_646 : decode cL_mesh 646 = .ok (.if_icmp .ne 72, 3) := by decide +kernel
theorem dL_mesh_649 : decode cL_mesh 649 = .ok (.aload_n 0, 1) := by decide +kernel
theorem dL_mesh_650 : decode cL_mesh 650 = .ok (.iconst 1, 1) := by decide +kernel
theorem dL_mesh_651 : decode cL_mesh 651 = .ok (.bipush 6, 2) := by decide +kernel
theorem dL_mesh_653 : decode cL_mesh 653 = .ok (.invokevirtual 19, 3) := by decide +kernel
theorem dL_mesh_656 : decode cL_mesh 656 = .ok (.iconst 1, 1) := by decide +kernel
theorem dL_mesh_657 : decode cL_mesh 657 = .ok (.if_icmp .ne 61, 3) := by decide +kernel
theorem dL_mesh_660 : decode cL_mesh 660 = .ok (.aload_n 0, 1) := by decide +kernel
theorem dL_mesh_661 : decode cL_mesh 661 = .ok (.iconst 0, 1) := by decide +kernel
theorem dL_mesh_662 : decode cL_mesh 662 = .ok (.iconst 0, 1) := by decide +kernel
theorem dL_mesh_663 : decode cL_mesh 663 = .ok (.invokevirtual 23, 3) := by decide +kernel
theorem dL_mesh_666 : decode cL_mesh 666 = .ok (.bipush 10, 2) := by decide +kernel
theorem dL_mesh_668 : decode cL_mesh 668 = .ok (.if_icmp .ne 50, 3) := by decide +kernel
theorem dL_mesh_671 : decode cL_mesh 671 = .ok (.aload_n 0, 1) := by decide +kernel
theorem dL_mesh_672 : decode cL_mesh 672 = .ok (.iconst 0, 1) := by decide +kernel
theorem dL_mesh_673 : decode cL_mesh 673 = .ok (.iconst 2, 1) := by decide +kernel
theorem dL_mesh_674 : decode cL_mesh 674 = .ok (.invokevirtual 23, 3) := by decide +kernel
theorem dL_mesh_677 : decode cL_mesh 677 = .ok (.bipush 8, 2) := by decide +kernel
theorem dL_mesh_679 : decode cL_mesh 679 = .ok (.if_icmp .ne 39, 3) := by decide +kernel
theorem dL_mesh_682 : decode cL_mesh 682 = .ok (.aload_n 0, 1) := by decide +kernel
theorem dL_mesh_683 : decode cL_mesh 683 = .ok (.iconst 1, 1) := by decide +kernel
theorem dL_mesh_684 : decode cL_mesh 684 = .ok (.iconst 2, 1) := by decide +kernel
theorem dL_mesh_685 : decode cL_mesh 685 = .ok (.invokevirtual 23, 3) := by decide +kernel
theorem dL_mesh_688 : decode cL_mesh 688 = .ok (.bipush 9, 2) := by decide +kernel
theorem dL_mesh_690 : decode cL_mesh 690 = .ok (.if_icmp .ne 28, 3) := by decide +kernel
theorem dL_mesh_693 : decode cL_mesh 693 = .ok (.aload_n 0, 1) := by decide +kernel
theorem dL_mesh_694 : decode cL_mesh 694 = .ok (.iconst 1, 1) := by decide +kernel
theorem dL_mesh_695 : decode cL_mesh 695 = .ok (.iconst 0, 1) := by decide +kernel
theorem dL_mesh_696 : decode cL_mesh 696 = .ok (.invokevirtual 23, 3) := by decide +kernel
theorem dL_mesh_699 : decode cL_mesh 699 = .ok (.bipush 7, 2) := by decide +kernel
theorem dL_mesh_701 : decode cL_mesh 701 = .ok (.if_icmp .ne 17, 3) := by decide +kernel
theorem dL_mesh_704 : decode cL_mesh 704 = .ok (.aload_n 0, 1) := by decide +kernel
theorem dL_mesh_705 : decode cL_mesh 705 = .ok (.iconst 0, 1) := by decide +kernel
theorem dL_mesh_706 : decode cL_mesh 706 = .ok (.iconst 1, 1) := by decide +kernel
theorem dL_mesh_707 : decode cL_mesh 707 = .ok (.iconst 0, 1) := by decide +kernel
theorem dL_mesh_708 : decode cL_mesh 708 = .ok (.iconst 1, 1) := by decide +kernel
theorem dL_mesh_709 : decode cL_mesh 709 = .ok (.iconst 2, 1) := by decide +kernel
theorem dL_mesh_710 : decode cL_mesh 710 = .ok (.invokevirtual 52, 3) := by decide +kernel
theorem dL_mesh_713 : decode cL_mesh 713 = .ok (.bipush 102, 2) := by decide +kernel
theorem dL_mesh_715 : decode cL_mesh 715 = .ok (.if_icmp .eq 5, 3) := by decide +kernel
theorem dL_mesh_718 : decode cL_mesh 718 = .ok (.iconst 0, 1) := by decide +kernel
theorem dL_mesh_719 : decode cL_mesh 719 = .ok (.ireturn, 1) := by decide +kernel
theorem dL_mesh_720 : decode cL_mesh 720 = .ok (.aload_n 0, 1) := by decide +kernel
theorem dL_mesh_721 : decode cL_mesh 721 = .ok (.iconst 1, 1) := by decide +kernel
theorem dL_mesh_722 : decode cL_mesh 722 = .ok (.iconst 0, 1) := by decide +kernel
theorem dL_mesh_723 : decode cL_mesh 723 = .ok (.invokevirtual 26, 3) := by decide +kernel
theorem dL_mesh_726 : decode cL_mesh 726 = .ok (.iconst 4, 1) := by decide +kernel
theorem dL_mesh_727 : decode cL_mesh 727 = .ok (.if_icmp .ne 182, 3) := by decide +kernel
theorem dL_mesh_730 : decode cL_mesh 730 = .ok (.aload_n 0, 1) := by decide +kernel
theorem dL_mesh_731 : decode cL_mesh 731 = .ok (.iconst 5, 1) := by decide +kernel
theorem dL_mesh_732 : decode cL_mesh 732 = .ok (.bipush 9, 2) := by decide +kernel
theorem dL_mesh_734 : decode cL_mesh 734 = .ok (.invokevirtual 41, 3) := by decide +kernel
theorem dL_mesh_737 : decode cL_mesh 737 = .ok (.iconst 5, 1) := by decide +kernel
theorem dL_mesh_738 : decode cL_mesh 738 = .ok (.if_icmp .ne 171, 3) := by decide +kernel
theorem dL_mesh_741 : decode cL_mesh 741 = .ok (.aload_n 0, 1) := by decide +kernel
theorem dL_mesh_742 : decode cL_mesh 742 = .ok (.iconst 0, 1) := by decide +kernel
theorem dL_mesh_743 : decode cL_mesh 743 = .ok (.iconst 1, 1) := by decide +kernel
theorem dL_mesh_744 : decode cL_mesh 744 = .ok (.iconst 0, 1) := by decide +kernel
theorem dL_mesh_745 : decode cL_mesh 745 = .ok (.iconst 1, 1) := by decide +kernel
theorem dL_mesh_746 : decode cL_mesh 746 = .ok (.iconst 2, 1) := by decide +kernel
theorem dL_mesh_747 : decode cL_mesh 747 = .ok (.iconst 4, 1) := by decide +kernel
theorem dL_mesh_748 : decode cL_mesh 748 = .ok (.invokevirtual 48, 3) := by decide +kernel
theorem dL_mesh_751 : decode cL_mesh 751 = .ok (.iconst 2, 1) := by decide +kernel
theorem dL_mesh_752 : decode cL_mesh 752 = .ok (.if_icmp .ne 157, 3) := by decide +kernel
theorem dL_mesh_755 : decode cL_mesh 755 = .ok (.aload_n 0, 1) := by decide +kernel
theorem dL_mesh_756 : decode cL_mesh 756 = .ok (.iconst 3, 1) := by decide +kernel
theorem dL_mesh_757 : decode cL_mesh 757 = .ok (.invokevirtual 13, 3) := by decide +kernel
theorem dL_mesh_760 : decode cL_mesh 760 = .ok (.bipush 11, 2) := by decide +kernel
theorem dL_mesh_762 : decode cL_mesh 762 = .ok (.if_icmp .ne 147, 3) := by decide +kernel
theorem dL_mesh_765 : decode cL_mesh 765 = .ok (.aload_n 0, 1) := by decide +kernel
theorem dL_mesh_766 : decode cL_mesh 766 = .ok (.iconst 4, 1) := by decide +kernel
theorem dL_mesh_767 : decode cL_mesh 767 = .ok (.invokevirtual 13, 3) := by decide +kernel
theorem dL_mesh_770 : decode cL_mesh 770 = .ok (.bipush 7, 2) := by decide +kernel
theorem dL_mesh_772 : decode cL_mesh 772 = .ok (.if_icmp .ne 137, 3) := by decide +kernel
theorem dL_mesh_775 : decode cL_mesh 775 = .ok (.aload_n 0, 1) := by decide +kernel
theorem dL_mesh_776 : decode cL_mesh 776 = .ok (.iconst 5, 1) := by decide +kernel
theorem dL_mesh_777 : decode cL_mesh 777 = .ok (.invokevirtual 13, 3) := by decide +kernel
theorem dL_mesh_780 : decode cL_mesh 780 = .ok (.bipush 24, 2) := by decide +kernel
theorem dL_mesh_782 : decode cL_mesh 782 = .ok (.if_icmp .ne 127, 3) := by decide +kernel
theorem dL_mesh_785 : decode cL_mesh 785 = .ok (.aload_n 0, 1) := by decide +kernel
theorem dL_mesh_786 : decode cL_mesh 786 = .ok (.iconst 1, 1) := by decide +kernel
theorem dL_mesh_787 : decode cL_mesh 787 = .ok (.iconst 5, 1) := by decide +kernel
theorem dL_mesh_788 : decode cL_mesh 788 = .ok (.invokevirtual 19, 3) := by decide +kernel
theorem dL_mesh_791 : decode cL_mesh 791 = .ok (.iconst 4, 1) := by decide +kernel
theorem dL_mesh_792 : decode cL_mesh 792 = .ok (.if_icmp .ne 117, 3) := by decide +kernel
theorem dL_mesh_795 : decode cL_mesh 795 = .ok (.aload_n 0, 1) := by decide +kernel
theorem dL_mesh_796 : decode cL_mesh 796 = .ok (.iconst 0, 1) := by decide +kernel
theorem dL_mesh_797 : decode cL_mesh 797 = .ok (.iconst 1, 1) := by decide +kernel
theorem dL_mesh_798 : decode cL_mesh 798 = .ok (.iconst 0, 1) := by decide +kernel
theorem dL_mesh_799 : decode cL_mesh 799 = .ok (.iconst 1, 1) := by decide +kernel
theorem dL_mesh_800 : decode cL_mesh 800 = .ok (.invokevirtual 65, 3) := by decide +kernel
theorem dL_mesh_803 : decode cL_mesh 803 = .ok (.iconst 1, 1) := by decide +kernel
theorem dL_mesh_804 : decode cL_mesh 804 = .ok (.if_icmp .ne 105, 3) := by decide +kernel
theorem dL_mesh_807 : decode cL_mesh 807 = .ok (.aload_n 0, 1) := by decide +kernel
theorem dL_mesh_808 : decode cL_mesh 808 = .ok (.bipush 6, 2) := by decide +kernel
theorem dL_mesh_810 : decode cL_mesh 810 = .ok (.bipush 9, 2) := by decide +kernel
theorem dL_mesh_812 : decode cL_mesh 812 = .ok (.invokevirtual 31, 3) := by decide +kernel
theorem dL_mesh_815 : decode cL_mesh 815 = .ok (.iconst 2, 1) := by decide +kernel
theorem dL_mesh_816 : decode cL_mesh 816 = .ok (.if_icmp .ne 93, 3) := by decide +kernel
theorem dL_mesh_819 : decode cL_mesh 819 = .ok (.aload_n 0, 1) := by decide +kernel
theorem dL_mesh_820 : decode cL_mesh 820 = .ok (.iconst 0, 1) := by decide +kernel
theorem dL_mesh_821 : decode cL_mesh 821 = .ok (.iconst 2, 1) := by decide +kernel
theorem dL_mesh_822 : decode cL_mesh 822 = .ok (.iconst 5, 1) := by decide +kernel
theorem dL_mesh_823 : decode cL_mesh 823 = .ok (.bipush 30, 2) := by decide +kernel
theorem dL_mesh_825 : decode cL_mesh 825 = .ok (.iconst 0, 1) := by decide +kernel
theorem dL_mesh_826 : decode cL_mesh 826 = .ok (.invokevirtual 52, 3) := by decide +kernel
theorem dL_mesh_829 : decode cL_mesh 829 = .ok (.bipush 12, 2) := by decide +kernel
theorem dL_mesh_831 : decode cL_mesh 831 = .ok (.if_icmp .ne 78, 3) := by decide +kernel
theorem dL_mesh_834 : decode cL_mesh 834 = .ok (.aload_n 0, 1) := by decide +kernel
theorem dL_mesh_835 : decode cL_mesh 835 = .ok (.iconst 2, 1) := by decide +kernel
theorem dL_mesh_836 : decode cL_mesh 836 = .ok (.iconst 1, 1) := by decide +kernel
theorem dL_mesh_837 : decode cL_mesh 837 = .ok (.iconst 3, 1) := by decide +kernel
theorem dL_mesh_838 : decode cL_mesh 838 = .ok (.invokevirtual 59, 3) := by decide +kernel
theorem dL_mesh_841 : decode cL_mesh 841 = .ok (.bipush 10, 2) := by decide +kernel
theorem dL_mesh_843 : decode cL_mesh 843 = .ok (.if_icmp .ne 66, 3) := by decide +kernel
theorem dL_mesh_846 : decode cL_mesh 846 = .ok (.aload_n 0, 1) := by decide +kernel
theorem dL_mesh_847 : decode cL_mesh 847 = .ok (.iconst 0, 1) := by decide +kernel
theorem dL_mesh_848 : decode cL_mesh 848 = .ok (.iconst 2, 1) := by decide +kernel
theorem dL_mesh_849 : decode cL_mesh 849 = .ok (.iconst 0, 1) := by decide +kernel
theorem dL_mesh_850 : decode cL_mesh 850 = .ok (.invokevirtual 59, 3) := by decide +kernel
theorem dL_mesh_853 : decode cL_mesh 853 = .ok (.bipush 11, 2) := by decide +kernel
theorem dL_mesh_855 : decode cL_mesh 855 = .ok (.if_icmp .ne 54, 3) := by decide +kernel
theorem dL_mesh_858 : decode cL_mesh 858 = .ok (.aload_n 0, 1) := by decide +kernel
theorem dL_mesh_859 : decode cL_mesh 859 = .ok (.iconst 0, 1) := by decide +kernel
theorem dL_mesh_860 : decode cL_mesh 860 = .ok (.invokevirtual 38, 3) := by decide +kernel
theorem dL_mesh_863 : decode cL_mesh 863 = .ok (.iconst 2, 1) := by decide +kernel
theorem dL_mesh_864 : decode cL_mesh 864 = .ok (.if_icmp .ne 45, 3) := by decide +kernel
theorem dL_mesh_867 : decode cL_mesh 867 = .ok (.aload_n 0, 1) := by decide +kernel
theorem dL_mesh_868 : decode cL_mesh 868 = .ok (.iconst 0, 1) := by decide +kernel
theorem dL_mesh_869 : decode cL_mesh 869 = .ok (.bipush 6, 2) := by decide +kernel
theorem dL_mesh_871 : decode cL_mesh 871 = .ok (.invokevirtual 19, 3) := by decide +kernel
theorem dL_mesh_874 : decode cL_mesh 874 = .ok (.iconst 1, 1) := by decide +kernel
theorem dL_mesh_875 : decode cL_mesh 875 = .ok (.if_icmp .ne 34, 3) := by decide +kernel
theorem dL_mesh_878 : decode cL_mesh 878 = .ok (.aload_n 0, 1) := by decide +kernel
theorem dL_mesh_879 : decode cL_mesh 879 = .ok (.iconst 1, 1) := by decide +kernel
theorem dL_mesh_880 : decode cL_mesh 880 = .ok (.iconst 0, 1) := by decide +kernel
theorem dL_mesh_881 : decode cL_mesh 881 = .ok (.invokevirtual 19, 3) := by decide +kernel
theorem dL_mesh_884 : decode cL_mesh 884 = .ok (.bipush 6, 2) := by decide +kernel
theorem dL_mesh_886 : decode cL_mesh 886 = .ok (.if_icmp .ne 23, 3) := by decide +kernel
theorem dL_mesh_889 : decode cL_mesh 889 = .ok (.aload_n 0, 1) := by decide +kernel
theorem dL_mesh_890 : decode cL_mesh 890 = .ok (.iconst 1, 1) := by decide +kernel
theorem dL_mesh_891 : decode cL_mesh 891 = .ok (.iconst 5, 1) := by decide +kernel
theorem dL_mesh_892 : decode cL_mesh 892 = .ok (.invokevirtual 19, 3) := by decide +kernel
theorem dL_mesh_895 : decode cL_mesh 895 = .ok (.ifCond .ne 14, 3) := by decide +kernel
theorem dL_mesh_898 : decode cL_mesh 898 = .ok (.aload_n 0, 1) := by decide +kernel
theorem dL_mesh_899 : decode cL_mesh 899 = .ok (.bipush 10, 2) := by decide +kernel
theorem dL_mesh_901 : decode cL_mesh 901 = .ok (.invokevirtual 13, 3) := by decide +kernel
theorem dL_mesh_904 : decode cL_mesh 904 = .ok (.bipush 6, 2) := by decide +kernel
theorem dL_mesh_906 : decode cL_mesh 906 = .ok (.if_icmp .eq 5, 3) := by decide +kernel
theorem dL_mesh_909 : decode cL_mesh 909 = .ok (.iconst 0, 1) := by decide +kernel
theorem dL_mesh_910 : decode cL_mesh 910 = .ok (.ireturn, 1) := by decide +kernel
theorem dL_mesh_911 : decode cL_mesh 911 = .ok (.aload_n 0, 1) := by decide +kernel
theorem dL_mesh_912 : decode cL_mesh 912 = .ok (.invokevirtual 94, 3) := by decide +kernel
theorem dL_mesh_915 : decode cL_mesh 915 = .ok (.iconst 5, 1) := by decide +kernel
theorem dL_mesh_916 : decode cL_mesh 916 = .ok (.if_icmp .ne 99, 3) := by decide +kernel
theorem dL_mesh_919 : decode cL_mesh 919 = .ok (.aload_n 0, 1) := by decide +kernel
theorem dL_mesh_920 : decode cL_mesh 920 = .ok (.iconst 0, 1) := by decide +kernel
theorem dL_mesh_921 : decode cL_mesh 921 = .ok (.invokevirtual 13, 3) := by decide +kernel
theorem dL_mesh_924 : decode cL_mesh 924 = .ok (.iconst 3, 1) := by decide +kernel
theorem dL_mesh_925 : decode cL_mesh 925 = .ok (.if_icmp .ne 90, 3) := by decide +kernel
theorem dL_mesh_928 : decode cL_mesh 928 = .ok (.aload_n 0, 1) := by decide +kernel
theorem dL_mesh_929 : decode cL_mesh 929 = .ok (.invokevirtual 94, 3) := by decide +kernel
theorem dL_mesh_932 : decode cL_mesh 932 = .ok (.iconst 4, 1) := by decide +kernel
theorem dL_mesh_933 : decode cL_mesh 933 = .ok (.if_icmp .ne 82, 3) := by decide +kernel
theorem dL_mesh_936 : decode cL_mesh 936 = .ok (.aload_n 0, 1) := by decide +kernel
theorem dL_mesh_937 : decode cL_mesh 937 = .ok (.iconst 0, 1) := by decide +kernel
theorem dL_mesh_938 : decode cL_mesh 938 = .ok (.invokevirtual 13, 3) := by decide +kernel
theorem dL_mesh_941 : decode cL_mesh 941 = .ok (.iconst 2, 1) := by decide +kernel
theorem dL_mesh_942 : decode cL_mesh 942 = .ok (.if_icmp .ne 73, 3) := by decide +kernel
theorem dL_mesh_945 : decode cL_mesh 945 = .ok (.aload_n 0, 1) := by decide +kernel
theorem dL_mesh_946 : decode cL_mesh 946 = .ok (.invokevirtual 94, 3) := by decide +kernel
theorem dL_mesh_949 : decode cL_mesh 949 = .ok (.iconst 3, 1) := by decide +kernel
theorem dL_mesh_950 : decode cL_mesh 950 = .ok (.if_icmp .ne 65, 3) := by decide +kernel
theorem dL_mesh_953 : decode cL_mesh 953 = .ok (.aload_n 0, 1) := by decide +kernel
theorem dL_mesh_954 : decode cL_mesh 954 = .ok (.iconst 5, 1) := by decide +kernel
theorem dL_mesh_955 : decode cL_mesh 955 = .ok (.invokevirtual 13, 3) := by decide +kernel
theorem dL_mesh_958 : decode cL_mesh 958 = .ok (.bipush 20, 2) := by decide +kernel
theorem dL_mesh_960 : decode cL_mesh 960 = .ok (.if_icmp .ne 55, 3) := by decide +kernel
theorem dL_mesh_963 : decode cL_mesh 963 = .ok (.aload_n 0, 1) := by decide +kernel
theorem dL_mesh_964 : decode cL_mesh 964 = .ok (.iconst 1, 1) := by decide +kernel
theorem dL_mesh_965 : decode cL_mesh 965 = .ok (.iconst 5, 1) := by decide +kernel
theorem dL_mesh_966 : decode cL_mesh 966 = .ok (.invokevirtual 19, 3) := by decide +kernel
theorem dL_mesh_969 : decode cL_mesh 969 = .ok (.ifCond .ne 46, 3) := by decide +kernel
theorem dL_mesh_972 : decode cL_mesh 972 = .ok (.aload_n 0, 1) := by decide +kernel
theorem dL_mesh_973 : decode cL_mesh 973 = .ok (.iconst 1, 1) := by decide +kernel
theorem dL_mesh_974 : decode cL_mesh 974 = .ok (.invokevirtual 69, 3) := by decide +kernel
theorem dL_mesh_977 : decode cL_mesh 977 = .ok (.iconst 2, 1) := by decide +kernel
theorem dL_mesh_978 : decode cL_mesh 978 = .ok (.if_icmp .ne 37, 3) := by decide +kernel
theorem dL_mesh_981 : decode cL_mesh 981 = .ok (.aload_n 0, 1) := by decide +kernel
theorem dL_mesh_982 : decode cL_mesh 982 = .ok (.bipush 24, 2) := by decide +kernel
theorem dL_mesh_984 : decode cL_mesh 984 = .ok (.bipush (-9), 2) := by decide +kernel
theorem dL_mesh_986 : decode cL_mesh 986 = .ok (.invokevirtual 31, 3) := by decide +kernel
theorem dL_mesh_989 : decode cL_mesh 989 = .ok (.iconst 2, 1) := by decide +kernel
theorem dL_mesh_990 : decode cL_mesh 990 = .ok (.if_icmp .ne 25, 3) := by decide +kernel
theorem dL_mesh_993 : decode cL_mesh 993 = .ok (.aload_n 0, 1) := by decide +kernel
theorem dL_mesh_994 : decode cL_mesh 994 = .ok (.iconst 1, 1) := by decide +kernel
theorem dL_mesh_995 : decode cL_mesh 995 = .ok (.invokevirtual 72, 3) := by decide +kernel
theorem dL_mesh_998 : decode cL_mesh 998 = .ok (.iconst 2, 1) := by decide +kernel
theorem dL_mesh_999 : decode cL_mesh 999 = .ok (.if_icmp .ne 16, 3) := by decide +kernel
theorem dL_mesh_1002 : decode cL_mesh 1002 = .ok (.aload_n 0, 1) := by decide +kernel
theorem dL_mesh_1003 : decode cL_mesh 1003 = .ok (.iconst 0, 1) := by decide +kernel
theorem dL_mesh_1004 : decode cL_mesh 1004 = .ok (.invokevirtual 13, 3) := by decide +kernel
theorem dL_mesh_1007 : decode cL_mesh 1007 = .ok (.iconst 2, 1) := by decide +kernel
theorem dL_mesh_1008 : decode cL_mesh 1008 = .ok (.if_icmp .ne 7, 3) := by decide +kernel
theorem dL_mesh_1011 : decode cL_mesh 1011 = .ok (.iconst 1, 1) := by decide +kernel
theorem dL_mesh_1012 : decode cL_mesh 1012 = .ok (.goto 4, 3) := by decide +kernel
theorem dL_mesh_1015 : decode cL_mesh 1015 = .ok (.iconst 0, 1) := by decide +kernel
theorem dL_mesh_1016 : decode cL_mesh 1016 = .ok (.ireturn, 1) := by decide +kernel
set_option maxRecDepth 20000 in
theorem ggL_limits_X6_init : GoodIn wsL_limits wsX6_init := goodIn_r _ [6, 7, 8, 9, 10, 11, 12, 13, 14, 15, 16, 17, 18, 19, 20, 21, 22, 23, 24, 25, 26, 27, 28, 29, 30, 31, 32, 33, 34, 35, 36, 37, 38, 39, 40, 41, 42, 43, 44, 45, 46, 47, 48, 49, 50, 51, 52, 53, 54, 55, 56, 57, 58, 59, 60, 61, 479, 473, 474, 475, 476, 477, 478, 480, 481, 482, 483, 484, 485, 486, 487, 488, 489, 490, 491, 492, 493, 494, 495] (by decide +kernel) (by decide +kernel)
set_option maxRecDepth 20000 in
theorem gL_limits_X6_init : GoodIn wsL_limits (wsX6_init) := ggL_limits_X6_init
set_option maxRecDepth 20000 in
theorem ggL_limits_X6_roller : GoodIn wsL_limits wsX6_roller := goodIn_r _ [65, 17, 13, 66, 67, 68, 16, 69, 43, 70, 71, 72, 73, 12, 74, 39, 75, 76, 77, 78, 79, 80, 81, 82, 83, 3, 84, 85, 86, 87, 88, 89, 90, 91, 92, 93, 94, 95, 96, 97, 98, 99, 100, 101, 102, 103, 104, 105, 106, 107, 108, 109, 110, 111, 112, 473, 474, 475, 476, 477, 478, 480, 481, 482, 479] (by decide +kernel) (by decide +kernel)
set_option maxRecDepth 20000 in
theorem gL_limits_X6_roller : GoodIn wsL_limits (wsV RL 31 RX6 yX6_roller wsX6_roller) := goodIn_app (goodIn_of _ (by decide +kernel)) ggL_limits_X6_roller
set_option maxRecDepth 20000 in
theorem ggL_limits_X6_pair : GoodIn wsL_limits wsX6_pair := goodIn_r _ [116, 33, 13, 117, 118, 119, 3, 120, 121, 122, 123, 124, 125, 126, 127, 12, 128, 85, 86, 87, 88, 39, 129, 83, 84, 130, 131, 132, 32, 133, 134, 110, 111, 112, 135, 61, 136, 137, 138, 139, 89, 90, 91, 140, 141, 142, 143, 144, 145, 146, 147, 148, 149, 150, 151, 152, 153, 154, 155, 156, 157, 158, 159, 160, 161, 162, 163, 164, 165, 166, 167, 168, 169, 170, 171, 172, 173, 174, 175, 176, 177, 178, 179, 180, 181, 182, 183, 184, 185, 186, 187, 473, 474, 475, 476, 477, 478, 479, 492, 493, 494, 495] (by decide +kernel) (by decide +kernel)
set_option maxRecDepth 20000 in
theorem gL_limits_X6_pair : GoodIn wsL_limits (wsV RL 52 RX6 yX6_pair wsX6_pair) := goodIn_app (goodIn_of _ (by decide +kernel)) ggL_limits_X6_pair
set_option maxRecDepth 20000 in
theorem ggL_limits_X6_leastGap : GoodIn wsL_limits wsX6_leastGap := goodIn_r _ [191, 121, 122, 123, 3, 124, 13, 125, 126, 127, 12, 128, 85, 86, 87, 88, 39, 129, 83, 84, 192, 193, 194, 195, 33, 196, 167, 111, 168, 130, 131, 132, 32, 133, 134, 110, 112, 135, 61, 136, 137, 138, 139, 89, 90, 91, 140, 141, 142, 143, 144, 145, 146, 147, 148, 149, 169, 170, 171, 172, 197, 198, 199, 200, 181, 182, 183, 184, 185, 186, 187, 158, 159, 160, 161, 154, 155, 156, 157, 473, 474, 475, 476, 477, 478, 479, 492, 493, 494, 495] (by decide +kernel) (by decide +kernel)
set_option maxRecDepth 20000 in
theorem gL_limits_X6_leastGap : GoodIn wsL_limits (wsV RL 59 RX6 yX6_leastGap wsX6_leastGap) := goodIn_app (goodIn_of _ (by decide +kernel)) ggL_limits_X6_leastGap
set_option maxRecDepth 20000 in
theorem ggL_limits_X6_thickest : GoodIn wsL_limits wsX6_thickest := goodIn_r _ [204, 33, 13, 121, 122, 123, 3, 124, 125, 126, 127, 12, 128, 85, 86, 87, 88, 39, 129, 83, 84, 130, 131, 132, 32, 133, 134, 110, 111, 112, 135, 61, 136, 137, 138, 139, 89, 90, 91, 140, 141, 142, 143, 144, 145, 146, 147, 148, 149, 169, 170, 171, 172, 173, 174, 175, 176, 177, 178, 179, 180, 158, 159, 160, 161, 181, 182, 183, 184, 185, 186, 187, 205, 206, 207, 208, 209, 210, 150, 151, 152, 153, 211, 212, 213, 214, 215, 166, 167, 168, 473, 474, 475, 476, 477, 478, 479, 492, 493, 494, 495] (by decide +kernel) (by decide +kernel)
set_option maxRecDepth 20000 in
theorem gL_limits_X6_thickest : GoodIn wsL_limits (wsV RL 65 RX6 yX6_thickest wsX6_thickest) := goodIn_app (goodIn_of _ (by decide +kernel)) ggL_limits_X6_thickest
set_option maxRecDepth 20000 in
theorem ggL_limits_X6_card : GoodIn wsL_limits wsX6_card := goodIn_r _ [219, 17, 13, 66, 67, 68, 16, 69, 43, 70, 71, 72, 73, 12, 74, 39, 75, 76, 77, 78, 220, 221, 222, 223, 83, 3, 84, 85, 86, 87, 88, 92, 93, 94, 95, 104, 105, 106, 107, 108, 109, 110, 111, 112, 473, 474, 475, 476, 477, 478, 480, 481, 482, 479] (by decide +kernel) (by decide +kernel)
set_option maxRecDepth 20000 in
theorem gL_limits_X6_card : GoodIn wsL_limits (wsV RL 41 RX6 yX6_card wsX6_card) := goodIn_app (goodIn_of _ (by decide +kernel)) ggL_limits_X6_card
set_option maxRecDepth 20000 in
theorem ggL_limits_X6_run : GoodIn wsL_limits wsX6_run := goodIn_r _ [227, 17, 13, 66, 67, 68, 16, 69, 43, 70, 71, 72, 73, 12, 74, 39, 75, 76, 77, 78, 228, 229, 230, 3, 231, 33, 121, 122, 123, 124, 125, 126, 127, 128, 85, 86, 87, 88, 129, 83, 84, 130, 131, 132, 32, 133, 134, 110, 111, 112, 135, 61, 136, 137, 138, 139, 89, 90, 91, 140, 141, 142, 143, 144, 145, 146, 147, 148, 149, 169, 170, 171, 172, 173, 174, 175, 176, 177, 178, 179, 180, 158, 159, 160, 161, 181, 182, 183, 184, 185, 186, 187, 205, 206, 207, 208, 209, 210, 211, 212, 213, 214, 215, 166, 167, 168, 232, 233, 234, 235, 236, 237, 238, 239, 100, 101, 102, 103, 92, 93, 94, 95, 240, 241, 242, 243, 244, 245, 246, 247, 248, 249, 250, 251, 252, 253, 254, 96, 97, 98, 99, 104, 105, 106, 107, 108, 109, 473, 474, 475, 476, 477, 478, 480, 481, 482, 479, 492, 493, 494, 495] (by decide +kernel) (by decide +kernel)
set_option maxRecDepth 20000 in
theorem gL_limits_X6_run : GoodIn wsL_limits (wsV RL 48 RX6 yX6_run wsX6_run) := goodIn_app (goodIn_of _ (by decide +kernel)) ggL_limits_X6_run
set_option maxRecDepth 20000 in
theorem ggL_limits_X6_count : GoodIn wsL_limits wsX6_count := goodIn_r _ [258, 25, 17, 13, 129, 83, 3, 84, 259, 260, 261, 24, 262, 263, 264, 265, 266, 16, 267, 108, 211, 86, 87, 12, 88, 39, 473, 474, 475, 476, 477, 478, 485, 486, 480, 481, 482, 479] (by decide +kernel) (by decide +kernel)
set_option maxRecDepth 20000 in
theorem gL_limits_X6_count : GoodIn wsL_limits (wsV RL 13 RX6 yX6_count wsX6_count) := goodIn_app (goodIn_of _ (by decide +kernel)) ggL_limits_X6_count
set_option maxRecDepth 20000 in
theorem ggL_limits_X6_of : GoodIn wsL_limits wsX6_of := goodIn_r _ [271, 13, 125, 126, 127, 12, 128, 85, 86, 87, 88, 39, 272, 137, 138, 139, 89, 90, 91, 273, 274, 275, 276, 249, 254, 144, 145, 146, 277, 278, 279, 280, 281, 167, 111, 168, 282, 283, 284, 285, 286, 110, 112, 287, 245, 246, 247, 288, 289, 290, 291, 473, 474, 475, 476, 477, 478, 479] (by decide +kernel) (by decide +kernel)
set_option maxRecDepth 20000 in
theorem gL_limits_X6_of : GoodIn wsL_limits (wsV RL 19 RX6 yX6_of wsX6_of) := goodIn_app (goodIn_of _ (by decide +kernel)) ggL_limits_X6_of
set_option maxRecDepth 20000 in
theorem ggL_limits_X6_tooth : GoodIn wsL_limits wsX6_tooth := goodIn_r _ [295, 13, 296, 297, 298, 12, 299, 300, 126, 127, 128, 85, 86, 87, 88, 39, 249, 137, 138, 139, 89, 90, 91, 301, 144, 145, 146, 473, 474, 475, 476, 477, 478, 479] (by decide +kernel) (by decide +kernel)
set_option maxRecDepth 20000 in
theorem gL_limits_X6_tooth : GoodIn wsL_limits (wsV RL 23 RX6 yX6_tooth wsX6_tooth) := goodIn_app (goodIn_of _ (by decide +kernel)) ggL_limits_X6_tooth
