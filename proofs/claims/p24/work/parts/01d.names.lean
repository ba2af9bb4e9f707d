theorem dX6_questionError_3 : decode cX6_questionError 3 = .ok (.iload_n 3, 1) := by decide +kernel
theorem dX6_questionError_4 : decode cX6_questionError 4 = .ok (.iload 4, 2) := by decide +kernel
theorem dX6_questionError_6 : decode cX6_questionError 6 = .ok (.invokevirtual 82, 3) := by decide +kernel
theorem dX6_questionError_9 : decode cX6_questionError 9 = .ok (.istore 7, 2) := by decide +kernel
theorem dX6_questionError_11 : decode cX6_questionError 11 = .ok (.iload 7, 2) := by decide +kernel
theorem dX6_questionError_13 : decode cX6_questionError 13 = .ok (.ifCond .eq 6, 3) := by decide +kernel
theorem dX6_questionError_16 : decode cX6_questionError 16 = .ok (.iload 7, 2) := by decide +kernel
theorem dX6_questionError_18 : decode cX6_questionError 18 = .ok (.ireturn, 1) := by decide +kernel
theorem dX6_questionError_19 : decode cX6_questionError 19 = .ok (.iload 5, 2) := by decide +kernel
theorem dX6_questionError_21 : decode cX6_questionError 21 = .ok (.iconst 0, 1) := by decide +kernel
theorem dX6_questionError_22 : decode cX6_questionError 22 = .ok (.iload 6, 2) := by decide +kernel
theorem dX6_questionError_24 : decode cX6_questionError 24 = .ok (.invokestatic 86, 3) := by decide +kernel
theorem dX6_questionError_27 : decode cX6_questionError 27 = .ok (.ifCond .eq 8, 3) := by decide +kernel
theorem dX6_questionError_30 : decode cX6_questionError 30 = .ok (.bipush (-2), 2) := by decide +kernel
theorem dX6_questionError_32 : decode cX6_questionError 32 = .ok (.goto 4, 3) := by decide +kernel
theorem dX6_questionError_35 : decode cX6_questionError 35 = .ok (.iconst 0, 1) := by decide +kernel
theorem dX6_questionError_36 : decode cX6_questionError 36 = .ok (.ireturn, 1) := by decide +kernel
set_option maxRecDepth 20000 in
theorem ggX6_pairError_X3_has : GoodIn wsX6_pairError wsX3_has := goodIn_r _ [6, 7, 8, 9, 5, 10, 11, 22] (by decide +kernel) (by decide +kernel)
set_option maxRecDepth 20000 in
theorem gX6_pairError_X3_has : GoodIn wsX6_pairError (wsV RX6 123 RX3 yX3_has wsX3_has) := goodIn_app (goodIn_of _ (by decide +kernel)) ggX6_pairError_X3_has
set_option maxRecDepth 20000 in
theorem ggX6_pairError_X6_outside : GoodIn wsX6_pairError wsX6_outside := goodIn_r _ [15] (by decide +kernel) (by decide +kernel)
set_option maxRecDepth 20000 in
theorem gX6_pairError_X6_outside : GoodIn wsX6_pairError (va_wsS RX6 86 yX6_outside wsX6_outside) := goodIn_app (goodIn_of _ (by decide +kernel)) ggX6_pairError_X6_outside
theorem dX6_pairError_0 : decode cX6_pairError 0 = .ok (.aload_n 0, 1) := by decide +kernel
theorem dX6_pairError_1 : decode cX6_pairError 1 = .ok (.getfield 10, 3) := by decide +kernel
theorem dX6_pairError_4 : decode cX6_pairError 4 = .ok (.iload_n 1, 1) := by decide +kernel
theorem dX6_pairError_5 : decode cX6_pairError 5 = .ok (.invokevirtual 123, 3) := by decide +kernel
theorem dX6_pairError_8 : decode cX6_pairError 8 = .ok (.ifCond .eq 14, 3) := by decide +kernel
theorem dX6_pairError_11 : decode cX6_pairError 11 = .ok (.aload_n 0, 1) := by decide +kernel
theorem dX6_pairError_12 : decode cX6_pairError 12 = .ok (.getfield 10, 3) := by decide +kernel
theorem dX6_pairError_15 : decode cX6_pairError 15 = .ok (.iload_n 2, 1) := by decide +kernel
theorem dX6_pairError_16 : decode cX6_pairError 16 = .ok (.invokevirtual 123, 3) := by decide +kernel
theorem dX6_pairError_19 : decode cX6_pairError 19 = .ok (.ifCond .ne 5, 3) := by decide +kernel
theorem dX6_pairError_22 : decode cX6_pairError 22 = .ok (.iconst (-1), 1) := by decide +kernel
theorem dX6_pairError_23 : decode cX6_pairError 23 = .ok (.ireturn, 1) := by decide +kernel
theorem dX6_pairError_24 : decode cX6_pairError 24 = .ok (.iload_n 1, 1) := by decide +kernel
theorem dX6_pairError_25 : decode cX6_pairError 25 = .ok (.iload_n 2, 1) := by decide +kernel
theorem dX6_pairError_26 : decode cX6_pairError 26 = .ok (.if_icmp .eq 24, 3) := by decide +kernel
theorem dX6_pairError_29 : decode cX6_pairError 29 = .ok (.iload_n 3, 1) := by decide +kernel
theorem dX6_pairError_30 : decode cX6_pairError 30 = .ok (.iconst 0, 1) := by decide +kernel
theorem dX6_pairError_31 : decode cX6_pairError 31 = .ok (.bipush 23, 2) := by decide +kernel
theorem dX6_pairError_33 : decode cX6_pairError 33 = .ok (.invokestatic 86, 3) := by decide +kernel
theorem dX6_pairError_36 : decode cX6_pairError 36 = .ok (.ifCond .ne 14, 3) := by decide +kernel
theorem dX6_pairError_39 : decode cX6_pairError 39 = .ok (.iload 4, 2) := by decide +kernel
theorem dX6_pairError_41 : decode cX6_pairError 41 = .ok (.iconst 0, 1) := by decide +kernel
theorem dX6_pairError_42 : decode cX6_pairError 42 = .ok (.bipush 30, 2) := by decide +kernel
theorem dX6_pairError_44 : decode cX6_pairError 44 = .ok (.invokestatic 86, 3) := by decide +kernel
theorem dX6_pairError_47 : decode cX6_pairError 47 = .ok (.ifCond .eq 7, 3) := by decide +kernel
theorem dX6_pairError_50 : decode cX6_pairError 50 = .ok (.iconst 1, 1) := by decide +kernel
theorem dX6_pairError_51 : decode cX6_pairError 51 = .ok (.goto 4, 3) := by decide +kernel
theorem dX6_pairError_54 : decode cX6_pairError 54 = .ok (.iconst 0, 1) := by decide +kernel
theorem dX6_pairError_55 : decode cX6_pairError 55 = .ok (.istore 5, 2) := by decide +kernel
theorem dX6_pairError_57 : decode cX6_pairError 57 = .ok (.iload 5, 2) := by decide +kernel
theorem dX6_pairError_59 : decode cX6_pairError 59 = .ok (.ifCond .eq 8, 3) := by decide +kernel
theorem dX6_pairError_62 : decode cX6_pairError 62 = .ok (.bipush (-2), 2) := by decide +kernel
theorem dX6_pairError_64 : decode cX6_pairError 64 = .ok (.goto 4, 3) := by decide +kernel
theorem dX6_pairError_67 : decode cX6_pairError 67 = .ok (.iconst 0, 1) := by decide +kernel
theorem dX6_pairError_68 : decode cX6_pairError 68 = .ok (.ireturn, 1) := by decide +kernel
theorem dX6_outside_0 : decode cX6_outside 0 = .ok (.iload_n 0, 1) := by decide +kernel
theorem dX6_outside_1 : decode cX6_outside 1 = .ok (.iload_n 1, 1) := by decide +kernel
theorem dX6_outside_2 : decode cX6_outside 2 = .ok (.if_icmp .lt 8, 3) := by decide +kernel
theorem dX6_outside_5 : decode cX6_outside 5 = .ok (.iload_n 0, 1) := by decide +kernel
theorem dX6_outside_6 : decode cX6_outside 6 = .ok (.iload_n 2, 1) := by decide +kernel
theorem dX6_outside_7 : decode cX6_outside 7 = .ok (.if_icmp .le 7, 3) := by decide +kernel
theorem dX6_outside_10 : decode cX6_outside 10 = .ok (.iconst 1, 1) := by decide +kernel
theorem dX6_outside_11 : decode cX6_outside 11 = .ok (.goto 4, 3) := by decide +kernel
theorem dX6_outside_14 : decode cX6_outside 14 = .ok (.iconst 0, 1) := by decide +kernel
theorem dX6_outside_15 : decode cX6_outside 15 = .ok (.ireturn, 1) := by decide +kernel
set_option maxRecDepth 20000 in
theorem ggX6_put_X1_append : GoodIn wsX6_put wsX1_append := goodIn_r _ [6, 7, 8, 9, 5, 10, 11, 12, 13, 14, 15, 16, 17, 18, 19, 20, 21, 28, 29] (by decide +kernel) (by decide +kernel)
set_option maxRecDepth 20000 in
theorem gX6_put_X1_append : GoodIn wsX6_put (wsV RX6 185 RX1 yX1_append wsX1_append) := goodIn_app (goodIn_of _ (by decide +kernel)) ggX6_put_X1_append
theorem dX6_put_0 : decode cX6_put 0 = .ok (.aload_n 0, 1) := by decide +kernel
theorem dX6_put_1 : decode cX6_put 1 = .ok (.getfield 33, 3) := by decide +kernel
theorem dX6_put_4 : decode cX6_put 4 = .ok (.lload_n 1, 1) := by decide +kernel
theorem dX6_put_5 : decode cX6_put 5 = .ok (.invokevirtual 185, 3) := by decide +kernel
theorem dX6_put_8 : decode cX6_put 8 = .ok (.ireturn, 1) := by decide +kernel
set_option maxRecDepth 20000 in
theorem ggX6_wipe_X1_clear : GoodIn wsX6_wipe wsX1_clear := goodIn_r _ [6, 7, 14, 15] (by decide +kernel) (by decide +kernel)
set_option maxRecDepth 20000 in
theorem gX6_wipe_X1_clear : GoodIn wsX6_wipe (wsV RX6 189 RX1 yX1_clear wsX1_clear) := goodIn_app (goodIn_of _ (by decide +kernel)) ggX6_wipe_X1_clear
theorem dX6_wipe_0 : decode cX6_wipe 0 = .ok (.aload_n 0, 1) := by decide +kernel
theorem dX6_wipe_1 : decode cX6_wipe 1 = .ok (.getfield 33, 3) := by decide +kernel
theorem dX6_wipe_4 : decode cX6_wipe 4 = .ok (.invokevirtual 189, 3) := by decide +kernel
theorem dX6_wipe_7 : decode cX6_wipe 7 = .ok (.ireturn, 1) := by decide +kernel
set_option maxRecDepth 20000 in
theorem ggX6_fault_X2_firstFault : GoodIn wsX6_fault wsX2_firstFault := goodIn_r _ [6, 7, 8, 9, 10, 11, 5, 12, 13, 14, 15, 16, 17, 18, 19, 20, 21, 22, 23, 24, 25, 26, 27, 28, 29, 30, 31, 32, 33, 34, 35, 36, 37, 38, 39, 40, 41, 42, 43, 44, 45, 46, 47, 48, 49, 50, 51, 52, 53, 54, 55, 56, 57, 58, 59, 60, 61, 68, 69, 70, 71, 72, 73, 74] (by decide +kernel) (by decide +kernel)
set_option maxRecDepth 20000 in
theorem gX6_fault_X2_firstFault : GoodIn wsX6_fault (wsV RX6 192 RX2 yX2_firstFault wsX2_firstFault) := goodIn_app (goodIn_of _ (by decide +kernel)) ggX6_fault_X2_firstFault
theorem dX6_fault_0 : decode cX6_fault 0 = .ok (.aload_n 0, 1) := by decide +kernel
theorem dX6_fault_1 : decode cX6_fault 1 = .ok (.getfield 42, 3) := by decide +kernel
theorem dX6_fault_4 : decode cX6_fault 4 = .ok (.invokevirtual 192, 3) := by decide +kernel
theorem dX6_fault_7 : decode cX6_fault 7 = .ok (.ireturn, 1) := by decide +kernel
set_option maxRecDepth 20000 in
theorem ggX6_carryOut_X2_firstFault : GoodIn wsX6_carryOut wsX2_firstFault := goodIn_r _ [9, 10, 11, 12, 13, 14, 8, 15, 16, 17, 18, 19, 20, 21, 22, 23, 24, 25, 26, 27, 28, 29, 30, 31, 32, 33, 34, 35, 36, 37, 38, 39, 40, 41, 42, 43, 44, 45, 46, 47, 48, 49, 50, 51, 52, 53, 54, 55, 56, 57, 58, 59, 60, 61, 62, 63, 64, 256, 257, 258, 259, 260, 261, 262] (by decide +kernel) (by decide +kernel)
set_option maxRecDepth 20000 in
theorem gX6_carryOut_X2_firstFault : GoodIn wsX6_carryOut (wsV RX6 192 RX2 yX2_firstFault wsX2_firstFault) := goodIn_app (goodIn_of _ (by decide +kernel)) ggX6_carryOut_X2_firstFault
set_option maxRecDepth 20000 in
theorem ggX6_carryOut_X0_prepare : GoodIn wsX6_carryOut wsX0_prepare := goodIn_r _ [69, 70, 71, 72, 73, 74, 75, 76, 77, 78, 79, 80, 81, 263, 264, 265, 266] (by decide +kernel) (by decide +kernel)
set_option maxRecDepth 20000 in
theorem gX6_carryOut_X0_prepare : GoodIn wsX6_carryOut (wsV RX6 53 RX0 yX0_prepare wsX0_prepare) := goodIn_app (goodIn_of _ (by decide +kernel)) ggX6_carryOut_X0_prepare
set_option maxRecDepth 20000 in
theorem ggX6_carryOut_X2_begin : GoodIn wsX6_carryOut wsX2_begin := goodIn_r _ [15, 10, 256, 257, 258, 259, 260] (by decide +kernel) (by decide +kernel)
set_option maxRecDepth 20000 in
theorem gX6_carryOut_X2_begin : GoodIn wsX6_carryOut (wsV RX6 195 RX2 yX2_begin wsX2_begin) := goodIn_app (goodIn_of _ (by decide +kernel)) ggX6_carryOut_X2_begin
set_option maxRecDepth 20000 in
theorem ggX6_carryOut_X2_readOrder : GoodIn wsX6_carryOut wsX2_readOrder := goodIn_r _ [19, 20, 11, 10, 21, 22, 23, 24, 25, 26, 27, 28, 29, 30, 31, 8, 32, 33, 34, 35, 36, 37, 38, 39, 40, 41, 42, 43, 44, 45, 46, 47, 48, 49, 50, 51, 52, 53, 54, 55, 56, 57, 58, 59, 60, 256, 257, 258, 259, 260, 261, 262] (by decide +kernel) (by decide +kernel)
set_option maxRecDepth 20000 in
theorem gX6_carryOut_X2_readOrder : GoodIn wsX6_carryOut (wsV RX6 196 RX2 yX2_readOrder wsX2_readOrder) := goodIn_app (goodIn_of _ (by decide +kernel)) ggX6_carryOut_X2_readOrder
set_option maxRecDepth 20000 in
theorem ggX6_carryOut_X6_obey : GoodIn wsX6_carryOut wsX6_obey := goodIn_r _ [87, 1, 3, 88, 89, 90, 8, 91, 21, 92, 93, 94, 46, 95, 96, 97, 98, 99, 20, 100, 101, 102, 75, 103, 45, 47, 104, 105, 106, 107, 77, 108, 109, 110, 111, 112, 113, 114, 115, 116, 117, 118, 119, 120, 121, 122, 123, 124, 125, 126, 56, 127, 128, 129, 130, 131, 132, 133, 134, 135, 136, 137, 138, 139, 140, 141, 142, 143, 144, 145, 146, 147, 148, 149, 150, 151, 152, 153, 154, 155, 156, 157, 158, 159, 160, 161, 162, 163, 164, 165, 166, 167, 168, 169, 170, 171, 172, 173, 174, 175, 176, 177, 178, 179, 180, 181, 182, 183, 184, 185, 186, 187, 188, 189, 190, 191, 192, 193, 194, 195, 196, 197, 198, 199, 200, 201, 202, 203, 204, 205, 206, 207, 208, 209, 210, 211, 212, 213, 214, 215, 216, 217, 218, 219, 220, 221, 222, 223, 224, 225, 226, 227, 228, 229, 230, 231, 232, 233, 234, 235, 236, 237, 238, 250, 251, 252, 253, 254, 255, 256, 257, 258, 259, 260, 266, 267, 268, 269, 270] (by decide +kernel) (by decide +kernel)
set_option maxRecDepth 20000 in
theorem gX6_carryOut_X6_obey : GoodIn wsX6_carryOut (wsV RX6 200 RX6 yX6_obey wsX6_obey) := goodIn_app (goodIn_of _ (by decide +kernel)) ggX6_carryOut_X6_obey
set_option maxRecDepth 20000 in
theorem ggX6_carryOut_X2_skip : GoodIn wsX6_carryOut wsX2_skip := goodIn_r _ [32, 11, 10, 22, 23, 24, 25, 26, 27, 28, 256, 257, 258, 259, 260, 261, 262] (by decide +kernel) (by decide +kernel)
set_option maxRecDepth 20000 in
theorem gX6_carryOut_X2_skip : GoodIn wsX6_carryOut (wsV RX6 203 RX2 yX2_skip wsX2_skip) := goodIn_app (goodIn_of _ (by decide +kernel)) ggX6_carryOut_X2_skip
set_option maxRecDepth 20000 in
theorem ggX6_carryOut_X1_clear : GoodIn wsX6_carryOut wsX1_clear := goodIn_r _ [243, 27, 261, 262] (by decide +kernel) (by decide +kernel)
set_option maxRecDepth 20000 in
theorem gX6_carryOut_X1_clear : GoodIn wsX6_carryOut (wsV RX6 189 RX1 yX1_clear wsX1_clear) := goodIn_app (goodIn_of _ (by decide +kernel)) ggX6_carryOut_X1_clear
set_option maxRecDepth 20000 in
theorem ggX6_carryOut_X0_recorded : GoodIn wsX6_carryOut wsX0_recorded := goodIn_r _ [247, 71, 248, 249, 164, 165, 166, 263, 264, 265] (by decide +kernel) (by decide +kernel)
set_option maxRecDepth 20000 in
theorem gX6_carryOut_X0_recorded : GoodIn wsX6_carryOut (wsV RX6 61 RX0 yX0_recorded wsX0_recorded) := goodIn_app (goodIn_of _ (by decide +kernel)) ggX6_carryOut_X0_recorded
theorem dX6_carryOut_0 : decode cX6_carryOut 0 = .ok (.aload_n 0, 1) := by decide +kernel
theorem dX6_carryOut_1 : decode cX6_carryOut 1 = .ok (.getfield 42, 3) := by decide +kernel
theorem dX6_carryOut_4 : decode cX6_carryOut 4 = .ok (.invokevirtual 192, 3) := by decide +kernel
theorem dX6_carryOut_7 : decode cX6_carryOut 7 = .ok (.bipush (-6), 2) := by decide +kernel
theorem dX6_carryOut_9 : decode cX6_carryOut 9 = .ok (.if_icmp .eq 6, 3) := by decide +kernel
theorem dX6_carryOut_12 : decode cX6_carryOut 12 = .ok (.bipush (-3), 2) := by decide +kernel
theorem dX6_carryOut_14 : decode cX6_carryOut 14 = .ok (.ireturn, 1) := by decide +kernel
theorem dX6_carryOut_15 : decode cX6_carryOut 15 = .ok (.aload_n 0, 1) := by decide +kernel
theorem dX6_carryOut_16 : decode cX6_carryOut 16 = .ok (.getfield 19, 3) := by decide +kernel
theorem dX6_carryOut_19 : decode cX6_carryOut 19 = .ok (.aload_n 0, 1) := by decide +kernel
theorem dX6_carryOut_20 : decode cX6_carryOut 20 = .ok (.getfield 10, 3) := by decide +kernel
theorem dX6_carryOut_23 : decode cX6_carryOut 23 = .ok (.invokevirtual 53, 3) := by decide +kernel
theorem dX6_carryOut_26 : decode cX6_carryOut 26 = .ok (.aload_n 0, 1) := by decide +kernel
theorem dX6_carryOut_27 : decode cX6_carryOut 27 = .ok (.getfield 42, 3) := by decide +kernel
theorem dX6_carryOut_30 : decode cX6_carryOut 30 = .ok (.invokevirtual 195, 3) := by decide +kernel
theorem dX6_carryOut_33 : decode cX6_carryOut 33 = .ok (.iconst 0, 1) := by decide +kernel
theorem dX6_carryOut_34 : decode cX6_carryOut 34 = .ok (.istore_n 1, 1) := by decide +kernel
theorem dX6_carryOut_35 : decode cX6_carryOut 35 = .ok (.iload_n 1, 1) := by decide +kernel
theorem dX6_carryOut_36 : decode cX6_carryOut 36 = .ok (.bipush 80, 2) := by decide +kernel
theorem dX6_carryOut_38 : decode cX6_carryOut 38 = .ok (.if_icmp .ge 36, 3) := by decide +kernel
theorem dX6_carryOut_41 : decode cX6_carryOut 41 = .ok (.aload_n 0, 1) := by decide +kernel
theorem dX6_carryOut_42 : decode cX6_carryOut 42 = .ok (.getfield 42, 3) := by decide +kernel
theorem dX6_carryOut_45 : decode cX6_carryOut 45 = .ok (.invokevirtual 196, 3) := by decide +kernel
theorem dX6_carryOut_48 : decode cX6_carryOut 48 = .ok (.ifCond .eq 26, 3) := by decide +kernel
theorem dX6_carryOut_51 : decode cX6_carryOut 51 = .ok (.aload_n 0, 1) := by decide +kernel
theorem dX6_carryOut_52 : decode cX6_carryOut 52 = .ok (.invokevirtual 200, 3) := by decide +kernel
theorem dX6_carryOut_55 : decode cX6_carryOut 55 = .ok (.ifCond .lt 19, 3) := by decide +kernel
theorem dX6_carryOut_58 : decode cX6_carryOut 58 = .ok (.iinc 1 1, 3) := by decide +kernel
theorem dX6_carryOut_61 : decode cX6_carryOut 61 = .ok (.aload_n 0, 1) := by decide +kernel
theorem dX6_carryOut_62 : decode cX6_carryOut 62 = .ok (.getfield 42, 3) := by decide +kernel
theorem dX6_carryOut_65 : decode cX6_carryOut 65 = .ok (.bipush 59, 2) := by decide +kernel
theorem dX6_carryOut_67 : decode cX6_carryOut 67 = .ok (.invokevirtual 203, 3) := by decide +kernel
theorem dX6_carryOut_70 : decode cX6_carryOut 70 = .ok (.pop, 1) := by decide +kernel
theorem dX6_carryOut_71 : decode cX6_carryOut 71 = .ok (.goto (-36), 3) := by decide +kernel
theorem dX6_carryOut_74 : decode cX6_carryOut 74 = .ok (.aload_n 0, 1) := by decide +kernel
theorem dX6_carryOut_75 : decode cX6_carryOut 75 = .ok (.getfield 33, 3) := by decide +kernel
theorem dX6_carryOut_78 : decode cX6_carryOut 78 = .ok (.invokevirtual 189, 3) := by decide +kernel
theorem dX6_carryOut_81 : decode cX6_carryOut 81 = .ok (.pop, 1) := by decide +kernel
theorem dX6_carryOut_82 : decode cX6_carryOut 82 = .ok (.aload_n 0, 1) := by decide +kernel
theorem dX6_carryOut_83 : decode cX6_carryOut 83 = .ok (.getfield 19, 3) := by decide +kernel
theorem dX6_carryOut_86 : decode cX6_carryOut 86 = .ok (.iload_n 1, 1) := by decide +kernel
theorem dX6_carryOut_87 : decode cX6_carryOut 87 = .ok (.invokevirtual 61, 3) := by decide +kernel
theorem dX6_carryOut_90 : decode cX6_carryOut 90 = .ok (.ireturn, 1) := by decide +kernel
set_option maxRecDepth 20000 in
theorem ggX6_obey_X2_kind : GoodIn wsX6_obey wsX2_kind := goodIn_r _ [7, 8, 169, 170, 171, 172, 173] (by decide +kernel) (by decide +kernel)
set_option maxRecDepth 20000 in
theorem gX6_obey_X2_kind : GoodIn wsX6_obey (wsV RX6 207 RX2 yX2_kind wsX2_kind) := goodIn_app (goodIn_of _ (by decide +kernel)) ggX6_obey_X2_kind
set_option maxRecDepth 20000 in
theorem ggX6_obey_X6_addRollerOfText : GoodIn wsX6_obey wsX6_addRollerOfText := goodIn_r _ [13, 1, 2, 14, 15, 16, 6, 17, 18, 19, 20, 21, 22, 23, 24, 12, 25, 26, 27, 28, 29, 30, 31, 32, 33, 34, 35, 36, 37, 38, 39, 40, 41, 42, 43, 44, 45, 46, 47, 48, 49, 50, 51, 52, 53, 54, 55, 56, 57, 58, 59, 60, 61, 62, 63, 64, 65, 66, 67, 68, 69, 70, 163, 164, 165, 166, 167, 168, 169, 170, 171, 172, 173, 174] (by decide +kernel) (by decide +kernel)
set_option maxRecDepth 20000 in
theorem gX6_obey_X6_addRollerOfText : GoodIn wsX6_obey (wsV RX6 210 RX6 yX6_addRollerOfText wsX6_addRollerOfText) := goodIn_app (goodIn_of _ (by decide +kernel)) ggX6_obey_X6_addRollerOfText
set_option maxRecDepth 20000 in
theorem ggX6_obey_X2_number : GoodIn wsX6_obey wsX2_number := goodIn_r _ [49, 50, 169, 170, 171, 172, 173] (by decide +kernel) (by decide +kernel)
set_option maxRecDepth 20000 in
theorem gX6_obey_X2_number : GoodIn wsX6_obey (wsV RX6 213 RX2 yX2_number wsX2_number) := goodIn_app (goodIn_of _ (by decide +kernel)) ggX6_obey_X2_number
set_option maxRecDepth 20000 in
theorem ggX6_obey_X6_runCards : GoodIn wsX6_obey wsX6_runCards := goodIn_r _ [74, 75, 2, 76, 77, 78, 12, 79, 80, 60, 61, 22, 62, 26, 27, 28, 29, 30, 81, 24, 25, 82, 83, 84, 85, 86, 87, 88, 89, 90, 91, 92, 93, 64, 65, 66, 31, 32, 33, 94, 95, 96, 97, 68, 69, 70, 98, 99, 100, 101, 102, 103, 104, 105, 106, 107, 108, 109, 110, 111, 112, 113, 114, 115, 116, 117, 118, 119, 120, 121, 122, 123, 124, 125, 126, 127, 128, 129, 130, 131, 132, 133, 134, 135, 136, 137, 138, 139, 140, 141, 142, 143, 144, 145, 42, 43, 44, 45, 34, 35, 36, 37, 146, 147, 148, 149, 150, 151, 152, 153, 154, 63, 155, 156, 157, 158, 67, 38, 39, 40, 41, 163, 164, 165, 166, 167, 168, 174, 175, 176, 177, 178] (by decide +kernel) (by decide +kernel)
set_option maxRecDepth 20000 in
theorem gX6_obey_X6_runCards : GoodIn wsX6_obey (wsV RX6 78 RX6 yX6_runCards wsX6_runCards) := goodIn_app (goodIn_of _ (by decide +kernel)) ggX6_obey_X6_runCards
set_option maxRecDepth 20000 in
theorem ggX6_obey_X3_meltRoller : GoodIn wsX6_obey wsX3_meltRoller := goodIn_r _ [162, 59, 60, 61, 22, 62, 26, 27, 28, 29, 30, 31, 32, 33, 34, 35, 36, 37, 174] (by decide +kernel) (by decide +kernel)
set_option maxRecDepth 20000 in
theorem gX6_obey_X3_meltRoller : GoodIn wsX6_obey (wsV RX6 72 RX3 yX3_meltRoller wsX3_meltRoller) := goodIn_app (goodIn_of _ (by decide +kernel)) ggX6_obey_X3_meltRoller
set_option maxRecDepth 20000 in
theorem ggX6_obey_X3_fileTooth : GoodIn wsX6_obey wsX3_fileTooth := goodIn_r _ [54, 55, 56, 57, 22, 58, 59, 60, 61, 62, 26, 27, 28, 29, 30, 63, 64, 65, 66, 31, 32, 33, 24, 12, 25, 67, 68, 69, 70, 38, 39, 40, 41, 34, 35, 36, 37, 174] (by decide +kernel) (by decide +kernel)
set_option maxRecDepth 20000 in
theorem gX6_obey_X3_fileTooth : GoodIn wsX6_obey (wsV RX6 68 RX3 yX3_fileTooth wsX3_fileTooth) := goodIn_app (goodIn_of _ (by decide +kernel)) ggX6_obey_X3_fileTooth
theorem dX6_obey_0 : decode cX6_obey 0 = .ok (.aload_n 0, 1) := by decide +kernel
theorem dX6_obey_1 : decode cX6_obey 1 = .ok (.getfield 42, 3) := by decide +kernel
theorem dX6_obey_4 : decode cX6_obey 4 = .ok (.invokevirtual 207, 3) := by decide +kernel
theorem dX6_obey_7 : decode cX6_obey 7 = .ok (.lookupswitch 147 #[(43, 41), (102, 115), (109, 99), (114, 46)], 41) := by decide +kernel
theorem dX6_obey_48 : decode cX6_obey 48 = .ok (.aload_n 0, 1) := by decide +kernel
theorem dX6_obey_49 : decode cX6_obey 49 = .ok (.invokevirtual 210, 3) := by decide +kernel
theorem dX6_obey_52 : decode cX6_obey 52 = .ok (.ireturn, 1) := by decide +kernel
theorem dX6_obey_53 : decode cX6_obey 53 = .ok (.aload_n 0, 1) := by decide +kernel
theorem dX6_obey_54 : decode cX6_obey 54 = .ok (.aload_n 0, 1) := by decide +kernel
theorem dX6_obey_55 : decode cX6_obey 55 = .ok (.getfield 42, 3) := by decide +kernel
theorem dX6_obey_58 : decode cX6_obey 58 = .ok (.iconst 0, 1) := by decide +kernel
theorem dX6_obey_59 : decode cX6_obey 59 = .ok (.invokevirtual 213, 3) := by decide +kernel
theorem dX6_obey_62 : decode cX6_obey 62 = .ok (.aload_n 0, 1) := by decide +kernel
theorem dX6_obey_63 : decode cX6_obey 63 = .ok (.getfield 42, 3) := by decide +kernel
theorem dX6_obey_66 : decode cX6_obey 66 = .ok (.iconst 1, 1) := by decide +kernel
theorem dX6_obey_67 : decode cX6_obey 67 = .ok (.invokevirtual 213, 3) := by decide +kernel
theorem dX6_obey_70 : decode cX6_obey 70 = .ok (.aload_n 0, 1) := by decide +kernel
theorem dX6_obey_71 : decode cX6_obey 71 = .ok (.getfield 42, 3) := by decide +kernel
theorem dX6_obey_74 : decode cX6_obey 74 = .ok (.iconst 2, 1) := by decide +kernel
theorem dX6_obey_75 : decode cX6_obey 75 = .ok (.invokevirtual 213, 3) := by decide +kernel
theorem dX6_obey_78 : decode cX6_obey 78 = .ok (.aload_n 0, 1) := by decide +kernel
theorem dX6_obey_79 : decode cX6_obey 79 = .ok (.getfield 42, 3) := by decide +kernel
theorem dX6_obey_82 : decode cX6_obey 82 = .ok (.iconst 3, 1) := by decide +kernel
theorem dX6_obey_83 : decode cX6_obey 83 = .ok (.invokevirtual 213, 3) := by decide +kernel
theorem dX6_obey_86 : decode cX6_obey 86 = .ok (.aload_n 0, 1) := by decide +kernel
theorem dX6_obey_87 : decode cX6_obey 87 = .ok (.getfield 42, 3) := by decide +kernel
theorem dX6_obey_90 : decode cX6_obey 90 = .ok (.iconst 4, 1) := by decide +kernel
theorem dX6_obey_91 : decode cX6_obey 91 = .ok (.invokevirtual 213, 3) := by decide +kernel
theorem dX6_obey_94 : decode cX6_obey 94 = .ok (.aload_n 0, 1) := by decide +kernel
theorem dX6_obey_95 : decode cX6_obey 95 = .ok (.getfield 42, 3) := by decide +kernel
theorem dX6_obey_98 : decode cX6_obey 98 = .ok (.iconst 5, 1) := by decide +kernel
theorem dX6_obey_99 : decode cX6_obey 99 = .ok (.invokevirtual 213, 3) := by decide +kernel
theorem dX6_obey_102 : decode cX6_obey 102 = .ok (.invokevirtual 78, 3) := by decide +kernel
theorem dX6_obey_105 : decode cX6_obey 105 = .ok (.ireturn, 1) := by decide +kernel
theorem dX6_obey_106 : decode cX6_obey 106 = .ok (.aload_n 0, 1) := by decide +kernel
theorem dX6_obey_107 : decode cX6_obey 107 = .ok (.getfield 10, 3) := by decide +kernel
theorem dX6_obey_110 : decode cX6_obey 110 = .ok (.aload_n 0, 1) := by decide +kernel
theorem dX6_obey_111 : decode cX6_obey 111 = .ok (.getfield 42, 3) := by decide +kernel
theorem dX6_obey_114 : decode cX6_obey 114 = .ok (.iconst 0, 1) := by decide +kernel
theorem dX6_obey_115 : decode cX6_obey 115 = .ok (.invokevirtual 213, 3) := by decide +kernel
theorem dX6_obey_118 : decode cX6_obey 118 = .ok (.invokevirtual 72, 3) := by decide +kernel
theorem dX6_obey_121 : decode cX6_obey 121 = .ok (.ireturn, 1) := by decide +kernel
theorem dX6_obey_122 : decode cX6_obey 122 = .ok (.aload_n 0, 1) := by decide +kernel
theorem dX6_obey_123 : decode cX6_obey 123 = .ok (.getfield 10, 3) := by decide +kernel
theorem dX6_obey_126 : decode cX6_obey 126 = .ok (.aload_n 0, 1) := by decide +kernel
theorem dX6_obey_127 : decode cX6_obey 127 = .ok (.getfield 42, 3) := by decide +kernel
theorem dX6_obey_130 : decode cX6_obey 130 = .ok (.iconst 0, 1) := by decide +kernel
theorem dX6_obey_131 : decode cX6_obey 131 = .ok (.invokevirtual 213, 3) := by decide +kernel
theorem dX6_obey_134 : decode cX6_obey 134 = .ok (.aload_n 0, 1) := by decide +kernel
theorem dX6_obey_135 : decode cX6_obey 135 = .ok (.getfield 42, 3) := by decide +kernel
theorem dX6_obey_138 : decode cX6_obey 138 = .ok (.iconst 1, 1) := by decide +kernel
theorem dX6_obey_139 : decode cX6_obey 139 = .ok (.invokevirtual 213, 3) := by decide +kernel
theorem dX6_obey_142 : decode cX6_obey 142 = .ok (.aload_n 0, 1) := by decide +kernel
theorem dX6_obey_143 : decode cX6_obey 143 = .ok (.getfield 42, 3) := by decide +kernel
theorem dX6_obey_146 : decode cX6_obey 146 = .ok (.iconst 2, 1) := by decide +kernel
theorem dX6_obey_147 : decode cX6_obey 147 = .ok (.invokevirtual 213, 3) := by decide +kernel
theorem dX6_obey_150 : decode cX6_obey 150 = .ok (.invokevirtual 68, 3) := by decide +kernel
theorem dX6_obey_153 : decode cX6_obey 153 = .ok (.ireturn, 1) := by decide +kernel
theorem dX6_obey_154 : decode cX6_obey 154 = .ok (.bipush (-3), 2) := by decide +kernel
theorem dX6_obey_156 : decode cX6_obey 156 = .ok (.ireturn, 1) := by decide +kernel
set_option maxRecDepth 20000 in
theorem ggX6_addRollerOfText_X2_numbers : GoodIn wsX6_addRollerOfText wsX2_numbers := goodIn_r _ [7, 8, 68, 69, 70, 71, 72] (by decide +kernel) (by decide +kernel)
set_option maxRecDepth 20000 in
theorem gX6_addRollerOfText_X2_numbers : GoodIn wsX6_addRollerOfText (wsV RX6 216 RX2 yX2_numbers wsX2_numbers) := goodIn_app (goodIn_of _ (by decide +kernel)) ggX6_addRollerOfText_X2_numbers
set_option maxRecDepth 20000 in
theorem ggX6_addRollerOfText_X3_addRoller : GoodIn wsX6_addRollerOfText wsX3_addRoller := goodIn_r _ [13, 14, 15, 16, 17, 18, 19, 12, 20, 21, 22, 23, 24, 25, 26, 27, 28, 29, 30, 31, 32, 33, 34, 35, 36, 73] (by decide +kernel) (by decide +kernel)
set_option maxRecDepth 20000 in
theorem gX6_addRollerOfText_X3_addRoller : GoodIn wsX6_addRollerOfText (wsV RX6 65 RX3 yX3_addRoller wsX3_addRoller) := goodIn_app (goodIn_of _ (by decide +kernel)) ggX6_addRollerOfText_X3_addRoller
set_option maxRecDepth 20000 in
theorem ggX6_addRollerOfText_X2_number : GoodIn wsX6_addRollerOfText wsX2_number := goodIn_r _ [40, 41, 68, 69, 70, 71, 72] (by decide +kernel) (by decide +kernel)
set_option maxRecDepth 20000 in
theorem gX6_addRollerOfText_X2_number : GoodIn wsX6_addRollerOfText (wsV RX6 213 RX2 yX2_number wsX2_number) := goodIn_app (goodIn_of _ (by decide +kernel)) ggX6_addRollerOfText_X2_number
set_option maxRecDepth 20000 in
theorem ggX6_addRollerOfText_X3_fileTooth : GoodIn wsX6_addRollerOfText wsX3_fileTooth := goodIn_r _ [45, 46, 47, 48, 12, 49, 50, 51, 52, 53, 17, 18, 19, 20, 21, 54, 55, 56, 57, 22, 23, 24, 14, 15, 16, 58, 59, 60, 61, 29, 30, 31, 32, 25, 26, 27, 28, 73] (by decide +kernel) (by decide +kernel)
set_option maxRecDepth 20000 in
theorem gX6_addRollerOfText_X3_fileTooth : GoodIn wsX6_addRollerOfText (wsV RX6 68 RX3 yX3_fileTooth wsX3_fileTooth) := goodIn_app (goodIn_of _ (by decide +kernel)) ggX6_addRollerOfText_X3_fileTooth
theorem dX6_addRollerOfText_0 : decode cX6_addRollerOfText 0 = .ok (.aload_n 0, 1) := by decide +kernel
theorem dX6_addRollerOfText_1 : decode cX6_addRollerOfText 1 = .ok (.getfield 42, 3) := by decide +kernel
theorem dX6_addRollerOfText_4 : decode cX6_addRollerOfText 4 = .ok (.invokevirtual 216, 3) := by decide +kernel
theorem dX6_addRollerOfText_7 : decode cX6_addRollerOfText 7 = .ok (.istore_n 1, 1) := by decide +kernel
theorem dX6_addRollerOfText_8 : decode cX6_addRollerOfText 8 = .ok (.aload_n 0, 1) := by decide +kernel
theorem dX6_addRollerOfText_9 : decode cX6_addRollerOfText 9 = .ok (.getfield 10, 3) := by decide +kernel
theorem dX6_addRollerOfText_12 : decode cX6_addRollerOfText 12 = .ok (.iload_n 1, 1) := by decide +kernel
theorem dX6_addRollerOfText_13 : decode cX6_addRollerOfText 13 = .ok (.iconst 0, 1) := by decide +kernel
theorem dX6_addRollerOfText_14 : decode cX6_addRollerOfText 14 = .ok (.invokevirtual 65, 3) := by decide +kernel
theorem dX6_addRollerOfText_17 : decode cX6_addRollerOfText 17 = .ok (.istore_n 2, 1) := by decide +kernel
theorem dX6_addRollerOfText_18 : decode cX6_addRollerOfText 18 = .ok (.iload_n 2, 1) := by decide +kernel
theorem dX6_addRollerOfText_19 : decode cX6_addRollerOfText 19 = .ok (.ifCond .ge 5, 3) := by decide +kernel
theorem dX6_addRollerOfText_22 : decode cX6_addRollerOfText 22 = .ok (.iload_n 2, 1) := by decide +kernel
theorem dX6_addRollerOfText_23 : decode cX6_addRollerOfText 23 = .ok (.ireturn, 1) := by decide +kernel
theorem dX6_addRollerOfText_24 : decode cX6_addRollerOfText 24 = .ok (.iconst 0, 1) := by decide +kernel
theorem dX6_addRollerOfText_25 : decode cX6_addRollerOfText 25 = .ok (.istore_n 3, 1) := by decide +kernel
theorem dX6_addRollerOfText_26 : decode cX6_addRollerOfText 26 = .ok (.iload_n 3, 1) := by decide +kernel
theorem dX6_addRollerOfText_27 : decode cX6_addRollerOfText 27 = .ok (.iload_n 1, 1) := by decide +kernel
theorem dX6_addRollerOfText_28 : decode cX6_addRollerOfText 28 = .ok (.if_icmp .ge 27, 3) := by decide +kernel
theorem dX6_addRollerOfText_31 : decode cX6_addRollerOfText 31 = .ok (.aload_n 0, 1) := by decide +kernel
theorem dX6_addRollerOfText_32 : decode cX6_addRollerOfText 32 = .ok (.getfield 10, 3) := by decide +kernel
theorem dX6_addRollerOfText_35 : decode cX6_addRollerOfText 35 = .ok (.iload_n 2, 1) := by decide +kernel
theorem dX6_addRollerOfText_36 : decode cX6_addRollerOfText 36 = .ok (.iload_n 3, 1) := by decide +kernel
theorem dX6_addRollerOfText_37 : decode cX6_addRollerOfText 37 = .ok (.aload_n 0, 1) := by decide +kernel
theorem dX6_addRollerOfText_38 : decode cX6_addRollerOfText 38 = .ok (.getfield 42, 3) := by decide +kernel
theorem dX6_addRollerOfText_41 : decode cX6_addRollerOfText 41 = .ok (.iload_n 3, 1) := by decide +kernel
theorem dX6_addRollerOfText_42 : decode cX6_addRollerOfText 42 = .ok (.invokevirtual 213, 3) := by decide +kernel
theorem dX6_addRollerOfText_45 : decode cX6_addRollerOfText 45 = .ok (.invokevirtual 68, 3) := by decide +kernel
theorem dX6_addRollerOfText_48 : decode cX6_addRollerOfText 48 = .ok (.pop, 1) := by decide +kernel
theorem dX6_addRollerOfText_49 : decode cX6_addRollerOfText 49 = .ok (.iinc 3 1, 3) := by decide +kernel
theorem dX6_addRollerOfText_52 : decode cX6_addRollerOfText 52 = .ok (.goto (-26), 3) := by decide +kernel
theorem dX6_addRollerOfText_55 : decode cX6_addRollerOfText 55 = .ok (.iload_n 2, 1) := by decide +kernel
theorem dX6_addRollerOfText_56 : decode cX6_addRollerOfText 56 = .ok (.ireturn, 1) := by decide +kernel
set_option maxRecDepth 20000 in
theorem ggX6_undo_X0_stepBack : GoodIn wsX6_undo wsX0_stepBack := goodIn_r _ [7, 8, 9, 10, 11, 12, 13, 14, 15, 16, 17, 18, 19, 20, 27, 28, 29, 30] (by decide +kernel) (by decide +kernel)
set_option maxRecDepth 20000 in
theorem gX6_undo_X0_stepBack : GoodIn wsX6_undo (wsV RX6 219 RX0 yX0_stepBack wsX0_stepBack) := goodIn_app (goodIn_of _ (by decide +kernel)) ggX6_undo_X0_stepBack
theorem dX6_undo_0 : decode cX6_undo 0 = .ok (.aload_n 0, 1) := by decide +kernel
theorem dX6_undo_1 : decode cX6_undo 1 = .ok (.getfield 19, 3) := by decide +kernel
theorem dX6_undo_4 : decode cX6_undo 4 = .ok (.aload_n 0, 1) := by decide +kernel
theorem dX6_undo_5 : decode cX6_undo 5 = .ok (.getfield 10, 3) := by decide +kernel
theorem dX6_undo_8 : decode cX6_undo 8 = .ok (.invokevirtual 219, 3) := by decide +kernel
theorem dX6_undo_11 : decode cX6_undo 11 = .ok (.ireturn, 1) := by decide +kernel
set_option maxRecDepth 20000 in
theorem ggX6_save_X4_keep : GoodIn wsX6_save wsX4_keep := goodIn_r _ [7, 8, 9, 10, 11, 12, 13, 14, 15, 16, 17, 18, 19, 20, 21, 22, 23, 24, 25, 26, 33, 34, 35] (by decide +kernel) (by decide +kernel)
set_option maxRecDepth 20000 in
theorem gX6_save_X4_keep : GoodIn wsX6_save (wsV RX6 223 RX4 yX4_keep wsX4_keep) := goodIn_app (goodIn_of _ (by decide +kernel)) ggX6_save_X4_keep
theorem dX6_save_0 : decode cX6_save 0 = .ok (.aload_n 0, 1) := by decide +kernel
theorem dX6_save_1 : decode cX6_save 1 = .ok (.getfield 26, 3) := by decide +kernel
theorem dX6_save_4 : decode cX6_save 4 = .ok (.iload_n 1, 1) := by decide +kernel
theorem dX6_save_5 : decode cX6_save 5 = .ok (.aload_n 0, 1) := by decide +kernel
theorem dX6_save_6 : decode cX6_save 6 = .ok (.getfield 10, 3) := by decide +kernel
theorem dX6_save_9 : decode cX6_save 9 = .ok (.invokevirtual 223, 3) := by decide +kernel
theorem dX6_save_12 : decode cX6_save 12 = .ok (.ireturn, 1) := by decide +kernel
set_option maxRecDepth 20000 in
theorem ggX6_restore_X0_prepare : GoodIn wsX6_restore wsX0_prepare := goodIn_r _ [8, 9, 10, 11, 12, 13, 14, 15, 16, 17, 18, 19, 20, 54, 55, 56, 57] (by decide +kernel) (by decide +kernel)
set_option maxRecDepth 20000 in
theorem gX6_restore_X0_prepare : GoodIn wsX6_restore (wsV RX6 53 RX0 yX0_prepare wsX0_prepare) := goodIn_app (goodIn_of _ (by decide +kernel)) ggX6_restore_X0_prepare
set_option maxRecDepth 20000 in
theorem ggX6_restore_X4_fetch : GoodIn wsX6_restore wsX4_fetch := goodIn_r _ [25, 26, 27, 28, 29, 30, 31, 32, 33, 14, 34, 16, 17, 18, 19, 20, 35, 36, 37, 38, 58, 59, 57] (by decide +kernel) (by decide +kernel)
set_option maxRecDepth 20000 in
theorem gX6_restore_X4_fetch : GoodIn wsX6_restore (wsV RX6 227 RX4 yX4_fetch wsX4_fetch) := goodIn_app (goodIn_of _ (by decide +kernel)) ggX6_restore_X4_fetch
set_option maxRecDepth 20000 in
theorem ggX6_restore_X0_recorded : GoodIn wsX6_restore wsX0_recorded := goodIn_r _ [42, 10, 43, 44, 45, 46, 47, 54, 55, 56] (by decide +kernel) (by decide +kernel)
set_option maxRecDepth 20000 in
theorem gX6_restore_X0_recorded : GoodIn wsX6_restore (wsV RX6 61 RX0 yX0_recorded wsX0_recorded) := goodIn_app (goodIn_of _ (by decide +kernel)) ggX6_restore_X0_recorded
theorem dX6_restore_0 : decode cX6_restore 0 = .ok (.aload_n 0, 1) := by decide +kernel
theorem dX6_restore_1 : decode cX6_restore 1 = .ok (.getfield 19, 3) := by decide +kernel
theorem dX6_restore_4 : decode cX6_restore 4 = .ok (.aload_n 0, 1) := by decide +kernel
theorem dX6_restore_5 : decode cX6_restore 5 = .ok (.getfield 10, 3) := by decide +kernel
theorem dX6_restore_8 : decode cX6_restore 8 = .ok (.invokevirtual 53, 3) := by decide +kernel
theorem dX6_restore_11 : decode cX6_restore 11 = .ok (.aload_n 0, 1) := by decide +kernel
theorem dX6_restore_12 : decode cX6_restore 12 = .ok (.getfield 19, 3) := by decide +kernel
theorem dX6_restore_15 : decode cX6_restore 15 = .ok (.aload_n 0, 1) := by decide +kernel
theorem dX6_restore_16 : decode cX6_restore 16 = .ok (.getfield 26, 3) := by decide +kernel
theorem dX6_restore_19 : decode cX6_restore 19 = .ok (.iload_n 1, 1) := by decide +kernel
theorem dX6_restore_20 : decode cX6_restore 20 = .ok (.aload_n 0, 1) := by decide +kernel
theorem dX6_restore_21 : decode cX6_restore 21 = .ok (.getfield 10, 3) := by decide +kernel
theorem dX6_restore_24 : decode cX6_restore 24 = .ok (.invokevirtual 227, 3) := by decide +kernel
theorem dX6_restore_27 : decode cX6_restore 27 = .ok (.invokevirtual 61, 3) := by decide +kernel
theorem dX6_restore_30 : decode cX6_restore 30 = .ok (.ireturn, 1) := by decide +kernel
theorem dJ9_abs_0f7a4_0 : decode cJ9_abs_0f7a4 0 = .ok (.iload_n 0, 1) := by decide +kernel
theorem dJ9_abs_0f7a4_1 : decode cJ9_abs_0f7a4 1 = .ok (.ifCond .ge 8, 3) := by decide +kernel
theorem dJ9_abs_0f7a4_4 : decode cJ9_abs_0f7a4 4 = .ok (.iload_n 0, 1) := by decide +kernel
theorem dJ9_abs_0f7a4_5 : decode cJ9_abs_0f7a4 5 = .ok (.ineg, 1) := by decide +kernel
theorem dJ9_abs_0f7a4_6 : decode cJ9_abs_0f7a4 6 = .ok (.goto 4, 3) := by decide +kernel
theorem dJ9_abs_0f7a4_9 : decode cJ9_abs_0f7a4 9 = .ok (.iload_n 0, 1) := by decide +kernel
theorem dJ9_abs_0f7a4_10 : decode cJ9_abs_0f7a4 10 = .ok (.ireturn, 1) := by decide +kernel
theorem dJ9_max_7cf53_0 : decode cJ9_max_7cf53 0 = .ok (.iload_n 0, 1) := by decide +kernel
theorem dJ9_max_7cf53_1 : decode cJ9_max_7cf53 1 = .ok (.iload_n 1, 1) := by decide +kernel
theorem dJ9_max_7cf53_2 : decode cJ9_max_7cf53 2 = .ok (.if_icmp .lt 7, 3) := by decide +kernel
theorem dJ9_max_7cf53_5 : decode cJ9_max_7cf53 5 = .ok (.iload_n 0, 1) := by decide +kernel
theorem dJ9_max_7cf53_6 : decode cJ9_max_7cf53 6 = .ok (.goto 4, 3) := by decide +kernel
theorem dJ9_max_7cf53_9 : decode cJ9_max_7cf53 9 = .ok (.iload_n 1, 1) := by decide +kernel
theorem dJ9_max_7cf53_10 : decode cJ9_max_7cf53 10 = .ok (.ireturn, 1) := by decide +kernel
theorem dJ9_min_7cf53_0 : decode cJ9_min_7cf53 0 = .ok (.iload_n 0, 1) := by decide +kernel
theorem dJ9_min_7cf53_1 : decode cJ9_min_7cf53 1 = .ok (.iload_n 1, 1) := by decide +kernel
theorem dJ9_min_7cf53_2 : decode cJ9_min_7cf53 2 = .ok (.if_icmp .gt 7, 3) := by decide +kernel
theorem dJ9_min_7cf53_5 : decode cJ9_min_7cf53 5 = .ok (.iload_n 0, 1) := by decide +kernel
theorem dJ9_min_7cf53_6 : decode cJ9_min_7cf53 6 = .ok (.goto 4, 3) := by decide +kernel
theorem dJ9_min_7cf53_9 : decode cJ9_min_7cf53 9 = .ok (.iload_n 1, 1) := by decide +kernel
theorem dJ9_min_7cf53_10 : decode cJ9_min_7cf53 10 = .ok (.ireturn, 1) := by decide +kernel
theorem dL_part_0 : decode cL_part 0 = .ok (.iload_n 0, 1) := by decide +kernel
theorem dL_part_1 : decode cL_part 1 = .ok (.ldc 7, 2) := by decide +kernel
theorem dL_part_3 : decode cL_part 3 = .ok (.iand, 1) := by decide +kernel
theorem dL_part_4 : decode cL_part 4 = .ok (.iload_n 1, 1) := by decide +kernel
theorem dL_part_5 : decode cL_part 5 = .ok (.irem, 1) := by decide +kernel
theorem dL_part_6 : decode cL_part 6 = .ok (.ireturn, 1) := by decide +kernel
theorem dL_drawn_0 : decode cL_drawn 0 = .ok (.aload_n 0, 1) := by decide +kernel
theorem dL_drawn_1 : decode cL_drawn 1 = .ok (.arraylength, 1) := by decide +kernel
theorem dL_drawn_2 : decode cL_drawn 2 = .ok (.ifCond .ne 13, 3) := by decide +kernel
theorem dL_drawn_5 : decode cL_drawn 5 = .ok (.sipush 7919, 3) := by decide +kernel
theorem dL_drawn_8 : decode cL_drawn 8 = .ok (.iload_n 1, 1) := by decide +kernel
theorem dL_drawn_9 : decode cL_drawn 9 = .ok (.imul, 1) := by decide +kernel
theorem dL_drawn_10 : decode cL_drawn 10 = .ok (.iconst 3, 1) := by decide +kernel
theorem dL_drawn_11 : decode cL_drawn 11 = .ok (.iadd, 1) := by decide +kernel
theorem dL_drawn_12 : decode cL_drawn 12 = .ok (.goto 27, 3) := by decide +kernel
theorem dL_drawn_15 : decode cL_drawn 15 = .ok (.aload_n 0, 1) := by decide +kernel
theorem dL_drawn_16 : decode cL_drawn 16 = .ok (.iload_n 1, 1) := by decide +kernel
theorem dL_drawn_17 : decode cL_drawn 17 = .ok (.aload_n 0, 1) := by decide +kernel
theorem dL_drawn_18 : decode cL_drawn 18 = .ok (.arraylength, 1) := by decide +kernel
theorem dL_drawn_19 : decode cL_drawn 19 = .ok (.irem, 1) := by decide +kernel
theorem dL_drawn_20 : decode cL_drawn 20 = .ok (.iaload, 1) := by decide +kernel
theorem dL_drawn_21 : decode cL_drawn 21 = .ok (.iload_n 1, 1) := by decide +kernel
theorem dL_drawn_22 : decode cL_drawn 22 = .ok (.bipush 7, 2) := by decide +kernel
theorem dL_drawn_24 : decode cL_drawn 24 = .ok (.irem, 1) := by decide +kernel
theorem dL_drawn_25 : decode cL_drawn 25 = .ok (.ishr, 1) := by decide +kernel
theorem dL_drawn_26 : decode cL_drawn 26 = .ok (.iload_n 1, 1) := by decide +kernel
theorem dL_drawn_27 : decode cL_drawn 27 = .ok (.aload_n 0, 1) := by decide +kernel
theorem dL_drawn_28 : decode cL_drawn 28 = .ok (.arraylength, 1) := by decide +kernel
theorem dL_drawn_29 : decode cL_drawn 29 = .ok (.idiv, 1) := by decide +kernel
theorem dL_drawn_30 : decode cL_drawn 30 = .ok (.bipush 31, 2) := by decide +kernel
theorem dL_drawn_32 : decode cL_drawn 32 = .ok (.imul, 1) := by decide +kernel
theorem dL_drawn_33 : decode cL_drawn 33 = .ok (.ixor, 1) := by decide +kernel
theorem dL_drawn_34 : decode cL_drawn 34 = .ok (.iload_n 1, 1) := by decide +kernel
theorem dL_drawn_35 : decode cL_drawn 35 = .ok (.ldc 8, 2) := by decide +kernel
theorem dL_drawn_37 : decode cL_drawn 37 = .ok (.imul, 1) := by decide +kernel
theorem dL_drawn_38 : decode cL_drawn 38 = .ok (.ixor, 1) := by decide +kernel
theorem dL_drawn_39 : decode cL_drawn 39 = .ok (.ireturn, 1) := by decide +kernel
set_option maxRecDepth 20000 in
theorem ggL_seen_X6_count : GoodIn wsL_seen wsX6_count := goodIn_r _ [7, 8, 9, 10, 11, 12, 6, 13, 14, 15, 16, 17, 18, 19, 20, 21, 22, 23, 24, 25, 26, 27, 28, 29, 30, 31, 90, 91, 92, 93, 94, 95, 96, 97, 98, 99, 100, 101] (by decide +kernel) (by decide +kernel)
set_option maxRecDepth 20000 in
theorem gL_seen_X6_count : GoodIn wsL_seen (wsV RL 13 RX6 yX6_count wsX6_count) := goodIn_app (goodIn_of _ (by decide +kernel)) ggL_seen_X6_count
set_option maxRecDepth 20000 in
theorem ggL_seen_X6_of : GoodIn wsL_seen wsX6_of := goodIn_r _ [35, 10, 36, 37, 38, 29, 39, 40, 27, 28, 30, 31, 41, 42, 43, 44, 45, 46, 47, 48, 49, 50, 51, 52, 53, 54, 55, 56, 57, 58, 59, 60, 61, 62, 63, 64, 65, 66, 67, 68, 69, 70, 71, 72, 73, 74, 75, 76, 77, 78, 79, 90, 91, 92, 93, 94, 95, 101] (by decide +kernel) (by decide +kernel)
set_option maxRecDepth 20000 in
theorem gL_seen_X6_of : GoodIn wsL_seen (wsV RL 19 RX6 yX6_of wsX6_of) := goodIn_app (goodIn_of _ (by decide +kernel)) ggL_seen_X6_of
set_option maxRecDepth 20000 in
theorem ggL_seen_X6_tooth : GoodIn wsL_seen wsX6_tooth := goodIn_r _ [83, 10, 84, 85, 86, 29, 87, 88, 37, 38, 39, 40, 27, 28, 30, 31, 52, 42, 43, 44, 45, 46, 47, 89, 54, 55, 56, 90, 91, 92, 93, 94, 95, 101] (by decide +kernel) (by decide +kernel)
set_option maxRecDepth 20000 in
theorem gL_seen_X6_tooth : GoodIn wsL_seen (wsV RL 23 RX6 yX6_tooth wsX6_tooth) := goodIn_app (goodIn_of _ (by decide +kernel)) ggL_seen_X6_tooth
theorem dL_seen_0 : decode cL_seen 0 = .ok (.ldc2_w 9, 3) := by decide +kernel
theorem dL_seen_3 : decode cL_seen 3 = .ok (.lstore_n 1, 1) := by decide +kernel
theorem dL_seen_4 : decode cL_seen 4 = .ok (.iconst 0, 1) := by decide +kernel
theorem dL_seen_5 : decode cL_seen 5 = .ok (.istore_n 3, 1) := by decide +kernel
theorem dL_seen_6 : decode cL_seen 6 = .ok (.iload_n 3, 1) := by decide +kernel
theorem dL_seen_7 : decode cL_seen 7 = .ok (.bipush 9, 2) := by decide +kernel
theorem dL_seen_9 : decode cL_seen 9 = .ok (.if_icmp .ge 22, 3) := by decide +kernel
theorem dL_seen_12 : decode cL_seen 12 = .ok (.ldc2_w 11, 3) := by decide +kernel
theorem dL_seen_15 : decode cL_seen 15 = .ok (.lload_n 1, 1) := by decide +kernel
theorem dL_seen_16 : decode cL_seen 16 = .ok (.lmul, 1) := by decide +kernel
theorem dL_seen_17 : decode cL_seen 17 = .ok (.aload_n 0, 1) := by decide +kernel
theorem dL_seen_18 : decode cL_seen 18 = .ok (.iload_n 3, 1) := by decide +kernel
theorem dL_seen_19 : decode cL_seen 19 = .ok (.invokevirtual 13, 3) := by decide +kernel
theorem dL_seen_22 : decode cL_seen 22 = .ok (.i2l, 1) := by decide +kernel
theorem dL_seen_23 : decode cL_seen 23 = .ok (.ladd, 1) := by decide +kernel
theorem dL_seen_24 : decode cL_seen 24 = .ok (.lstore_n 1, 1) := by decide +kernel
theorem dL_seen_25 : decode cL_seen 25 = .ok (.iinc 3 1, 3) := by decide +kernel
theorem dL_seen_28 : decode cL_seen 28 = .ok (.goto (-22), 3) := by decide +kernel
theorem dL_seen_31 : decode cL_seen 31 = .ok (.iconst 0, 1) := by decide +kernel
theorem dL_seen_32 : decode cL_seen 32 = .ok (.istore_n 3, 1) := by decide +kernel
theorem dL_seen_33 : decode cL_seen 33 = .ok (.iload_n 3, 1) := by decide +kernel
theorem dL_seen_34 : decode cL_seen 34 = .ok (.bipush 7, 2) := by decide +kernel
theorem dL_seen_36 : decode cL_seen 36 = .ok (.aload_n 0, 1) := by decide +kernel
theorem dL_seen_37 : decode cL_seen 37 = .ok (.iconst 0, 1) := by decide +kernel
theorem dL_seen_38 : decode cL_seen 38 = .ok (.invokevirtual 13, 3) := by decide +kernel
theorem dL_seen_41 : decode cL_seen 41 = .ok (.imul, 1) := by decide +kernel
theorem dL_seen_42 : decode cL_seen 42 = .ok (.if_icmp .ge 29, 3) := by decide +kernel
theorem dL_seen_45 : decode cL_seen 45 = .ok (.ldc2_w 11, 3) := by decide +kernel
theorem dL_seen_48 : decode cL_seen 48 = .ok (.lload_n 1, 1) := by decide +kernel
theorem dL_seen_49 : decode cL_seen 49 = .ok (.lmul, 1) := by decide +kernel
theorem dL_seen_50 : decode cL_seen 50 = .ok (.aload_n 0, 1) := by decide +kernel
theorem dL_seen_51 : decode cL_seen 51 = .ok (.iload_n 3, 1) := by decide +kernel
theorem dL_seen_52 : decode cL_seen 52 = .ok (.bipush 7, 2) := by decide +kernel
theorem dL_seen_54 : decode cL_seen 54 = .ok (.idiv, 1) := by decide +kernel
theorem dL_seen_55 : decode cL_seen 55 = .ok (.iload_n 3, 1) := by decide +kernel
theorem dL_seen_56 : decode cL_seen 56 = .ok (.bipush 7, 2) := by decide +kernel
theorem dL_seen_58 : decode cL_seen 58 = .ok (.irem, 1) := by decide +kernel
theorem dL_seen_59 : decode cL_seen 59 = .ok (.invokevirtual 19, 3) := by decide +kernel
theorem dL_seen_62 : decode cL_seen 62 = .ok (.i2l, 1) := by decide +kernel
theorem dL_seen_63 : decode cL_seen 63 = .ok (.ladd, 1) := by decide +kernel
theorem dL_seen_64 : decode cL_seen 64 = .ok (.lstore_n 1, 1) := by decide +kernel
theorem dL_seen_65 : decode cL_seen 65 = .ok (.iinc 3 1, 3) := by decide +kernel
theorem dL_seen_68 : decode cL_seen 68 = .ok (.goto (-35), 3) := by decide +kernel
theorem dL_seen_71 : decode cL_seen 71 = .ok (.iconst 0, 1) := by decide +kernel
theorem dL_seen_72 : decode cL_seen 72 = .ok (.istore_n 3, 1) := by decide +kernel
theorem dL_seen_73 : decode cL_seen 73 = .ok (.iload_n 3, 1) := by decide +kernel
theorem dL_seen_74 : decode cL_seen 74 = .ok (.bipush 24, 2) := by decide +kernel
theorem dL_seen_76 : decode cL_seen 76 = .ok (.aload_n 0, 1) := by decide +kernel
theorem dL_seen_77 : decode cL_seen 77 = .ok (.iconst 0, 1) := by decide +kernel
theorem dL_seen_78 : decode cL_seen 78 = .ok (.invokevirtual 13, 3) := by decide +kernel
theorem dL_seen_81 : decode cL_seen 81 = .ok (.imul, 1) := by decide +kernel
theorem dL_seen_82 : decode cL_seen 82 = .ok (.if_icmp .ge 29, 3) := by decide +kernel
theorem dL_seen_85 : decode cL_seen 85 = .ok (.ldc2_w 11, 3) := by decide +kernel
theorem dL_seen_88 : decode cL_seen 88 = .ok (.lload_n 1, 1) := by decide +kernel
theorem dL_seen_89 : decode cL_seen 89 = .ok (.lmul, 1) := by decide +kernel
theorem dL_seen_90 : decode cL_seen 90 = .ok (.aload_n 0, 1) := by decide +kernel
theorem dL_seen_91 : decode cL_seen 91 = .ok (.iload_n 3, 1) := by decide +kernel
theorem dL_seen_92 : decode cL_seen 92 = .ok (.bipush 24, 2) := by decide +kernel
theorem dL_seen_94 : decode cL_seen 94 = .ok (.idiv, 1) := by decide +kernel
theorem dL_seen_95 : decode cL_seen 95 = .ok (.iload_n 3, 1) := by decide +kernel
theorem dL_seen_96 : decode cL_seen 96 = .ok (.bipush 24, 2) := by decide +kernel
theorem dL_seen_98 : decode cL_seen 98 = .ok (.irem, 1) := by decide +kernel
theorem dL_seen_99 : decode cL_seen 99 = .ok (.invokevirtual 23, 3) := by decide +kernel
theorem dL_seen_102 : decode cL_seen 102 = .ok (.i2l, 1) := by decide +kernel
theorem dL_seen_103 : decode cL_seen 103 = .ok (.ladd, 1) := by decide +kernel
theorem dL_seen_104 : decode cL_seen 104 = .ok (.lstore_n 1, 1) := by decide +kernel
theorem dL_seen_105 : decode cL_seen 105 = .ok (.iinc 3 1, 3) := by decide +kernel
theorem dL_seen_108 : decode cL_seen 108 = .ok (.goto (-35), 3) := by decide +kernel
theorem dL_seen_111 : decode cL_seen 111 = .ok (.lload_n 1, 1) := by decide +kernel
theorem dL_seen_112 : decode cL_seen 112 = .ok (.lreturn, 1) := by decide +kernel
set_option maxRecDepth 20000 in
theorem ggL_refusesAny_X6_count : GoodIn wsL_refusesAny wsX6_count := goodIn_r _ [8, 9, 10, 11, 12, 13, 7, 14, 15, 16, 17, 18, 19, 20, 21, 22, 23, 24, 25, 26, 27, 28, 29, 30, 31, 32, 420, 421, 422, 423, 424, 425, 426, 427, 428, 429, 430, 431] (by decide +kernel) (by decide +kernel)
set_option maxRecDepth 20000 in
theorem gL_refusesAny_X6_count : GoodIn wsL_refusesAny (wsV RL 13 RX6 yX6_count wsX6_count) := goodIn_app (goodIn_of _ (by decide +kernel)) ggL_refusesAny_X6_count
set_option maxRecDepth 20000 in
theorem ggL_refusesAny_X6_set : GoodIn wsL_refusesAny wsX6_set := goodIn_r _ [36, 10, 11, 37, 38, 39, 24, 40, 41, 42, 43, 44, 45, 30, 46, 32, 47, 48, 49, 50, 51, 52, 53, 54, 13, 7, 14, 55, 56, 57, 58, 59, 28, 29, 31, 60, 61, 62, 63, 64, 65, 66, 67, 26, 68, 69, 70, 71, 420, 421, 422, 423, 424, 425, 428, 429, 430, 431] (by decide +kernel) (by decide +kernel)
set_option maxRecDepth 20000 in
theorem gL_refusesAny_X6_set : GoodIn wsL_refusesAny (wsV RL 26 RX6 yX6_set wsX6_set) := goodIn_app (goodIn_of _ (by decide +kernel)) ggL_refusesAny_X6_set
set_option maxRecDepth 20000 in
theorem ggL_refusesAny_X6_roller : GoodIn wsL_refusesAny wsX6_roller := goodIn_r _ [75, 10, 11, 37, 38, 39, 24, 40, 41, 42, 43, 44, 45, 30, 46, 32, 47, 48, 49, 50, 76, 77, 78, 79, 13, 7, 14, 59, 28, 29, 31, 80, 81, 82, 60, 61, 62, 63, 83, 84, 85, 86, 87, 88, 89, 90, 64, 65, 66, 67, 26, 68, 69, 70, 71, 420, 421, 422, 423, 424, 425, 428, 429, 430, 431] (by decide +kernel) (by decide +kernel)
set_option maxRecDepth 20000 in
theorem gL_refusesAny_X6_roller : GoodIn wsL_refusesAny (wsV RL 31 RX6 yX6_roller wsX6_roller) := goodIn_app (goodIn_of _ (by decide +kernel)) ggL_refusesAny_X6_roller
set_option maxRecDepth 20000 in
theorem ggL_refusesAny_X6_file : GoodIn wsL_refusesAny wsX6_file := goodIn_r _ [94, 10, 11, 37, 38, 39, 24, 40, 41, 42, 43, 44, 45, 30, 46, 32, 47, 48, 49, 50, 95, 96, 97, 98, 99, 100, 101, 102, 103, 104, 105, 106, 59, 28, 29, 31, 107, 108, 109, 110, 80, 81, 82, 13, 7, 14, 111, 112, 113, 114, 83, 84, 85, 86, 60, 61, 62, 63, 64, 65, 66, 67, 26, 68, 69, 70, 71, 420, 421, 422, 423, 424, 425, 428, 429, 430, 431] (by decide +kernel) (by decide +kernel)
set_option maxRecDepth 20000 in
theorem gL_refusesAny_X6_file : GoodIn wsL_refusesAny (wsV RL 34 RX6 yX6_file wsX6_file) := goodIn_app (goodIn_of _ (by decide +kernel)) ggL_refusesAny_X6_file
set_option maxRecDepth 20000 in
theorem ggL_refusesAny_X6_melt : GoodIn wsL_refusesAny wsX6_melt := goodIn_r _ [118, 10, 11, 37, 38, 39, 24, 40, 41, 42, 43, 44, 45, 30, 46, 32, 47, 48, 49, 50, 119, 120, 121, 122, 103, 104, 105, 106, 59, 28, 29, 31, 80, 81, 82, 60, 61, 62, 63, 64, 65, 66, 67, 26, 68, 69, 70, 71, 420, 421, 422, 423, 424, 425, 428, 429, 430, 431] (by decide +kernel) (by decide +kernel)
set_option maxRecDepth 20000 in
theorem gL_refusesAny_X6_melt : GoodIn wsL_refusesAny (wsV RL 38 RX6 yX6_melt wsX6_melt) := goodIn_app (goodIn_of _ (by decide +kernel)) ggL_refusesAny_X6_melt
set_option maxRecDepth 20000 in
theorem ggL_refusesAny_X6_card : GoodIn wsL_refusesAny wsX6_card := goodIn_r _ [126, 10, 11, 37, 38, 39, 24, 40, 41, 42, 43, 44, 45, 30, 46, 32, 47, 48, 49, 50, 127, 128, 129, 130, 13, 7, 14, 59, 28, 29, 31, 60, 61, 62, 63, 64, 65, 66, 67, 26, 68, 69, 70, 71, 420, 421, 422, 423, 424, 425, 428, 429, 430, 431] (by decide +kernel) (by decide +kernel)
set_option maxRecDepth 20000 in
theorem gL_refusesAny_X6_card : GoodIn wsL_refusesAny (wsV RL 41 RX6 yX6_card wsX6_card) := goodIn_app (goodIn_of _ (by decide +kernel)) ggL_refusesAny_X6_card
set_option maxRecDepth 20000 in
theorem ggL_refusesAny_X6_carryOut : GoodIn wsL_refusesAny wsX6_carryOut := goodIn_r _ [134, 135, 10, 11, 9, 136, 137, 138, 139, 140, 141, 142, 143, 144, 145, 146, 147, 148, 149, 150, 151, 152, 153, 154, 155, 18, 156, 20, 157, 158, 159, 160, 161, 162, 163, 164, 165, 166, 167, 168, 169, 170, 171, 172, 173, 13, 7, 14, 174, 175, 176, 177, 178, 179, 180, 181, 182, 183, 184, 185, 186, 187, 16, 17, 19, 37, 38, 39, 24, 40, 41, 42, 43, 44, 45, 30, 46, 32, 47, 48, 49, 50, 188, 189, 190, 191, 192, 193, 194, 195, 196, 197, 198, 199, 200, 201, 202, 203, 204, 205, 76, 77, 78, 79, 59, 28, 29, 31, 80, 81, 82, 60, 61, 62, 63, 83, 84, 85, 86, 87, 88, 89, 90, 206, 207, 208, 209, 95, 96, 97, 98, 99, 100, 101, 102, 103, 104, 105, 106, 107, 108, 109, 110, 111, 112, 113, 114, 210, 211, 212, 213, 214, 215, 216, 217, 218, 219, 12, 220, 221, 222, 223, 224, 225, 69, 70, 71, 226, 227, 228, 229, 230, 231, 232, 233, 234, 235, 236, 56, 57, 58, 237, 238, 239, 240, 241, 242, 243, 244, 245, 246, 247, 248, 249, 250, 251, 252, 253, 254, 255, 256, 257, 258, 259, 260, 261, 27, 262, 263, 264, 265, 266, 267, 268, 269, 270, 271, 272, 273, 274, 275, 276, 277, 278, 279, 280, 281, 282, 283, 284, 55, 285, 286, 287, 288, 119, 120, 121, 122, 289, 290, 291, 292, 293, 64, 65, 66, 67, 26, 68, 420, 421, 422, 423, 424, 425, 432, 433, 434, 435, 436, 426, 427, 428, 429, 430, 431, 437, 438, 439, 440] (by decide +kernel) (by decide +kernel)
set_option maxRecDepth 20000 in
theorem gL_refusesAny_X6_carryOut : GoodIn wsL_refusesAny (wsV RL 44 RX6 yX6_carryOut wsX6_carryOut) := goodIn_app (goodIn_of _ (by decide +kernel)) ggL_refusesAny_X6_carryOut
set_option maxRecDepth 20000 in
theorem ggL_refusesAny_X6_run : GoodIn wsL_refusesAny wsX6_run := goodIn_r _ [297, 10, 11, 37, 38, 39, 24, 40, 41, 42, 43, 44, 45, 30, 46, 32, 47, 48, 49, 50, 210, 211, 212, 7, 213, 214, 215, 216, 217, 218, 219, 104, 105, 106, 59, 28, 29, 31, 12, 13, 14, 220, 221, 222, 223, 224, 225, 69, 70, 71, 226, 227, 228, 108, 109, 110, 80, 81, 82, 229, 230, 231, 232, 112, 113, 114, 233, 234, 235, 236, 56, 57, 58, 237, 238, 239, 240, 241, 242, 243, 244, 245, 246, 247, 248, 249, 250, 251, 252, 253, 254, 255, 256, 257, 258, 259, 260, 261, 27, 262, 263, 264, 265, 266, 267, 268, 269, 270, 271, 272, 273, 274, 275, 276, 87, 88, 89, 90, 60, 61, 62, 63, 277, 278, 279, 280, 281, 282, 283, 284, 55, 107, 285, 286, 287, 288, 111, 83, 84, 85, 86, 64, 65, 66, 67, 26, 68, 420, 421, 422, 423, 424, 425, 428, 429, 430, 431, 437, 438, 439, 440] (by decide +kernel) (by decide +kernel)
set_option maxRecDepth 20000 in
theorem gL_refusesAny_X6_run : GoodIn wsL_refusesAny (wsV RL 48 RX6 yX6_run wsX6_run) := goodIn_app (goodIn_of _ (by decide +kernel)) ggL_refusesAny_X6_run
set_option maxRecDepth 20000 in
theorem ggL_refusesAny_X6_of : GoodIn wsL_refusesAny wsX6_of := goodIn_r _ [301, 11, 219, 104, 105, 30, 106, 59, 28, 29, 31, 32, 302, 108, 109, 110, 80, 81, 82, 303, 304, 305, 306, 107, 111, 112, 113, 114, 307, 308, 309, 310, 311, 267, 70, 268, 312, 313, 314, 315, 316, 69, 71, 317, 282, 283, 284, 318, 319, 320, 321, 420, 421, 422, 423, 424, 425, 431] (by decide +kernel) (by decide +kernel)
set_option maxRecDepth 20000 in
theorem gL_refusesAny_X6_of : GoodIn wsL_refusesAny (wsV RL 19 RX6 yX6_of wsX6_of) := goodIn_app (goodIn_of _ (by decide +kernel)) ggL_refusesAny_X6_of
set_option maxRecDepth 20000 in
theorem ggL_refusesAny_X6_tooth : GoodIn wsL_refusesAny wsX6_tooth := goodIn_r _ [325, 11, 326, 100, 101, 30, 102, 103, 104, 105, 106, 59, 28, 29, 31, 32, 107, 108, 109, 110, 80, 81, 82, 327, 112, 113, 114, 420, 421, 422, 423, 424, 425, 431] (by decide +kernel) (by decide +kernel)
set_option maxRecDepth 20000 in
theorem gL_refusesAny_X6_tooth : GoodIn wsL_refusesAny (wsV RL 23 RX6 yX6_tooth wsX6_tooth) := goodIn_app (goodIn_of _ (by decide +kernel)) ggL_refusesAny_X6_tooth
set_option maxRecDepth 20000 in
theorem ggL_refusesAny_X6_pair : GoodIn wsL_refusesAny wsX6_pair := goodIn_r _ [331, 214, 11, 332, 333, 334, 7, 335, 215, 216, 217, 218, 219, 104, 105, 30, 106, 59, 28, 29, 31, 32, 12, 13, 14, 220, 221, 222, 223, 224, 225, 69, 70, 71, 226, 227, 228, 108, 109, 110, 80, 81, 82, 229, 230, 231, 232, 112, 113, 114, 233, 234, 235, 336, 337, 338, 339, 340, 341, 342, 343, 245, 246, 247, 248, 344, 345, 346, 347, 266, 267, 268, 236, 56, 57, 58, 237, 238, 239, 240, 241, 242, 243, 244, 249, 250, 251, 252, 253, 254, 255, 420, 421, 422, 423, 424, 425, 431, 437, 438, 439, 440] (by decide +kernel) (by decide +kernel)
set_option maxRecDepth 20000 in
theorem gL_refusesAny_X6_pair : GoodIn wsL_refusesAny (wsV RL 52 RX6 yX6_pair wsX6_pair) := goodIn_app (goodIn_of _ (by decide +kernel)) ggL_refusesAny_X6_pair
set_option maxRecDepth 20000 in
theorem ggL_refusesAny_X6_why : GoodIn wsL_refusesAny wsX6_why := goodIn_r _ [351, 214, 11, 332, 333, 334, 7, 335, 215, 216, 217, 218, 219, 104, 105, 30, 106, 59, 28, 29, 31, 32, 12, 13, 14, 220, 221, 222, 223, 224, 225, 69, 70, 71, 226, 227, 228, 108, 109, 110, 80, 81, 82, 229, 230, 231, 232, 112, 113, 114, 233, 234, 235, 236, 56, 57, 58, 352, 242, 243, 244, 245, 246, 247, 248, 249, 250, 251, 252, 253, 254, 255, 353, 420, 421, 422, 423, 424, 425, 431, 437, 438, 439, 440] (by decide +kernel) (by decide +kernel)
set_option maxRecDepth 20000 in
theorem gL_refusesAny_X6_why : GoodIn wsL_refusesAny (wsV RL 56 RX6 yX6_why wsX6_why) := goodIn_app (goodIn_of _ (by decide +kernel)) ggL_refusesAny_X6_why
set_option maxRecDepth 20000 in
theorem ggL_refusesAny_X6_leastGap : GoodIn wsL_refusesAny wsX6_leastGap := goodIn_r _ [357, 215, 216, 217, 7, 218, 11, 219, 104, 105, 30, 106, 59, 28, 29, 31, 32, 12, 13, 14, 358, 359, 360, 361, 214, 362, 267, 70, 268, 220, 221, 222, 223, 224, 225, 69, 71, 226, 227, 228, 108, 109, 110, 80, 81, 82, 229, 230, 231, 232, 112, 113, 114, 233, 234, 235, 236, 56, 57, 58, 363, 364, 365, 366, 249, 250, 251, 252, 253, 254, 255, 245, 246, 247, 248, 340, 341, 342, 343, 420, 421, 422, 423, 424, 425, 431, 437, 438, 439, 440] (by decide +kernel) (by decide +kernel)
set_option maxRecDepth 20000 in
theorem gL_refusesAny_X6_leastGap : GoodIn wsL_refusesAny (wsV RL 59 RX6 yX6_leastGap wsX6_leastGap) := goodIn_app (goodIn_of _ (by decide +kernel)) ggL_refusesAny_X6_leastGap
set_option maxRecDepth 20000 in
theorem ggL_refusesAny_X6_bestOffset : GoodIn wsL_refusesAny wsX6_bestOffset := goodIn_r _ [370, 11, 371, 69, 70, 71, 332, 333, 334, 7, 335, 215, 216, 217, 218, 219, 104, 105, 30, 106, 59, 28, 29, 31, 32, 12, 13, 14, 302, 108, 109, 110, 80, 81, 82, 358, 359, 360, 361, 214, 362, 267, 268, 220, 221, 222, 223, 224, 225, 226, 227, 228, 229, 230, 231, 232, 112, 113, 114, 233, 234, 235, 236, 56, 57, 58, 363, 364, 365, 366, 249, 250, 251, 252, 253, 254, 255, 245, 246, 247, 248, 340, 341, 342, 343, 420, 421, 422, 423, 424, 425, 431, 437, 438, 439, 440] (by decide +kernel) (by decide +kernel)
set_option maxRecDepth 20000 in
theorem gL_refusesAny_X6_bestOffset : GoodIn wsL_refusesAny (wsV RL 62 RX6 yX6_bestOffset wsX6_bestOffset) := goodIn_app (goodIn_of _ (by decide +kernel)) ggL_refusesAny_X6_bestOffset
set_option maxRecDepth 20000 in
theorem ggL_refusesAny_X6_thickest : GoodIn wsL_refusesAny wsX6_thickest := goodIn_r _ [375, 214, 11, 215, 216, 217, 7, 218, 219, 104, 105, 30, 106, 59, 28, 29, 31, 32, 12, 13, 14, 220, 221, 222, 223, 224, 225, 69, 70, 71, 226, 227, 228, 108, 109, 110, 80, 81, 82, 229, 230, 231, 232, 112, 113, 114, 233, 234, 235, 236, 56, 57, 58, 237, 238, 239, 240, 241, 242, 243, 244, 245, 246, 247, 248, 249, 250, 251, 252, 253, 254, 255, 256, 257, 258, 259, 260, 261, 336, 337, 338, 339, 27, 262, 263, 264, 265, 266, 267, 268, 420, 421, 422, 423, 424, 425, 431, 437, 438, 439, 440] (by decide +kernel) (by decide +kernel)
set_option maxRecDepth 20000 in
theorem gL_refusesAny_X6_thickest : GoodIn wsL_refusesAny (wsV RL 65 RX6 yX6_thickest wsX6_thickest) := goodIn_app (goodIn_of _ (by decide +kernel)) ggL_refusesAny_X6_thickest
set_option maxRecDepth 20000 in
theorem ggL_refusesAny_X6_save : GoodIn wsL_refusesAny wsX6_save := goodIn_r _ [379, 380, 11, 381, 382, 383, 384, 385, 386, 387, 13, 7, 14, 388, 44, 45, 30, 46, 32, 47, 48, 49, 50, 389, 28, 29, 31, 420, 421, 422, 423, 424, 425, 441, 442, 431] (by decide +kernel) (by decide +kernel)
set_option maxRecDepth 20000 in
theorem gL_refusesAny_X6_save : GoodIn wsL_refusesAny (wsV RL 69 RX6 yX6_save wsX6_save) := goodIn_app (goodIn_of _ (by decide +kernel)) ggL_refusesAny_X6_save
set_option maxRecDepth 20000 in
theorem ggL_refusesAny_X6_restore : GoodIn wsL_refusesAny wsX6_restore := goodIn_r _ [393, 10, 11, 380, 37, 38, 39, 24, 40, 41, 42, 43, 44, 45, 30, 46, 32, 47, 48, 49, 50, 394, 395, 396, 384, 397, 387, 386, 13, 7, 14, 398, 399, 400, 401, 389, 28, 29, 31, 64, 65, 66, 67, 26, 68, 69, 70, 71, 420, 421, 422, 423, 424, 425, 428, 429, 430, 431, 441, 442] (by decide +kernel) (by decide +kernel)
set_option maxRecDepth 20000 in
theorem gL_refusesAny_X6_restore : GoodIn wsL_refusesAny (wsV RL 72 RX6 yX6_restore wsX6_restore) := goodIn_app (goodIn_of _ (by decide +kernel)) ggL_refusesAny_X6_restore
set_option maxRecDepth 20000 in
theorem ggL_refusesAny_X6_put : GoodIn wsL_refusesAny wsX6_put := goodIn_r _ [405, 9, 406, 407, 408, 18, 409, 20, 410, 411, 412, 413, 414, 415, 13, 7, 14, 416, 417, 418, 419, 157, 420, 421, 422, 423, 424, 425, 426, 427] (by decide +kernel) (by decide +kernel)
set_option maxRecDepth 20000 in
theorem gL_refusesAny_X6_put : GoodIn wsL_refusesAny (wsV RL 77 RX6 yX6_put wsX6_put) := goodIn_app (goodIn_of _ (by decide +kernel)) ggL_refusesAny_X6_put
theorem dL_refusesAny_0 : decode cL_refusesAny 0 = .ok (.iload_n 1, 1) := by decide +kernel
theorem dL_refusesAny_1 : decode cL_refusesAny 1 = .ok (.ifCond .ne 7, 3) := by decide +kernel
theorem dL_refusesAny_4 : decode cL_refusesAny 4 = .ok (.iconst (-1), 1) := by decide +kernel
theorem dL_refusesAny_5 : decode cL_refusesAny 5 = .ok (.goto 8, 3) := by decide +kernel
theorem dL_refusesAny_8 : decode cL_refusesAny 8 = .ok (.aload_n 0, 1) := by decide +kernel
theorem dL_refusesAny_9 : decode cL_refusesAny 9 = .ok (.iconst 0, 1) := by decide +kernel
theorem dL_refusesAny_10 : decode cL_refusesAny 10 = .ok (.invokevirtual 13, 3) := by decide +kernel
theorem dL_refusesAny_13 : decode cL_refusesAny 13 = .ok (.istore_n 2, 1) := by decide +kernel
theorem dL_refusesAny_14 : decode cL_refusesAny 14 = .ok (.iload_n 1, 1) := by decide +kernel
theorem dL_refusesAny_15 : decode cL_refusesAny 15 = .ok (.ifCond .ne 7, 3) := by decide +kernel
theorem dL_refusesAny_18 : decode cL_refusesAny 18 = .ok (.iconst (-1), 1) := by decide +kernel
theorem dL_refusesAny_19 : decode cL_refusesAny 19 = .ok (.goto 5, 3) := by decide +kernel
theorem dL_refusesAny_22 : decode cL_refusesAny 22 = .ok (.bipush 24, 2) := by decide +kernel
theorem dL_refusesAny_24 : decode cL_refusesAny 24 = .ok (.istore_n 3, 1) := by decide +kernel
theorem dL_refusesAny_25 : decode cL_refusesAny 25 = .ok (.iload_n 1, 1) := by decide +kernel
theorem dL_refusesAny_26 : decode cL_refusesAny 26 = .ok (.ifCond .ne 7, 3) := by decide +kernel
theorem dL_refusesAny_29 : decode cL_refusesAny 29 = .ok (.iconst (-1), 1) := by decide +kernel
theorem dL_refusesAny_30 : decode cL_refusesAny 30 = .ok (.goto 5, 3) := by decide +kernel
theorem dL_refusesAny_33 : decode cL_refusesAny 33 = .ok (.bipush 31, 2) := by decide +kernel
theorem dL_refusesAny_35 : decode cL_refusesAny 35 = .ok (.istore 4, 2) := by decide +kernel
theorem dL_refusesAny_37 : decode cL_refusesAny 37 = .ok (.aload_n 0, 1) := by decide +kernel
theorem dL_refusesAny_38 : decode cL_refusesAny 38 = .ok (.iload_n 1, 1) := by decide +kernel
theorem dL_refusesAny_39 : decode cL_refusesAny 39 = .ok (.ifCond .ne 7, 3) := by decide +kernel
theorem dL_refusesAny_42 : decode cL_refusesAny 42 = .ok (.iconst (-1), 1) := by decide +kernel
theorem dL_refusesAny_43 : decode cL_refusesAny 43 = .ok (.goto 4, 3) := by decide +kernel
theorem dL_refusesAny_46 : decode cL_refusesAny 46 = .ok (.iconst 3, 1) := by decide +kernel
theorem dL_refusesAny_47 : decode cL_refusesAny 47 = .ok (.iconst 1, 1) := by decide +kernel
theorem dL_refusesAny_48 : decode cL_refusesAny 48 = .ok (.invokevirtual 26, 3) := by decide +kernel
theorem dL_refusesAny_51 : decode cL_refusesAny 51 = .ok (.bipush (-2), 2) := by decide +kernel
theorem dL_refusesAny_53 : decode cL_refusesAny 53 = .ok (.if_icmp .ne 217, 3) := by decide +kernel
theorem dL_refusesAny_56 : decode cL_refusesAny 56 = .ok (.aload_n 0, 1) := by decide +kernel
theorem dL_refusesAny_57 : decode cL_refusesAny 57 = .ok (.iconst 0, 1) := by decide +kernel
theorem dL_refusesAny_58 : decode cL_refusesAny 58 = .ok (.iload_n 1, 1) := by decide +kernel
theorem dL_refusesAny_59 : decode cL_refusesAny 59 = .ok (.ifCond .ne 7, 3) := by decide +kernel
theorem dL_refusesAny_62 : decode cL_refusesAny 62 = .ok (.iconst (-1), 1) := by decide +kernel
theorem dL_refusesAny_63 : decode cL_refusesAny 63 = .ok (.goto 5, 3) := by decide +kernel
theorem dL_refusesAny_66 : decode cL_refusesAny 66 = .ok (.bipush 31, 2) := by decide +kernel
theorem dL_refusesAny_68 : decode cL_refusesAny 68 = .ok (.invokevirtual 26, 3) := by decide +kernel
theorem dL_refusesAny_71 : decode cL_refusesAny 71 = .ok (.bipush (-2), 2) := by decide +kernel
theorem dL_refusesAny_73 : decode cL_refusesAny 73 = .ok (.if_icmp .ne 197, 3) := by decide +kernel
theorem dL_refusesAny_76 : decode cL_refusesAny 76 = .ok (.aload_n 0, 1) := by decide +kernel
theorem dL_refusesAny_77 : decode cL_refusesAny 77 = .ok (.iconst 1, 1) := by decide +kernel
theorem dL_refusesAny_78 : decode cL_refusesAny 78 = .ok (.iload_n 1, 1) := by decide +kernel
theorem dL_refusesAny_79 : decode cL_refusesAny 79 = .ok (.ifCond .ne 7, 3) := by decide +kernel
theorem dL_refusesAny_82 : decode cL_refusesAny 82 = .ok (.iconst (-1), 1) := by decide +kernel
theorem dL_refusesAny_83 : decode cL_refusesAny 83 = .ok (.goto 5, 3) := by decide +kernel
theorem dL_refusesAny_86 : decode cL_refusesAny 86 = .ok (.bipush 31, 2) := by decide +kernel
theorem dL_refusesAny_88 : decode cL_refusesAny 88 = .ok (.invokevirtual 26, 3) := by decide +kernel
theorem dL_refusesAny_91 : decode cL_refusesAny 91 = .ok (.bipush (-2), 2) := by decide +kernel
theorem dL_refusesAny_93 : decode cL_refusesAny 93 = .ok (.if_icmp .ne 177, 3) := by decide +kernel
theorem dL_refusesAny_96 : decode cL_refusesAny 96 = .ok (.aload_n 0, 1) := by decide +kernel
theorem dL_refusesAny_97 : decode cL_refusesAny 97 = .ok (.iconst 2, 1) := by decide +kernel
theorem dL_refusesAny_98 : decode cL_refusesAny 98 = .ok (.iload_n 1, 1) := by decide +kernel
theorem dL_refusesAny_99 : decode cL_refusesAny 99 = .ok (.ifCond .ne 7, 3) := by decide +kernel
theorem dL_refusesAny_102 : decode cL_refusesAny 102 = .ok (.iconst 0, 1) := by decide +kernel
theorem dL_refusesAny_103 : decode cL_refusesAny 103 = .ok (.goto 5, 3) := by decide +kernel
theorem dL_refusesAny_106 : decode cL_refusesAny 106 = .ok (.bipush 100, 2) := by decide +kernel
theorem dL_refusesAny_108 : decode cL_refusesAny 108 = .ok (.invokevirtual 26, 3) := by decide +kernel
theorem dL_refusesAny_111 : decode cL_refusesAny 111 = .ok (.bipush (-2), 2) := by decide +kernel
theorem dL_refusesAny_113 : decode cL_refusesAny 113 = .ok (.if_icmp .ne 157, 3) := by decide +kernel
theorem dL_refusesAny_116 : decode cL_refusesAny 116 = .ok (.aload_n 0, 1) := by decide +kernel
theorem dL_refusesAny_117 : decode cL_refusesAny 117 = .ok (.iload_n 1, 1) := by decide +kernel
theorem dL_refusesAny_118 : decode cL_refusesAny 118 = .ok (.ifCond .ne 7, 3) := by decide +kernel
theorem dL_refusesAny_121 : decode cL_refusesAny 121 = .ok (.iconst 1, 1) := by decide +kernel
theorem dL_refusesAny_122 : decode cL_refusesAny 122 = .ok (.goto 5, 3) := by decide +kernel
theorem dL_refusesAny_125 : decode cL_refusesAny 125 = .ok (.bipush 25, 2) := by decide +kernel
theorem dL_refusesAny_127 : decode cL_refusesAny 127 = .ok (.iconst 0, 1) := by decide +kernel
theorem dL_refusesAny_128 : decode cL_refusesAny 128 = .ok (.invokevirtual 31, 3) := by decide +kernel
theorem dL_refusesAny_131 : decode cL_refusesAny 131 = .ok (.bipush (-2), 2) := by decide +kernel
theorem dL_refusesAny_133 : decode cL_refusesAny 133 = .ok (.if_icmp .ne 137, 3) := by decide +kernel
theorem dL_refusesAny_136 : decode cL_refusesAny 136 = .ok (.aload_n 0, 1) := by decide +kernel
theorem dL_refusesAny_137 : decode cL_refusesAny 137 = .ok (.iconst 2, 1) := by decide +kernel
theorem dL_refusesAny_138 : decode cL_refusesAny 138 = .ok (.iload_n 1, 1) := by decide +kernel
theorem dL_refusesAny_139 : decode cL_refusesAny 139 = .ok (.ifCond .ne 8, 3) := by decide +kernel
theorem dL_refusesAny_142 : decode cL_refusesAny 142 = .ok (.bipush (-10), 2) := by decide +kernel
theorem dL_refusesAny_144 : decode cL_refusesAny 144 = .ok (.goto 5, 3) := by decide +kernel
theorem dL_refusesAny_147 : decode cL_refusesAny 147 = .ok (.bipush 10, 2) := by decide +kernel
theorem dL_refusesAny_149 : decode cL_refusesAny 149 = .ok (.invokevirtual 31, 3) := by decide +kernel
theorem dL_refusesAny_152 : decode cL_refusesAny 152 = .ok (.bipush (-2), 2) := by decide +kernel
theorem dL_refusesAny_154 : decode cL_refusesAny 154 = .ok (.if_icmp .ne 116, 3) := by decide +kernel
theorem dL_refusesAny_157 : decode cL_refusesAny 157 = .ok (.aload_n 0, 1) := by decide +kernel
theorem dL_refusesAny_158 : decode cL_refusesAny 158 = .ok (.iload_n 2, 1) := by decide +kernel
theorem dL_refusesAny_159 : decode cL_refusesAny 159 = .ok (.iconst 0, 1) := by decide +kernel
theorem dL_refusesAny_160 : decode cL_refusesAny 160 = .ok (.bipush 10, 2) := by decide +kernel
theorem dL_refusesAny_162 : decode cL_refusesAny 162 = .ok (.invokevirtual 34, 3) := by decide +kernel
theorem dL_refusesAny_165 : decode cL_refusesAny 165 = .ok (.iconst (-1), 1) := by decide +kernel
theorem dL_refusesAny_166 : decode cL_refusesAny 166 = .ok (.if_icmp .ne 104, 3) := by decide +kernel
theorem dL_refusesAny_169 : decode cL_refusesAny 169 = .ok (.aload_n 0, 1) := by decide +kernel
theorem dL_refusesAny_170 : decode cL_refusesAny 170 = .ok (.iconst 0, 1) := by decide +kernel
theorem dL_refusesAny_171 : decode cL_refusesAny 171 = .ok (.iload_n 1, 1) := by decide +kernel
theorem dL_refusesAny_172 : decode cL_refusesAny 172 = .ok (.ifCond .ne 7, 3) := by decide +kernel
theorem dL_refusesAny_175 : decode cL_refusesAny 175 = .ok (.iconst (-1), 1) := by decide +kernel
theorem dL_refusesAny_176 : decode cL_refusesAny 176 = .ok (.goto 5, 3) := by decide +kernel
theorem dL_refusesAny_179 : decode cL_refusesAny 179 = .ok (.bipush 24, 2) := by decide +kernel
theorem dL_refusesAny_181 : decode cL_refusesAny 181 = .ok (.bipush 10, 2) := by decide +kernel
theorem dL_refusesAny_183 : decode cL_refusesAny 183 = .ok (.invokevirtual 34, 3) := by decide +kernel
theorem dL_refusesAny_186 : decode cL_refusesAny 186 = .ok (.iconst (-1), 1) := by decide +kernel
theorem dL_refusesAny_187 : decode cL_refusesAny 187 = .ok (.if_icmp .ne 83, 3) := by decide +kernel
theorem dL_refusesAny_190 : decode cL_refusesAny 190 = .ok (.aload_n 0, 1) := by decide +kernel
theorem dL_refusesAny_191 : decode cL_refusesAny 191 = .ok (.iconst 0, 1) := by decide +kernel
theorem dL_refusesAny_192 : decode cL_refusesAny 192 = .ok (.iconst 0, 1) := by decide +kernel
theorem dL_refusesAny_193 : decode cL_refusesAny 193 = .ok (.iload_n 1, 1) := by decide +kernel
theorem dL_refusesAny_194 : decode cL_refusesAny 194 = .ok (.ifCond .ne 8, 3) := by decide +kernel
theorem dL_refusesAny_197 : decode cL_refusesAny 197 = .ok (.bipush (-10), 2) := by decide +kernel
theorem dL_refusesAny_199 : decode cL_refusesAny 199 = .ok (.goto 5, 3) := by decide +kernel
theorem dL_refusesAny_202 : decode cL_refusesAny 202 = .ok (.bipush 10, 2) := by decide +kernel
theorem dL_refusesAny_204 : decode cL_refusesAny 204 = .ok (.invokevirtual 34, 3) := by decide +kernel
theorem dL_refusesAny_207 : decode cL_refusesAny 207 = .ok (.bipush (-2), 2) := by decide +kernel
theorem dL_refusesAny_209 : decode cL_refusesAny 209 = .ok (.if_icmp .ne 61, 3) := by decide +kernel
theorem dL_refusesAny_212 : decode cL_refusesAny 212 = .ok (.aload_n 0, 1) := by decide +kernel
theorem dL_refusesAny_213 : decode cL_refusesAny 213 = .ok (.iload_n 2, 1) := by decide +kernel
theorem dL_refusesAny_214 : decode cL_refusesAny 214 = .ok (.invokevirtual 38, 3) := by decide +kernel
theorem dL_refusesAny_217 : decode cL_refusesAny 217 = .ok (.iconst (-1), 1) := by decide +kernel
theorem dL_refusesAny_218 : decode cL_refusesAny 218 = .ok (.if_icmp .ne 52, 3) := by decide +kernel
theorem dL_refusesAny_221 : decode cL_refusesAny 221 = .ok (.aload_n 0, 1) := by decide +kernel
theorem dL_refusesAny_222 : decode cL_refusesAny 222 = .ok (.iload_n 1, 1) := by decide +kernel
theorem dL_refusesAny_223 : decode cL_refusesAny 223 = .ok (.ifCond .ne 7, 3) := by decide +kernel
theorem dL_refusesAny_226 : decode cL_refusesAny 226 = .ok (.iconst 0, 1) := by decide +kernel
theorem dL_refusesAny_227 : decode cL_refusesAny 227 = .ok (.goto 5, 3) := by decide +kernel
theorem dL_refusesAny_230 : decode cL_refusesAny 230 = .ok (.bipush 31, 2) := by decide +kernel
theorem dL_refusesAny_232 : decode cL_refusesAny 232 = .ok (.iconst 0, 1) := by decide +kernel
theorem dL_refusesAny_233 : decode cL_refusesAny 233 = .ok (.invokevirtual 41, 3) := by decide +kernel
theorem dL_refusesAny_236 : decode cL_refusesAny 236 = .ok (.bipush (-2), 2) := by decide +kernel
theorem dL_refusesAny_238 : decode cL_refusesAny 238 = .ok (.if_icmp .ne 32, 3) := by decide +kernel
theorem dL_refusesAny_241 : decode cL_refusesAny 241 = .ok (.aload_n 0, 1) := by decide +kernel
theorem dL_refusesAny_242 : decode cL_refusesAny 242 = .ok (.iconst 1, 1) := by decide +kernel
theorem dL_refusesAny_243 : decode cL_refusesAny 243 = .ok (.iload_n 1, 1) := by decide +kernel
theorem dL_refusesAny_244 : decode cL_refusesAny 244 = .ok (.ifCond .ne 7, 3) := by decide +kernel
theorem dL_refusesAny_247 : decode cL_refusesAny 247 = .ok (.iconst (-1), 1) := by decide +kernel
theorem dL_refusesAny_248 : decode cL_refusesAny 248 = .ok (.goto 5, 3) := by decide +kernel
theorem dL_refusesAny_251 : decode cL_refusesAny 251 = .ok (.bipush 31, 2) := by decide +kernel
theorem dL_refusesAny_253 : decode cL_refusesAny 253 = .ok (.invokevirtual 41, 3) := by decide +kernel
theorem dL_refusesAny_256 : decode cL_refusesAny 256 = .ok (.bipush (-2), 2) := by decide +kernel
theorem dL_refusesAny_258 : decode cL_refusesAny 258 = .ok (.if_icmp .ne 12, 3) := by decide +kernel
theorem dL_refusesAny_261 : decode cL_refusesAny 261 = .ok (.aload_n 0, 1) := by decide +kernel
theorem dL_refusesAny_262 : decode cL_refusesAny 262 = .ok (.invokevirtual 44, 3) := by decide +kernel
theorem dL_refusesAny_265 : decode cL_refusesAny 265 = .ok (.bipush (-3), 2) := by decide +kernel
theorem dL_refusesAny_267 : decode cL_refusesAny 267 = .ok (.if_icmp .eq 5, 3) := by decide +kernel
theorem dL_refusesAny_270 : decode cL_refusesAny 270 = .ok (.iconst 0, 1) := by decide +kernel
theorem dL_refusesAny_271 : decode cL_refusesAny 271 = .ok (.ireturn, 1) := by decide +kernel
theorem dL_refusesAny_272 : decode cL_refusesAny 272 = .ok (.aload_n 0, 1) := by decide +kernel
theorem dL_refusesAny_273 : decode cL_refusesAny 273 = .ok (.iload_n 2, 1) := by decide +kernel
theorem dL_refusesAny_274 : decode cL_refusesAny 274 = .ok (.iconst 0, 1) := by decide +kernel
theorem dL_refusesAny_275 : decode cL_refusesAny 275 = .ok (.bipush 24, 2) := by decide +kernel
theorem dL_refusesAny_277 : decode cL_refusesAny 277 = .ok (.iconst 0, 1) := by decide +kernel
theorem dL_refusesAny_278 : decode cL_refusesAny 278 = .ok (.iconst 1, 1) := by decide +kernel
theorem dL_refusesAny_279 : decode cL_refusesAny 279 = .ok (.iconst 1, 1) := by decide +kernel
theorem dL_refusesAny_280 : decode cL_refusesAny 280 = .ok (.invokevirtual 48, 3) := by decide +kernel
theorem dL_refusesAny_283 : decode cL_refusesAny 283 = .ok (.iconst (-1), 1) := by decide +kernel
theorem dL_refusesAny_284 : decode cL_refusesAny 284 = .ok (.if_icmp .ne 192, 3) := by decide +kernel
theorem dL_refusesAny_287 : decode cL_refusesAny 287 = .ok (.aload_n 0, 1) := by decide +kernel
theorem dL_refusesAny_288 : decode cL_refusesAny 288 = .ok (.iconst 0, 1) := by decide +kernel
theorem dL_refusesAny_289 : decode cL_refusesAny 289 = .ok (.iload_n 2, 1) := by decide +kernel
theorem dL_refusesAny_290 : decode cL_refusesAny 290 = .ok (.bipush 24, 2) := by decide +kernel
theorem dL_refusesAny_292 : decode cL_refusesAny 292 = .ok (.iconst 0, 1) := by decide +kernel
theorem dL_refusesAny_293 : decode cL_refusesAny 293 = .ok (.iconst 1, 1) := by decide +kernel
theorem dL_refusesAny_294 : decode cL_refusesAny 294 = .ok (.iconst 1, 1) := by decide +kernel
theorem dL_refusesAny_295 : decode cL_refusesAny 295 = .ok (.invokevirtual 48, 3) := by decide +kernel
theorem dL_refusesAny_298 : decode cL_refusesAny 298 = .ok (.iconst (-1), 1) := by decide +kernel
theorem dL_refusesAny_299 : decode cL_refusesAny 299 = .ok (.if_icmp .ne 177, 3) := by decide +kernel
theorem dL_refusesAny_302 : decode cL_refusesAny 302 = .ok (.aload_n 0, 1) := by decide +kernel
theorem dL_refusesAny_303 : decode cL_refusesAny 303 = .ok (.iconst 0, 1) := by decide +kernel
theorem dL_refusesAny_304 : decode cL_refusesAny 304 = .ok (.iconst 1, 1) := by decide +kernel
theorem dL_refusesAny_305 : decode cL_refusesAny 305 = .ok (.iload_n 3, 1) := by decide +kernel
theorem dL_refusesAny_306 : decode cL_refusesAny 306 = .ok (.iconst 0, 1) := by decide +kernel
theorem dL_refusesAny_307 : decode cL_refusesAny 307 = .ok (.iconst 1, 1) := by decide +kernel
theorem dL_refusesAny_308 : decode cL_refusesAny 308 = .ok (.iconst 1, 1) := by decide +kernel
theorem dL_refusesAny_309 : decode cL_refusesAny 309 = .ok (.invokevirtual 48, 3) := by decide +kernel
theorem dL_refusesAny_312 : decode cL_refusesAny 312 = .ok (.bipush (-2), 2) := by decide +kernel
theorem dL_refusesAny_314 : decode cL_refusesAny 314 = .ok (.if_icmp .ne 162, 3) := by decide +kernel
theorem dL_refusesAny_317 : decode cL_refusesAny 317 = .ok (.aload_n 0, 1) := by decide +kernel
theorem dL_refusesAny_318 : decode cL_refusesAny 318 = .ok (.iconst 0, 1) := by decide +kernel
theorem dL_refusesAny_319 : decode cL_refusesAny 319 = .ok (.iconst 1, 1) := by decide +kernel
theorem dL_refusesAny_320 : decode cL_refusesAny 320 = .ok (.iconst 0, 1) := by decide +kernel
theorem dL_refusesAny_321 : decode cL_refusesAny 321 = .ok (.iload 4, 2) := by decide +kernel
theorem dL_refusesAny_323 : decode cL_refusesAny 323 = .ok (.iconst 1, 1) := by decide +kernel
theorem dL_refusesAny_324 : decode cL_refusesAny 324 = .ok (.iconst 1, 1) := by decide +kernel
theorem dL_refusesAny_325 : decode cL_refusesAny 325 = .ok (.invokevirtual 48, 3) := by decide +kernel
theorem dL_refusesAny_328 : decode cL_refusesAny 328 = .ok (.bipush (-2), 2) := by decide +kernel
theorem dL_refusesAny_330 : decode cL_refusesAny 330 = .ok (.if_icmp .ne 146, 3) := by decide +kernel
theorem dL_refusesAny_333 : decode cL_refusesAny 333 = .ok (.aload_n 0, 1) := by decide +kernel
theorem dL_refusesAny_334 : decode cL_refusesAny 334 = .ok (.iconst 0, 1) := by decide +kernel
theorem dL_refusesAny_335 : decode cL_refusesAny 335 = .ok (.iconst 1, 1) := by decide +kernel
theorem dL_refusesAny_336 : decode cL_refusesAny 336 = .ok (.iconst 0, 1) := by decide +kernel
theorem dL_refusesAny_337 : decode cL_refusesAny 337 = .ok (.iconst 0, 1) := by decide +kernel
theorem dL_refusesAny_338 : decode cL_refusesAny 338 = .ok (.iload_n 1, 1) := by decide +kernel
theorem dL_refusesAny_339 : decode cL_refusesAny 339 = .ok (.ifCond .ne 7, 3) := by decide +kernel
theorem dL_refusesAny_342 : decode cL_refusesAny 342 = .ok (.iconst 0, 1) := by decide +kernel
theorem dL_refusesAny_343 : decode cL_refusesAny 343 = .ok (.goto 5, 3) := by decide +kernel
theorem dL_refusesAny_346 : decode cL_refusesAny 346 = .ok (.bipush 100, 2) := by decide +kernel
theorem dL_refusesAny_348 : decode cL_refusesAny 348 = .ok (.iconst 1, 1) := by decide +kernel
theorem dL_refusesAny_349 : decode cL_refusesAny 349 = .ok (.invokevirtual 48, 3) := by decide +kernel
theorem dL_refusesAny_352 : decode cL_refusesAny 352 = .ok (.bipush (-2), 2) := by decide +kernel
theorem dL_refusesAny_354 : decode cL_refusesAny 354 = .ok (.if_icmp .ne 122, 3) := by decide +kernel
theorem dL_refusesAny_357 : decode cL_refusesAny 357 = .ok (.aload_n 0, 1) := by decide +kernel
theorem dL_refusesAny_358 : decode cL_refusesAny 358 = .ok (.iconst 0, 1) := by decide +kernel
theorem dL_refusesAny_359 : decode cL_refusesAny 359 = .ok (.iconst 1, 1) := by decide +kernel
theorem dL_refusesAny_360 : decode cL_refusesAny 360 = .ok (.iconst 0, 1) := by decide +kernel
theorem dL_refusesAny_361 : decode cL_refusesAny 361 = .ok (.iconst 0, 1) := by decide +kernel
theorem dL_refusesAny_362 : decode cL_refusesAny 362 = .ok (.iconst 1, 1) := by decide +kernel
theorem dL_refusesAny_363 : decode cL_refusesAny 363 = .ok (.iload_n 1, 1) := by decide +kernel
theorem dL_refusesAny_364 : decode cL_refusesAny 364 = .ok (.ifCond .ne 7, 3) := by decide +kernel
theorem dL_refusesAny_367 : decode cL_refusesAny 367 = .ok (.iconst 0, 1) := by decide +kernel
theorem dL_refusesAny_368 : decode cL_refusesAny 368 = .ok (.goto 5, 3) := by decide +kernel
theorem dL_refusesAny_371 : decode cL_refusesAny 371 = .ok (.bipush 100, 2) := by decide +kernel
theorem dL_refusesAny_373 : decode cL_refusesAny 373 = .ok (.invokevirtual 48, 3) := by decide +kernel
theorem dL_refusesAny_376 : decode cL_refusesAny 376 = .ok (.bipush (-2), 2) := by decide +kernel
theorem dL_refusesAny_378 : decode cL_refusesAny 378 = .ok (.if_icmp .ne 98, 3) := by decide +kernel
theorem dL_refusesAny_381 : decode cL_refusesAny 381 = .ok (.aload_n 0, 1) := by decide +kernel
theorem dL_refusesAny_382 : decode cL_refusesAny 382 = .ok (.iconst 1, 1) := by decide +kernel
theorem dL_refusesAny_383 : decode cL_refusesAny 383 = .ok (.iconst 1, 1) := by decide +kernel
theorem dL_refusesAny_384 : decode cL_refusesAny 384 = .ok (.iconst 0, 1) := by decide +kernel
theorem dL_refusesAny_385 : decode cL_refusesAny 385 = .ok (.bipush 30, 2) := by decide +kernel
theorem dL_refusesAny_387 : decode cL_refusesAny 387 = .ok (.iconst 1, 1) := by decide +kernel
theorem dL_refusesAny_388 : decode cL_refusesAny 388 = .ok (.iconst 1, 1) := by decide +kernel
theorem dL_refusesAny_389 : decode cL_refusesAny 389 = .ok (.invokevirtual 48, 3) := by decide +kernel
theorem dL_refusesAny_392 : decode cL_refusesAny 392 = .ok (.bipush (-2), 2) := by decide +kernel
theorem dL_refusesAny_394 : decode cL_refusesAny 394 = .ok (.if_icmp .ne 82, 3) := by decide +kernel
theorem dL_refusesAny_397 : decode cL_refusesAny 397 = .ok (.aload_n 0, 1) := by decide +kernel
theorem dL_refusesAny_398 : decode cL_refusesAny 398 = .ok (.iload_n 2, 1) := by decide +kernel
theorem dL_refusesAny_399 : decode cL_refusesAny 399 = .ok (.bipush 9, 2) := by decide +kernel
theorem dL_refusesAny_401 : decode cL_refusesAny 401 = .ok (.invokevirtual 19, 3) := by decide +kernel
theorem dL_refusesAny_404 : decode cL_refusesAny 404 = .ok (.iconst (-1), 1) := by decide +kernel
theorem dL_refusesAny_405 : decode cL_refusesAny 405 = .ok (.if_icmp .ne 71, 3) := by decide +kernel
theorem dL_refusesAny_408 : decode cL_refusesAny 408 = .ok (.aload_n 0, 1) := by decide +kernel
theorem dL_refusesAny_409 : decode cL_refusesAny 409 = .ok (.iconst 0, 1) := by decide +kernel
theorem dL_refusesAny_410 : decode cL_refusesAny 410 = .ok (.iload_n 1, 1) := by decide +kernel
theorem dL_refusesAny_411 : decode cL_refusesAny 411 = .ok (.ifCond .ne 7, 3) := by decide +kernel
theorem dL_refusesAny_414 : decode cL_refusesAny 414 = .ok (.iconst (-1), 1) := by decide +kernel
theorem dL_refusesAny_415 : decode cL_refusesAny 415 = .ok (.goto 5, 3) := by decide +kernel
theorem dL_refusesAny_418 : decode cL_refusesAny 418 = .ok (.bipush 7, 2) := by decide +kernel
theorem dL_refusesAny_420 : decode cL_refusesAny 420 = .ok (.invokevirtual 19, 3) := by decide +kernel
theorem dL_refusesAny_423 : decode cL_refusesAny 423 = .ok (.bipush (-2), 2) := by decide +kernel
theorem dL_refusesAny_425 : decode cL_refusesAny 425 = .ok (.if_icmp .ne 51, 3) := by decide +kernel
theorem dL_refusesAny_428 : decode cL_refusesAny 428 = .ok (.aload_n 0, 1) := by decide +kernel
theorem dL_refusesAny_429 : decode cL_refusesAny 429 = .ok (.iload_n 2, 1) := by decide +kernel
theorem dL_refusesAny_430 : decode cL_refusesAny 430 = .ok (.iconst 0, 1) := by decide +kernel
theorem dL_refusesAny_431 : decode cL_refusesAny 431 = .ok (.invokevirtual 23, 3) := by decide +kernel
theorem dL_refusesAny_434 : decode cL_refusesAny 434 = .ok (.iconst (-1), 1) := by decide +kernel
theorem dL_refusesAny_435 : decode cL_refusesAny 435 = .ok (.if_icmp .ne 41, 3) := by decide +kernel
theorem dL_refusesAny_438 : decode cL_refusesAny 438 = .ok (.aload_n 0, 1) := by decide +kernel
theorem dL_refusesAny_439 : decode cL_refusesAny 439 = .ok (.iconst 0, 1) := by decide +kernel
theorem dL_refusesAny_440 : decode cL_refusesAny 440 = .ok (.iload_n 1, 1) := by decide +kernel
theorem dL_refusesAny_441 : decode cL_refusesAny 441 = .ok (.ifCond .ne 7, 3) := by decide +kernel
theorem dL_refusesAny_444 : decode cL_refusesAny 444 = .ok (.iconst (-1), 1) := by decide +kernel
theorem dL_refusesAny_445 : decode cL_refusesAny 445 = .ok (.goto 5, 3) := by decide +kernel
theorem dL_refusesAny_448 : decode cL_refusesAny 448 = .ok (.bipush 24, 2) := by decide +kernel
theorem dL_refusesAny_450 : decode cL_refusesAny 450 = .ok (.invokevirtual 23, 3) := by decide +kernel
theorem dL_refusesAny_453 : decode cL_refusesAny 453 = .ok (.iconst (-1), 1) := by decide +kernel
theorem dL_refusesAny_454 : decode cL_refusesAny 454 = .ok (.if_icmp .ne 22, 3) := by decide +kernel
theorem dL_refusesAny_457 : decode cL_refusesAny 457 = .ok (.aload_n 0, 1) := by decide +kernel
theorem dL_refusesAny_458 : decode cL_refusesAny 458 = .ok (.iload_n 1, 1) := by decide +kernel
theorem dL_refusesAny_459 : decode cL_refusesAny 459 = .ok (.ifCond .ne 7, 3) := by decide +kernel
theorem dL_refusesAny_462 : decode cL_refusesAny 462 = .ok (.iconst (-1), 1) := by decide +kernel
theorem dL_refusesAny_463 : decode cL_refusesAny 463 = .ok (.goto 5, 3) := by decide +kernel
theorem dL_refusesAny_466 : decode cL_refusesAny 466 = .ok (.bipush 11, 2) := by decide +kernel
theorem dL_refusesAny_468 : decode cL_refusesAny 468 = .ok (.invokevirtual 13, 3) := by decide +kernel
theorem dL_refusesAny_471 : decode cL_refusesAny 471 = .ok (.bipush (-2), 2) := by decide +kernel
theorem dL_refusesAny_473 : decode cL_refusesAny 473 = .ok (.if_icmp .eq 5, 3) := by decide +kernel
theorem dL_refusesAny_476 : decode cL_refusesAny 476 = .ok (.iconst 0, 1) := by decide +kernel
theorem dL_refusesAny_477 : decode cL_refusesAny 477 = .ok (.ireturn, 1) := by decide +kernel
theorem dL_refusesAny_478 : decode cL_refusesAny 478 = .ok (.aload_n 0, 1) := by decide +kernel
theorem dL_refusesAny_479 : decode cL_refusesAny 479 = .ok (.iload_n 2, 1) := by decide +kernel
theorem dL_refusesAny_480 : decode cL_refusesAny 480 = .ok (.iconst 0, 1) := by decide +kernel
theorem dL_refusesAny_481 : decode cL_refusesAny 481 = .ok (.iconst 0, 1) := by decide +kernel
theorem dL_refusesAny_482 : decode cL_refusesAny 482 = .ok (.iconst 0, 1) := by decide +kernel
theorem dL_refusesAny_483 : decode cL_refusesAny 483 = .ok (.bipush 9, 2) := by decide +kernel
theorem dL_refusesAny_485 : decode cL_refusesAny 485 = .ok (.invokevirtual 52, 3) := by decide +kernel
theorem dL_refusesAny_488 : decode cL_refusesAny 488 = .ok (.iconst (-1), 1) := by decide +kernel
theorem dL_refusesAny_489 : decode cL_refusesAny 489 = .ok (.if_icmp .ne 210, 3) := by decide +kernel
theorem dL_refusesAny_492 : decode cL_refusesAny 492 = .ok (.aload_n 0, 1) := by decide +kernel
theorem dL_refusesAny_493 : decode cL_refusesAny 493 = .ok (.iconst 0, 1) := by decide +kernel
theorem dL_refusesAny_494 : decode cL_refusesAny 494 = .ok (.iconst 1, 1) := by decide +kernel
theorem dL_refusesAny_495 : decode cL_refusesAny 495 = .ok (.iload_n 3, 1) := by decide +kernel
theorem dL_refusesAny_496 : decode cL_refusesAny 496 = .ok (.iconst 0, 1) := by decide +kernel
theorem dL_refusesAny_497 : decode cL_refusesAny 497 = .ok (.iconst 0, 1) := by decide +kernel
theorem dL_refusesAny_498 : decode cL_refusesAny 498 = .ok (.invokevirtual 52, 3) := by decide +kernel
theorem dL_refusesAny_501 : decode cL_refusesAny 501 = .ok (.bipush (-2), 2) := by decide +kernel
theorem dL_refusesAny_503 : decode cL_refusesAny 503 = .ok (.if_icmp .ne 196, 3) := by decide +kernel
theorem dL_refusesAny_506 : decode cL_refusesAny 506 = .ok (.aload_n 0, 1) := by decide +kernel
theorem dL_refusesAny_507 : decode cL_refusesAny 507 = .ok (.iconst 0, 1) := by decide +kernel
theorem dL_refusesAny_508 : decode cL_refusesAny 508 = .ok (.iconst 1, 1) := by decide +kernel
theorem dL_refusesAny_509 : decode cL_refusesAny 509 = .ok (.iconst 0, 1) := by decide +kernel
theorem dL_refusesAny_510 : decode cL_refusesAny 510 = .ok (.iload 4, 2) := by decide +kernel
theorem dL_refusesAny_512 : decode cL_refusesAny 512 = .ok (.iconst 0, 1) := by decide +kernel
theorem dL_refusesAny_513 : decode cL_refusesAny 513 = .ok (.invokevirtual 52, 3) := by decide +kernel
theorem dL_refusesAny_516 : decode cL_refusesAny 516 = .ok (.bipush (-2), 2) := by decide +kernel
theorem dL_refusesAny_518 : decode cL_refusesAny 518 = .ok (.if_icmp .ne 181, 3) := by decide +kernel
theorem dL_refusesAny_521 : decode cL_refusesAny 521 = .ok (.aload_n 0, 1) := by decide +kernel
theorem dL_refusesAny_522 : decode cL_refusesAny 522 = .ok (.iconst 0, 1) := by decide +kernel
theorem dL_refusesAny_523 : decode cL_refusesAny 523 = .ok (.iconst 1, 1) := by decide +kernel
theorem dL_refusesAny_524 : decode cL_refusesAny 524 = .ok (.iconst 0, 1) := by decide +kernel
theorem dL_refusesAny_525 : decode cL_refusesAny 525 = .ok (.iconst 0, 1) := by decide +kernel
theorem dL_refusesAny_526 : decode cL_refusesAny 526 = .ok (.iload_n 1, 1) := by decide +kernel
theorem dL_refusesAny_527 : decode cL_refusesAny 527 = .ok (.ifCond .ne 7, 3) := by decide +kernel
theorem dL_refusesAny_530 : decode cL_refusesAny 530 = .ok (.iconst (-1), 1) := by decide +kernel
theorem dL_refusesAny_531 : decode cL_refusesAny 531 = .ok (.goto 4, 3) := by decide +kernel
theorem dL_refusesAny_534 : decode cL_refusesAny 534 = .ok (.iconst 4, 1) := by decide +kernel
theorem dL_refusesAny_535 : decode cL_refusesAny 535 = .ok (.invokevirtual 52, 3) := by decide +kernel
theorem dL_refusesAny_538 : decode cL_refusesAny 538 = .ok (.bipush (-2), 2) := by decide +kernel
theorem dL_refusesAny_540 : decode cL_refusesAny 540 = .ok (.if_icmp .ne 159, 3) := by decide +kernel
theorem dL_refusesAny_543 : decode cL_refusesAny 543 = .ok (.aload_n 0, 1) := by decide +kernel
theorem dL_refusesAny_544 : decode cL_refusesAny 544 = .ok (.iconst 0, 1) := by decide +kernel
theorem dL_refusesAny_545 : decode cL_refusesAny 545 = .ok (.iconst 0, 1) := by decide +kernel
theorem dL_refusesAny_546 : decode cL_refusesAny 546 = .ok (.iconst 0, 1) := by decide +kernel
theorem dL_refusesAny_547 : decode cL_refusesAny 547 = .ok (.iconst 0, 1) := by decide +kernel
theorem dL_refusesAny_548 : decode cL_refusesAny 548 = .ok (.iconst 0, 1) := by decide +kernel
theorem dL_refusesAny_549 : decode cL_refusesAny 549 = .ok (.invokevirtual 52, 3) := by decide +kernel
theorem dL_refusesAny_552 : decode cL_refusesAny 552 = .ok (.bipush (-2), 2) := by decide +kernel
theorem dL_refusesAny_554 : decode cL_refusesAny 554 = .ok (.if_icmp .ne 145, 3) := by decide +kernel
theorem dL_refusesAny_557 : decode cL_refusesAny 557 = .ok (.aload_n 0, 1) := by decide +kernel
theorem dL_refusesAny_558 : decode cL_refusesAny 558 = .ok (.iconst 0, 1) := by decide +kernel
theorem dL_refusesAny_559 : decode cL_refusesAny 559 = .ok (.iload_n 2, 1) := by decide +kernel
theorem dL_refusesAny_560 : decode cL_refusesAny 560 = .ok (.iconst 0, 1) := by decide +kernel
theorem dL_refusesAny_561 : decode cL_refusesAny 561 = .ok (.iconst 0, 1) := by decide +kernel
theorem dL_refusesAny_562 : decode cL_refusesAny 562 = .ok (.bipush 9, 2) := by decide +kernel
theorem dL_refusesAny_564 : decode cL_refusesAny 564 = .ok (.invokevirtual 56, 3) := by decide +kernel
theorem dL_refusesAny_567 : decode cL_refusesAny 567 = .ok (.iconst (-1), 1) := by decide +kernel
theorem dL_refusesAny_568 : decode cL_refusesAny 568 = .ok (.if_icmp .ne 131, 3) := by decide +kernel
theorem dL_refusesAny_571 : decode cL_refusesAny 571 = .ok (.aload_n 0, 1) := by decide +kernel
theorem dL_refusesAny_572 : decode cL_refusesAny 572 = .ok (.iconst 0, 1) := by decide +kernel
theorem dL_refusesAny_573 : decode cL_refusesAny 573 = .ok (.iconst 1, 1) := by decide +kernel
theorem dL_refusesAny_574 : decode cL_refusesAny 574 = .ok (.iconst 0, 1) := by decide +kernel
theorem dL_refusesAny_575 : decode cL_refusesAny 575 = .ok (.iconst 0, 1) := by decide +kernel
theorem dL_refusesAny_576 : decode cL_refusesAny 576 = .ok (.iload_n 1, 1) := by decide +kernel
theorem dL_refusesAny_577 : decode cL_refusesAny 577 = .ok (.ifCond .ne 7, 3) := by decide +kernel
theorem dL_refusesAny_580 : decode cL_refusesAny 580 = .ok (.iconst (-1), 1) := by decide +kernel
theorem dL_refusesAny_581 : decode cL_refusesAny 581 = .ok (.goto 4, 3) := by decide +kernel
theorem dL_refusesAny_584 : decode cL_refusesAny 584 = .ok (.iconst 2, 1) := by decide +kernel
theorem dL_refusesAny_585 : decode cL_refusesAny 585 = .ok (.invokevirtual 56, 3) := by decide +kernel
theorem dL_refusesAny_588 : decode cL_refusesAny 588 = .ok (.bipush (-2), 2) := by decide +kernel
theorem dL_refusesAny_590 : decode cL_refusesAny 590 = .ok (.if_icmp .ne 109, 3) := by decide +kernel
theorem dL_refusesAny_593 : decode cL_refusesAny 593 = .ok (.aload_n 0, 1) := by decide +kernel
theorem dL_refusesAny_594 : decode cL_refusesAny 594 = .ok (.iconst 0, 1) := by decide +kernel
theorem dL_refusesAny_595 : decode cL_refusesAny 595 = .ok (.iconst 1, 1) := by decide +kernel
theorem dL_refusesAny_596 : decode cL_refusesAny 596 = .ok (.iload_n 3, 1) := by decide +kernel
theorem dL_refusesAny_597 : decode cL_refusesAny 597 = .ok (.iconst 0, 1) := by decide +kernel
