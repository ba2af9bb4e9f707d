theorem dX6_bestOffset_14 : decode cX6_bestOffset 14 = .ok (.ifCond .eq 6, 3) := by decide +kernel
theorem dX6_bestOffset_17 : decode cX6_bestOffset 17 = .ok (.iload 4, 2) := by decide +kernel
theorem dX6_bestOffset_19 : decode cX6_bestOffset 19 = .ok (.ireturn, 1) := by decide +kernel
theorem dX6_bestOffset_20 : decode cX6_bestOffset 20 = .ok (.bipush (-6), 2) := by decide +kernel
theorem dX6_bestOffset_22 : decode cX6_bestOffset 22 = .ok (.istore 5, 2) := by decide +kernel
theorem dX6_bestOffset_24 : decode cX6_bestOffset 24 = .ok (.bipush (-6), 2) := by decide +kernel
theorem dX6_bestOffset_26 : decode cX6_bestOffset 26 = .ok (.istore 6, 2) := by decide +kernel
theorem dX6_bestOffset_28 : decode cX6_bestOffset 28 = .ok (.aload_n 0, 1) := by decide +kernel
theorem dX6_bestOffset_29 : decode cX6_bestOffset 29 = .ok (.getfield 10, 3) := by decide +kernel
theorem dX6_bestOffset_32 : decode cX6_bestOffset 32 = .ok (.iload_n 2, 1) := by decide +kernel
theorem dX6_bestOffset_33 : decode cX6_bestOffset 33 = .ok (.invokevirtual 126, 3) := by decide +kernel
theorem dX6_bestOffset_36 : decode cX6_bestOffset 36 = .ok (.bipush 24, 2) := by decide +kernel
theorem dX6_bestOffset_38 : decode cX6_bestOffset 38 = .ok (.invokestatic 174, 3) := by decide +kernel
theorem dX6_bestOffset_41 : decode cX6_bestOffset 41 = .ok (.istore 7, 2) := by decide +kernel
theorem dX6_bestOffset_43 : decode cX6_bestOffset 43 = .ok (.iconst 0, 1) := by decide +kernel
theorem dX6_bestOffset_44 : decode cX6_bestOffset 44 = .ok (.istore 8, 2) := by decide +kernel
theorem dX6_bestOffset_46 : decode cX6_bestOffset 46 = .ok (.iload 8, 2) := by decide +kernel
theorem dX6_bestOffset_48 : decode cX6_bestOffset 48 = .ok (.iload 7, 2) := by decide +kernel
theorem dX6_bestOffset_50 : decode cX6_bestOffset 50 = .ok (.if_icmp .ge 48, 3) := by decide +kernel
theorem dX6_bestOffset_53 : decode cX6_bestOffset 53 = .ok (.aload_n 0, 1) := by decide +kernel
theorem dX6_bestOffset_54 : decode cX6_bestOffset 54 = .ok (.iload_n 1, 1) := by decide +kernel
theorem dX6_bestOffset_55 : decode cX6_bestOffset 55 = .ok (.iload_n 2, 1) := by decide +kernel
theorem dX6_bestOffset_56 : decode cX6_bestOffset 56 = .ok (.iload 8, 2) := by decide +kernel
theorem dX6_bestOffset_58 : decode cX6_bestOffset 58 = .ok (.invokevirtual 171, 3) := by decide +kernel
theorem dX6_bestOffset_61 : decode cX6_bestOffset 61 = .ok (.istore 9, 2) := by decide +kernel
theorem dX6_bestOffset_63 : decode cX6_bestOffset 63 = .ok (.iload 9, 2) := by decide +kernel
theorem dX6_bestOffset_65 : decode cX6_bestOffset 65 = .ok (.bipush (-6), 2) := by decide +kernel
theorem dX6_bestOffset_67 : decode cX6_bestOffset 67 = .ok (.if_icmp .eq 25, 3) := by decide +kernel
theorem dX6_bestOffset_70 : decode cX6_bestOffset 70 = .ok (.iload 6, 2) := by decide +kernel
theorem dX6_bestOffset_72 : decode cX6_bestOffset 72 = .ok (.bipush (-6), 2) := by decide +kernel
theorem dX6_bestOffset_74 : decode cX6_bestOffset 74 = .ok (.if_icmp .eq 10, 3) := by decide +kernel
theorem dX6_bestOffset_77 : decode cX6_bestOffset 77 = .ok (.iload 9, 2) := by decide +kernel
theorem dX6_bestOffset_79 : decode cX6_bestOffset 79 = .ok (.iload 6, 2) := by decide +kernel
theorem dX6_bestOffset_81 : decode cX6_bestOffset 81 = .ok (.if_icmp .ge 11, 3) := by decide +kernel
theorem dX6_bestOffset_84 : decode cX6_bestOffset 84 = .ok (.iload 8, 2) := by decide +kernel
theorem dX6_bestOffset_86 : decode cX6_bestOffset 86 = .ok (.istore 5, 2) := by decide +kernel
theorem dX6_bestOffset_88 : decode cX6_bestOffset 88 = .ok (.iload 9, 2) := by decide +kernel
theorem dX6_bestOffset_90 : decode cX6_bestOffset 90 = .ok (.istore 6, 2) := by decide +kernel
theorem dX6_bestOffset_92 : decode cX6_bestOffset 92 = .ok (.iinc 8 1, 3) := by decide +kernel
theorem dX6_bestOffset_95 : decode cX6_bestOffset 95 = .ok (.goto (-49), 3) := by decide +kernel
theorem dX6_bestOffset_98 : decode cX6_bestOffset 98 = .ok (.iload_n 3, 1) := by decide +kernel
theorem dX6_bestOffset_99 : decode cX6_bestOffset 99 = .ok (.ifCond .ne 8, 3) := by decide +kernel
theorem dX6_bestOffset_102 : decode cX6_bestOffset 102 = .ok (.iload 5, 2) := by decide +kernel
theorem dX6_bestOffset_104 : decode cX6_bestOffset 104 = .ok (.goto 5, 3) := by decide +kernel
theorem dX6_bestOffset_107 : decode cX6_bestOffset 107 = .ok (.iload 6, 2) := by decide +kernel
theorem dX6_bestOffset_109 : decode cX6_bestOffset 109 = .ok (.ireturn, 1) := by decide +kernel
set_option maxRecDepth 20000 in
theorem ggX6_thickest_X6_pairError : GoodIn wsX6_thickest wsX6_pairError := goodIn_r _ [7, 2, 8, 9, 10, 11, 12, 13, 14, 15, 16, 17, 18, 19, 6, 20, 90, 91, 92, 93, 94, 95, 96] (by decide +kernel) (by decide +kernel)
set_option maxRecDepth 20000 in
theorem gX6_thickest_X6_pairError : GoodIn wsX6_thickest (wsV RX6 82 RX6 yX6_pairError wsX6_pairError) := goodIn_app (goodIn_of _ (by decide +kernel)) ggX6_thickest_X6_pairError
set_option maxRecDepth 20000 in
theorem ggX6_thickest_X5_lay : GoodIn wsX6_thickest wsX5_lay := goodIn_r _ [25, 26, 27, 28, 29, 30, 31, 32, 33, 34, 11, 35, 36, 37, 38, 13, 14, 15, 16, 17, 39, 40, 24, 41, 42, 43, 44, 45, 46, 47, 48, 97, 98, 99, 100, 96] (by decide +kernel) (by decide +kernel)
set_option maxRecDepth 20000 in
theorem gX6_thickest_X5_lay : GoodIn wsX6_thickest (wsV RX6 90 RX5 yX5_lay wsX5_lay) := goodIn_app (goodIn_of _ (by decide +kernel)) ggX6_thickest_X5_lay
set_option maxRecDepth 20000 in
theorem ggX6_thickest_X3_setting : GoodIn wsX6_thickest wsX3_setting := goodIn_r _ [52, 13, 14, 15, 11, 16, 17, 96] (by decide +kernel) (by decide +kernel)
set_option maxRecDepth 20000 in
theorem gX6_thickest_X3_setting : GoodIn wsX6_thickest (wsV RX6 94 RX3 yX3_setting wsX3_setting) := goodIn_app (goodIn_of _ (by decide +kernel)) ggX6_thickest_X3_setting
set_option maxRecDepth 20000 in
theorem ggX6_thickest_X5_meshes : GoodIn wsX6_thickest wsX5_meshes := goodIn_r _ [56, 57, 58, 59, 24, 60, 30, 61, 62, 63, 64, 31, 65, 66, 67, 68, 69, 70, 28, 71, 97, 98, 99, 100] (by decide +kernel) (by decide +kernel)
set_option maxRecDepth 20000 in
theorem gX6_thickest_X5_meshes : GoodIn wsX6_thickest (wsV RX6 97 RX5 yX5_meshes wsX5_meshes) := goodIn_app (goodIn_of _ (by decide +kernel)) ggX6_thickest_X5_meshes
set_option maxRecDepth 20000 in
theorem ggX6_thickest_X5_begin : GoodIn wsX6_thickest wsX5_begin := goodIn_r _ [75, 76, 77, 97, 98, 99, 100] (by decide +kernel) (by decide +kernel)
set_option maxRecDepth 20000 in
theorem gX6_thickest_X5_begin : GoodIn wsX6_thickest (wsV RX6 101 RX5 yX5_begin wsX5_begin) := goodIn_app (goodIn_of _ (by decide +kernel)) ggX6_thickest_X5_begin
set_option maxRecDepth 20000 in
theorem ggX6_thickest_X5_length : GoodIn wsX6_thickest wsX5_length := goodIn_r _ [81, 30, 97, 98, 99, 100] (by decide +kernel) (by decide +kernel)
set_option maxRecDepth 20000 in
theorem gX6_thickest_X5_length : GoodIn wsX6_thickest (wsV RX6 158 RX5 yX5_length wsX5_length) := goodIn_app (goodIn_of _ (by decide +kernel)) ggX6_thickest_X5_length
set_option maxRecDepth 20000 in
theorem ggX6_thickest_X3_cell : GoodIn wsX6_thickest wsX3_cell := goodIn_r _ [16, 17, 96] (by decide +kernel) (by decide +kernel)
set_option maxRecDepth 20000 in
theorem gX6_thickest_X3_cell : GoodIn wsX6_thickest (wsV RX6 104 RX3 yX3_cell wsX3_cell) := goodIn_app (goodIn_of _ (by decide +kernel)) ggX6_thickest_X3_cell
set_option maxRecDepth 20000 in
theorem ggX6_thickest_X5_tears : GoodIn wsX6_thickest wsX5_tears := goodIn_r _ [86, 76, 87, 88, 28, 89, 30, 77, 69, 70, 71, 61, 62, 63, 24, 64, 31, 46, 47, 48, 97, 98, 99, 100] (by decide +kernel) (by decide +kernel)
set_option maxRecDepth 20000 in
theorem gX6_thickest_X5_tears : GoodIn wsX6_thickest (wsV RX6 107 RX5 yX5_tears wsX5_tears) := goodIn_app (goodIn_of _ (by decide +kernel)) ggX6_thickest_X5_tears
theorem dX6_thickest_0 : decode cX6_thickest 0 = .ok (.aload_n 0, 1) := by decide +kernel
theorem dX6_thickest_1 : decode cX6_thickest 1 = .ok (.iload_n 1, 1) := by decide +kernel
theorem dX6_thickest_2 : decode cX6_thickest 2 = .ok (.iload_n 2, 1) := by decide +kernel
theorem dX6_thickest_3 : decode cX6_thickest 3 = .ok (.iload_n 3, 1) := by decide +kernel
theorem dX6_thickest_4 : decode cX6_thickest 4 = .ok (.iload 4, 2) := by decide +kernel
theorem dX6_thickest_6 : decode cX6_thickest 6 = .ok (.invokevirtual 82, 3) := by decide +kernel
theorem dX6_thickest_9 : decode cX6_thickest 9 = .ok (.istore 5, 2) := by decide +kernel
theorem dX6_thickest_11 : decode cX6_thickest 11 = .ok (.iload 5, 2) := by decide +kernel
theorem dX6_thickest_13 : decode cX6_thickest 13 = .ok (.ifCond .eq 6, 3) := by decide +kernel
theorem dX6_thickest_16 : decode cX6_thickest 16 = .ok (.iload 5, 2) := by decide +kernel
theorem dX6_thickest_18 : decode cX6_thickest 18 = .ok (.ireturn, 1) := by decide +kernel
theorem dX6_thickest_19 : decode cX6_thickest 19 = .ok (.aload_n 0, 1) := by decide +kernel
theorem dX6_thickest_20 : decode cX6_thickest 20 = .ok (.getfield 49, 3) := by decide +kernel
theorem dX6_thickest_23 : decode cX6_thickest 23 = .ok (.aload_n 0, 1) := by decide +kernel
theorem dX6_thickest_24 : decode cX6_thickest 24 = .ok (.getfield 10, 3) := by decide +kernel
theorem dX6_thickest_27 : decode cX6_thickest 27 = .ok (.iload_n 1, 1) := by decide +kernel
theorem dX6_thickest_28 : decode cX6_thickest 28 = .ok (.iload_n 2, 1) := by decide +kernel
theorem dX6_thickest_29 : decode cX6_thickest 29 = .ok (.iload_n 3, 1) := by decide +kernel
theorem dX6_thickest_30 : decode cX6_thickest 30 = .ok (.iload 4, 2) := by decide +kernel
theorem dX6_thickest_32 : decode cX6_thickest 32 = .ok (.invokevirtual 90, 3) := by decide +kernel
theorem dX6_thickest_35 : decode cX6_thickest 35 = .ok (.aload_n 0, 1) := by decide +kernel
theorem dX6_thickest_36 : decode cX6_thickest 36 = .ok (.getfield 49, 3) := by decide +kernel
theorem dX6_thickest_39 : decode cX6_thickest 39 = .ok (.aload_n 0, 1) := by decide +kernel
theorem dX6_thickest_40 : decode cX6_thickest 40 = .ok (.getfield 10, 3) := by decide +kernel
theorem dX6_thickest_43 : decode cX6_thickest 43 = .ok (.iconst 0, 1) := by decide +kernel
theorem dX6_thickest_44 : decode cX6_thickest 44 = .ok (.invokevirtual 94, 3) := by decide +kernel
theorem dX6_thickest_47 : decode cX6_thickest 47 = .ok (.invokevirtual 97, 3) := by decide +kernel
theorem dX6_thickest_50 : decode cX6_thickest 50 = .ok (.ifCond .ne 6, 3) := by decide +kernel
theorem dX6_thickest_53 : decode cX6_thickest 53 = .ok (.bipush (-6), 2) := by decide +kernel
theorem dX6_thickest_55 : decode cX6_thickest 55 = .ok (.ireturn, 1) := by decide +kernel
theorem dX6_thickest_56 : decode cX6_thickest 56 = .ok (.bipush 30, 2) := by decide +kernel
theorem dX6_thickest_58 : decode cX6_thickest 58 = .ok (.istore 6, 2) := by decide +kernel
theorem dX6_thickest_60 : decode cX6_thickest 60 = .ok (.iload 6, 2) := by decide +kernel
theorem dX6_thickest_62 : decode cX6_thickest 62 = .ok (.iconst 1, 1) := by decide +kernel
theorem dX6_thickest_63 : decode cX6_thickest 63 = .ok (.if_icmp .lt 54, 3) := by decide +kernel
theorem dX6_thickest_66 : decode cX6_thickest 66 = .ok (.aload_n 0, 1) := by decide +kernel
theorem dX6_thickest_67 : decode cX6_thickest 67 = .ok (.getfield 49, 3) := by decide +kernel
theorem dX6_thickest_70 : decode cX6_thickest 70 = .ok (.invokevirtual 101, 3) := by decide +kernel
theorem dX6_thickest_73 : decode cX6_thickest 73 = .ok (.aload_n 0, 1) := by decide +kernel
theorem dX6_thickest_74 : decode cX6_thickest 74 = .ok (.getfield 49, 3) := by decide +kernel
theorem dX6_thickest_77 : decode cX6_thickest 77 = .ok (.aload_n 0, 1) := by decide +kernel
theorem dX6_thickest_78 : decode cX6_thickest 78 = .ok (.getfield 49, 3) := by decide +kernel
theorem dX6_thickest_81 : decode cX6_thickest 81 = .ok (.invokevirtual 158, 3) := by decide +kernel
theorem dX6_thickest_84 : decode cX6_thickest 84 = .ok (.iload 6, 2) := by decide +kernel
theorem dX6_thickest_86 : decode cX6_thickest 86 = .ok (.aload_n 0, 1) := by decide +kernel
theorem dX6_thickest_87 : decode cX6_thickest 87 = .ok (.getfield 10, 3) := by decide +kernel
theorem dX6_thickest_90 : decode cX6_thickest 90 = .ok (.iconst 2, 1) := by decide +kernel
theorem dX6_thickest_91 : decode cX6_thickest 91 = .ok (.invokevirtual 104, 3) := by decide +kernel
theorem dX6_thickest_94 : decode cX6_thickest 94 = .ok (.aload_n 0, 1) := by decide +kernel
theorem dX6_thickest_95 : decode cX6_thickest 95 = .ok (.getfield 10, 3) := by decide +kernel
theorem dX6_thickest_98 : decode cX6_thickest 98 = .ok (.iconst 1, 1) := by decide +kernel
theorem dX6_thickest_99 : decode cX6_thickest 99 = .ok (.invokevirtual 94, 3) := by decide +kernel
theorem dX6_thickest_102 : decode cX6_thickest 102 = .ok (.invokevirtual 107, 3) := by decide +kernel
theorem dX6_thickest_105 : decode cX6_thickest 105 = .ok (.ifCond .ne 6, 3) := by decide +kernel
theorem dX6_thickest_108 : decode cX6_thickest 108 = .ok (.iload 6, 2) := by decide +kernel
theorem dX6_thickest_110 : decode cX6_thickest 110 = .ok (.ireturn, 1) := by decide +kernel
theorem dX6_thickest_111 : decode cX6_thickest 111 = .ok (.iinc 6 (-1), 3) := by decide +kernel
theorem dX6_thickest_114 : decode cX6_thickest 114 = .ok (.goto (-54), 3) := by decide +kernel
theorem dX6_thickest_117 : decode cX6_thickest 117 = .ok (.bipush (-6), 2) := by decide +kernel
theorem dX6_thickest_119 : decode cX6_thickest 119 = .ok (.ireturn, 1) := by decide +kernel
set_option maxRecDepth 20000 in
theorem ggX6_gapToMesh_X5_lay : GoodIn wsX6_gapToMesh wsX5_lay := goodIn_r _ [11, 12, 13, 5, 14, 15, 16, 17, 18, 19, 20, 21, 22, 23, 24, 25, 26, 27, 28, 29, 30, 31, 10, 32, 33, 34, 35, 36, 37, 38, 39, 69, 70, 71, 72, 73] (by decide +kernel) (by decide +kernel)
set_option maxRecDepth 20000 in
theorem gX6_gapToMesh_X5_lay : GoodIn wsX6_gapToMesh (wsV RX6 90 RX5 yX5_lay wsX5_lay) := goodIn_app (goodIn_of _ (by decide +kernel)) ggX6_gapToMesh_X5_lay
set_option maxRecDepth 20000 in
theorem ggX6_gapToMesh_X3_setting : GoodIn wsX6_gapToMesh wsX3_setting := goodIn_r _ [43, 25, 26, 27, 20, 28, 29, 73] (by decide +kernel) (by decide +kernel)
set_option maxRecDepth 20000 in
theorem gX6_gapToMesh_X3_setting : GoodIn wsX6_gapToMesh (wsV RX6 94 RX3 yX3_setting wsX3_setting) := goodIn_app (goodIn_of _ (by decide +kernel)) ggX6_gapToMesh_X3_setting
set_option maxRecDepth 20000 in
theorem ggX6_gapToMesh_X5_isSmooth : GoodIn wsX6_gapToMesh wsX5_isSmooth := goodIn_r _ [47, 15, 48, 49, 50, 10, 51, 52, 53, 5, 54, 55, 56, 57, 58, 16, 69, 70, 71, 72] (by decide +kernel) (by decide +kernel)
set_option maxRecDepth 20000 in
theorem gX6_gapToMesh_X5_isSmooth : GoodIn wsX6_gapToMesh (wsV RX6 179 RX5 yX5_isSmooth wsX5_isSmooth) := goodIn_app (goodIn_of _ (by decide +kernel)) ggX6_gapToMesh_X5_isSmooth
set_option maxRecDepth 20000 in
theorem ggX6_gapToMesh_X5_leastPress : GoodIn wsX6_gapToMesh wsX5_leastPress := goodIn_r _ [62, 15, 12, 13, 5, 14, 55, 56, 57, 10, 58, 16, 69, 70, 71, 72] (by decide +kernel) (by decide +kernel)
set_option maxRecDepth 20000 in
theorem gX6_gapToMesh_X5_leastPress : GoodIn wsX6_gapToMesh (wsV RX6 159 RX5 yX5_leastPress wsX5_leastPress) := goodIn_app (goodIn_of _ (by decide +kernel)) ggX6_gapToMesh_X5_leastPress
theorem dX6_gapToMesh_0 : decode cX6_gapToMesh 0 = .ok (.aload_n 0, 1) := by decide +kernel
theorem dX6_gapToMesh_1 : decode cX6_gapToMesh 1 = .ok (.getfield 49, 3) := by decide +kernel
theorem dX6_gapToMesh_4 : decode cX6_gapToMesh 4 = .ok (.aload_n 0, 1) := by decide +kernel
theorem dX6_gapToMesh_5 : decode cX6_gapToMesh 5 = .ok (.getfield 10, 3) := by decide +kernel
theorem dX6_gapToMesh_8 : decode cX6_gapToMesh 8 = .ok (.iload_n 1, 1) := by decide +kernel
theorem dX6_gapToMesh_9 : decode cX6_gapToMesh 9 = .ok (.iload_n 2, 1) := by decide +kernel
theorem dX6_gapToMesh_10 : decode cX6_gapToMesh 10 = .ok (.iload_n 3, 1) := by decide +kernel
theorem dX6_gapToMesh_11 : decode cX6_gapToMesh 11 = .ok (.iconst 0, 1) := by decide +kernel
theorem dX6_gapToMesh_12 : decode cX6_gapToMesh 12 = .ok (.invokevirtual 90, 3) := by decide +kernel
theorem dX6_gapToMesh_15 : decode cX6_gapToMesh 15 = .ok (.aload_n 0, 1) := by decide +kernel
theorem dX6_gapToMesh_16 : decode cX6_gapToMesh 16 = .ok (.getfield 49, 3) := by decide +kernel
theorem dX6_gapToMesh_19 : decode cX6_gapToMesh 19 = .ok (.aload_n 0, 1) := by decide +kernel
theorem dX6_gapToMesh_20 : decode cX6_gapToMesh 20 = .ok (.getfield 10, 3) := by decide +kernel
theorem dX6_gapToMesh_23 : decode cX6_gapToMesh 23 = .ok (.iconst 0, 1) := by decide +kernel
theorem dX6_gapToMesh_24 : decode cX6_gapToMesh 24 = .ok (.invokevirtual 94, 3) := by decide +kernel
theorem dX6_gapToMesh_27 : decode cX6_gapToMesh 27 = .ok (.invokevirtual 179, 3) := by decide +kernel
theorem dX6_gapToMesh_30 : decode cX6_gapToMesh 30 = .ok (.ifCond .ne 6, 3) := by decide +kernel
theorem dX6_gapToMesh_33 : decode cX6_gapToMesh 33 = .ok (.bipush (-6), 2) := by decide +kernel
theorem dX6_gapToMesh_35 : decode cX6_gapToMesh 35 = .ok (.ireturn, 1) := by decide +kernel
theorem dX6_gapToMesh_36 : decode cX6_gapToMesh 36 = .ok (.iconst 0, 1) := by decide +kernel
theorem dX6_gapToMesh_37 : decode cX6_gapToMesh 37 = .ok (.iconst 1, 1) := by decide +kernel
theorem dX6_gapToMesh_38 : decode cX6_gapToMesh 38 = .ok (.aload_n 0, 1) := by decide +kernel
theorem dX6_gapToMesh_39 : decode cX6_gapToMesh 39 = .ok (.getfield 49, 3) := by decide +kernel
theorem dX6_gapToMesh_42 : decode cX6_gapToMesh 42 = .ok (.invokevirtual 159, 3) := by decide +kernel
theorem dX6_gapToMesh_45 : decode cX6_gapToMesh 45 = .ok (.isub, 1) := by decide +kernel
theorem dX6_gapToMesh_46 : decode cX6_gapToMesh 46 = .ok (.invokestatic 182, 3) := by decide +kernel
theorem dX6_gapToMesh_49 : decode cX6_gapToMesh 49 = .ok (.istore 4, 2) := by decide +kernel
theorem dX6_gapToMesh_51 : decode cX6_gapToMesh 51 = .ok (.iload 4, 2) := by decide +kernel
theorem dX6_gapToMesh_53 : decode cX6_gapToMesh 53 = .ok (.bipush 30, 2) := by decide +kernel
theorem dX6_gapToMesh_55 : decode cX6_gapToMesh 55 = .ok (.if_icmp .gt 8, 3) := by decide +kernel
theorem dX6_gapToMesh_58 : decode cX6_gapToMesh 58 = .ok (.iload 4, 2) := by decide +kernel
theorem dX6_gapToMesh_60 : decode cX6_gapToMesh 60 = .ok (.goto 5, 3) := by decide +kernel
theorem dX6_gapToMesh_63 : decode cX6_gapToMesh 63 = .ok (.bipush (-6), 2) := by decide +kernel
theorem dX6_gapToMesh_65 : decode cX6_gapToMesh 65 = .ok (.ireturn, 1) := by decide +kernel
set_option maxRecDepth 20000 in
theorem ggX6_questionError_X6_pairError : GoodIn wsX6_questionError wsX6_pairError := goodIn_r _ [5, 6, 7, 8, 9, 10, 11, 12, 13, 14, 15, 16, 17, 18, 4, 19, 20, 21, 22, 23, 24, 25, 26] (by decide +kernel) (by decide +kernel)
set_option maxRecDepth 20000 in
theorem gX6_questionError_X6_pairError : GoodIn wsX6_questionError (wsV RX6 82 RX6 yX6_pairError wsX6_pairError) := goodIn_app (goodIn_of _ (by decide +kernel)) ggX6_questionError_X6_pairError
set_option maxRecDepth 20000 in
theorem ggX6_questionError_X6_outside : GoodIn wsX6_questionError wsX6_outside := goodIn_r _ [19] (by decide +kernel) (by decide +kernel)
set_option maxRecDepth 20000 in
theorem gX6_questionError_X6_outside : GoodIn wsX6_questionError (va_wsS RX6 86 yX6_outside wsX6_outside) := goodIn_app (goodIn_of _ (by decide +kernel)) ggX6_questionError_X6_outside
theorem dX6_questionError_0 : decode cX6_questionError 0 = .ok (.aload_n 0, 1) := by decide +kernel
theorem dX6_questionError_1 : decode cX6_questionError 1 = .ok (.iload_n 1, 1) := by decide +kernel
theorem dX6_questionError_2 : decode cX6_questionError 2 = .ok (.iload_n 2, 1) := by decide +kernel
theorem dX6_questionError_3 : decode cX6_questionError 3 = .ok (.iload_n 3, 1) := by decide +kernel
theorem dX6_questionError_4 : decode cX6_questionError 4 = .ok (.iload 4, 2) := by decide +kernel
theorem dX6_questionError_6 : decode cX6_questionError 6 = .ok (.invokevirtual 82, 3) := by decide +kernel
theorem dX6_questionError_9 : decode cX6_questionError 9 = .ok (.istore 7, 2) := by decide +kernel
theorem dX6_questionError_11 : decode cX6_questionError 11 = .ok (.iload 7, 2) := by decide +kernel
theorem dX6_questionError_13 : decode cX6_questionError 13 = .ok (.ifCond .eq 6, 3) := by decide +kernel
theorem dX6_questionError_16 : decode cX6_questionError 16 = .ok (.iload 7, 2) := by decide +kernel
theorem dX6_questionError_18 : decode cX6_questionError 18 = .ok (.ireturn, 1) := by decide +kernel
theorem dX6_questionError_19 : decode cX6_questionError 19 = .ok (.iload 5, 2) := by decide +kernel
theorem dX6_questionError_21 : decode cX6_questionError 21 = .ok (.iconst 0, 1) := by decide +kernel
theorem dX6_questionError_22 : decode cX6_questionError 22 = .ok (.iload 6, 2) := by decide +kernel
theorem dX6_questionError_24 : decode cX6_questionError 24 = .ok (.invokestatic 86, 3) := by decide +kernel
theorem dX6_questionError_27 : decode cX6_questionError 27 = .ok (.ifCond .eq 8, 3) := by decide +kernel
theorem dX6_questionError_30 : decode cX6_questionError 30 = .ok (.bipush (-2), 2) := by decide +kernel
theorem dX6_questionError_32 : decode cX6_questionError 32 = .ok (.goto 4, 3) := by decide +kernel
theorem dX6_questionError_35 : decode cX6_questionError 35 = .ok (.iconst 0, 1) := by decide +kernel
theorem dX6_questionError_36 : decode cX6_questionError 36 = .ok (.ireturn, 1) := by decide +kernel
set_option maxRecDepth 20000 in
theorem ggX6_pairError_X3_has : GoodIn wsX6_pairError wsX3_has := goodIn_r _ [6, 7, 8, 9, 5, 10, 11, 22] (by decide +kernel) (by decide +kernel)
set_option maxRecDepth 20000 in
theorem gX6_pairError_X3_has : GoodIn wsX6_pairError (wsV RX6 123 RX3 yX3_has wsX3_has) := goodIn_app (goodIn_of _ (by decide +kernel)) ggX6_pairError_X3_has
set_option maxRecDepth 20000 in
theorem ggX6_pairError_X6_outside : GoodIn wsX6_pairError wsX6_outside := goodIn_r _ [15] (by decide +kernel) (by decide +kernel)
set_option maxRecDepth 20000 in
theorem gX6_pairError_X6_outside : GoodIn wsX6_pairError (va_wsS RX6 86 yX6_outside wsX6_outside) := goodIn_app (goodIn_of _ (by decide +kernel)) ggX6_pairError_X6_outside
theorem dX6_pairError_0 : decode cX6_pairError 0 = .ok (.aload_n 0, 1) := by decide +kernel
theorem dX6_pairError_1 : decode cX6_pairError 1 = .ok (.getfield 10, 3) := by decide +kernel
theorem dX6_pairError_4 : decode cX6_pairError 4 = .ok (.iload_n 1, 1) := by decide +kernel
theorem dX6_pairError_5 : decode cX6_pairError 5 = .ok (.invokevirtual 123, 3) := by decide +kernel
theorem dX6_pairError_8 : decode cX6_pairError 8 = .ok (.ifCond .eq 14, 3) := by decide +kernel
theorem dX6_pairError_11 : decode cX6_pairError 11 = .ok (.aload_n 0, 1) := by decide +kernel
theorem dX6_pairError_12 : decode cX6_pairError 12 = .ok (.getfield 10, 3) := by decide +kernel
theorem dX6_pairError_15 : decode cX6_pairError 15 = .ok (.iload_n 2, 1) := by decide +kernel
theorem dX6_pairError_16 : decode cX6_pairError 16 = .ok (.invokevirtual 123, 3) := by decide +kernel
theorem dX6_pairError_19 : decode cX6_pairError 19 = .ok (.ifCond .ne 5, 3) := by decide +kernel
theorem dX6_pairError_22 : decode cX6_pairError 22 = .ok (.iconst (-1), 1) := by decide +kernel
theorem dX6_pairError_23 : decode cX6_pairError 23 = .ok (.ireturn, 1) := by decide +kernel
theorem dX6_pairError_24 : decode cX6_pairError 24 = .ok (.iload_n 1, 1) := by decide +kernel
theorem dX6_pairError_25 : decode cX6_pairError 25 = .ok (.iload_n 2, 1) := by decide +kernel
theorem dX6_pairError_26 : decode cX6_pairError 26 = .ok (.if_icmp .eq 24, 3) := by decide +kernel
theorem dX6_pairError_29 : decode cX6_pairError 29 = .ok (.iload_n 3, 1) := by decide +kernel
theorem dX6_pairError_30 : decode cX6_pairError 30 = .ok (.iconst 0, 1) := by decide +kernel
theorem dX6_pairError_31 : decode cX6_pairError 31 = .ok (.bipush 23, 2) := by decide +kernel
theorem dX6_pairError_33 : decode cX6_pairError 33 = .ok (.invokestatic 86, 3) := by decide +kernel
theorem dX6_pairError_36 : decode cX6_pairError 36 = .ok (.ifCond .ne 14, 3) := by decide +kernel
theorem dX6_pairError_39 : decode cX6_pairError 39 = .ok (.iload 4, 2) := by decide +kernel
theorem dX6_pairError_41 : decode cX6_pairError 41 = .ok (.iconst 0, 1) := by decide +kernel
theorem dX6_pairError_42 : decode cX6_pairError 42 = .ok (.bipush 30, 2) := by decide +kernel
theorem dX6_pairError_44 : decode cX6_pairError 44 = .ok (.invokestatic 86, 3) := by decide +kernel
theorem dX6_pairError_47 : decode cX6_pairError 47 = .ok (.ifCond .eq 7, 3) := by decide +kernel
theorem dX6_pairError_50 : decode cX6_pairError 50 = .ok (.iconst 1, 1) := by decide +kernel
theorem dX6_pairError_51 : decode cX6_pairError 51 = .ok (.goto 4, 3) := by decide +kernel
theorem dX6_pairError_54 : decode cX6_pairError 54 = .ok (.iconst 0, 1) := by decide +kernel
theorem dX6_pairError_55 : decode cX6_pairError 55 = .ok (.istore 5, 2) := by decide +kernel
theorem dX6_pairError_57 : decode cX6_pairError 57 = .ok (.iload 5, 2) := by decide +kernel
theorem dX6_pairError_59 : decode cX6_pairError 59 = .ok (.ifCond .eq 8, 3) := by decide +kernel
theorem dX6_pairError_62 : decode cX6_pairError 62 = .ok (.bipush (-2), 2) := by decide +kernel
theorem dX6_pairError_64 : decode cX6_pairError 64 = .ok (.goto 4, 3) := by decide +kernel
theorem dX6_pairError_67 : decode cX6_pairError 67 = .ok (.iconst 0, 1) := by decide +kernel
theorem dX6_pairError_68 : decode cX6_pairError 68 = .ok (.ireturn, 1) := by decide +kernel
theorem dX6_outside_0 : decode cX6_outside 0 = .ok (.iload_n 0, 1) := by decide +kernel
theorem dX6_outside_1 : decode cX6_outside 1 = .ok (.iload_n 1, 1) := by decide +kernel
theorem dX6_outside_2 : decode cX6_outside 2 = .ok (.if_icmp .lt 8, 3) := by decide +kernel
theorem dX6_outside_5 : decode cX6_outside 5 = .ok (.iload_n 0, 1) := by decide +kernel
theorem dX6_outside_6 : decode cX6_outside 6 = .ok (.iload_n 2, 1) := by decide +kernel
theorem dX6_outside_7 : decode cX6_outside 7 = .ok (.if_icmp .le 7, 3) := by decide +kernel
theorem dX6_outside_10 : decode cX6_outside 10 = .ok (.iconst 1, 1) := by decide +kernel
theorem dX6_outside_11 : decode cX6_outside 11 = .ok (.goto 4, 3) := by decide +kernel
theorem dX6_outside_14 : decode cX6_outside 14 = .ok (.iconst 0, 1) := by decide +kernel
theorem dX6_outside_15 : decode cX6_outside 15 = .ok (.ireturn, 1) := by decide +kernel
set_option maxRecDepth 20000 in
theorem ggX6_put_X1_append : GoodIn wsX6_put wsX1_append := goodIn_r _ [6, 7, 8, 9, 5, 10, 11, 12, 13, 14, 15, 16, 17, 18, 19, 20, 21, 28, 29] (by decide +kernel) (by decide +kernel)
set_option maxRecDepth 20000 in
theorem gX6_put_X1_append : GoodIn wsX6_put (wsV RX6 185 RX1 yX1_append wsX1_append) := goodIn_app (goodIn_of _ (by decide +kernel)) ggX6_put_X1_append
theorem dX6_put_0 : decode cX6_put 0 = .ok (.aload_n 0, 1) := by decide +kernel
theorem dX6_put_1 : decode cX6_put 1 = .ok (.getfield 33, 3) := by decide +kernel
theorem dX6_put_4 : decode cX6_put 4 = .ok (.lload_n 1, 1) := by decide +kernel
theorem dX6_put_5 : decode cX6_put 5 = .ok (.invokevirtual 185, 3) := by decide +kernel
theorem dX6_put_8 : decode cX6_put 8 = .ok (.ireturn, 1) := by decide +kernel
set_option maxRecDepth 20000 in
theorem ggX6_wipe_X1_clear : GoodIn wsX6_wipe wsX1_clear := goodIn_r _ [6, 7, 14, 15] (by decide +kernel) (by decide +kernel)
set_option maxRecDepth 20000 in
theorem gX6_wipe_X1_clear : GoodIn wsX6_wipe (wsV RX6 189 RX1 yX1_clear wsX1_clear) := goodIn_app (goodIn_of _ (by decide +kernel)) ggX6_wipe_X1_clear
theorem dX6_wipe_0 : decode cX6_wipe 0 = .ok (.aload_n 0, 1) := by decide +kernel
theorem dX6_wipe_1 : decode cX6_wipe 1 = .ok (.getfield 33, 3) := by decide +kernel
theorem dX6_wipe_4 : decode cX6_wipe 4 = .ok (.invokevirtual 189, 3) := by decide +kernel
theorem dX6_wipe_7 : decode cX6_wipe 7 = .ok (.ireturn, 1) := by decide +kernel
set_option maxRecDepth 20000 in
theorem ggX6_fault_X2_firstFault : GoodIn wsX6_fault wsX2_firstFault := goodIn_r _ [6, 7, 8, 9, 10, 11, 5, 12, 13, 14, 15, 16, 17, 18, 19, 20, 21, 22, 23, 24, 25, 26, 27, 28, 29, 30, 31, 32, 33, 34, 35, 36, 37, 38, 39, 40, 41, 42, 43, 44, 45, 46, 47, 48, 49, 50, 51, 52, 53, 54, 55, 56, 57, 58, 59, 60, 61, 68, 69, 70, 71, 72, 73, 74] (by decide +kernel) (by decide +kernel)
set_option maxRecDepth 20000 in
theorem gX6_fault_X2_firstFault : GoodIn wsX6_fault (wsV RX6 192 RX2 yX2_firstFault wsX2_firstFault) := goodIn_app (goodIn_of _ (by decide +kernel)) ggX6_fault_X2_firstFault
theorem dX6_fault_0 : decode cX6_fault 0 = .ok (.aload_n 0, 1) := by decide +kernel
theorem dX6_fault_1 : decode cX6_fault 1 = .ok (.getfield 42, 3) := by decide +kernel
theorem dX6_fault_4 : decode cX6_fault 4 = .ok (.invokevirtual 192, 3) := by decide +kernel
theorem dX6_fault_7 : decode cX6_fault 7 = .ok (.ireturn, 1) := by decide +kernel
set_option maxRecDepth 20000 in
theorem ggX6_carryOut_X2_firstFault : GoodIn wsX6_carryOut wsX2_firstFault := goodIn_r _ [9, 10, 11, 12, 13, 14, 8, 15, 16, 17, 18, 19, 20, 21, 22, 23, 24, 25, 26, 27, 28, 29, 30, 31, 32, 33, 34, 35, 36, 37, 38, 39, 40, 41, 42, 43, 44, 45, 46, 47, 48, 49, 50, 51, 52, 53, 54, 55, 56, 57, 58, 59, 60, 61, 62, 63, 64, 256, 257, 258, 259, 260, 261, 262] (by decide +kernel) (by decide +kernel)
set_option maxRecDepth 20000 in
theorem gX6_carryOut_X2_firstFault : GoodIn wsX6_carryOut (wsV RX6 192 RX2 yX2_firstFault wsX2_firstFault) := goodIn_app (goodIn_of _ (by decide +kernel)) ggX6_carryOut_X2_firstFault
set_option maxRecDepth 20000 in
theorem ggX6_carryOut_X0_prepare : GoodIn wsX6_carryOut wsX0_prepare := goodIn_r _ [69, 70, 71, 72, 73, 74, 75, 76, 77, 78, 79, 80, 81, 263, 264, 265, 266] (by decide +kernel) (by decide +kernel)
set_option maxRecDepth 20000 in
theorem gX6_carryOut_X0_prepare : GoodIn wsX6_carryOut (wsV RX6 53 RX0 yX0_prepare wsX0_prepare) := goodIn_app (goodIn_of _ (by decide +kernel)) ggX6_carryOut_X0_prepare
set_option maxRecDepth 20000 in
theorem ggX6_carryOut_X2_begin : GoodIn wsX6_carryOut wsX2_begin := goodIn_r _ [15, 10, 256, 257, 258, 259, 260] (by decide +kernel) (by decide +kernel)
set_option maxRecDepth 20000 in
theorem gX6_carryOut_X2_begin : GoodIn wsX6_carryOut (wsV RX6 195 RX2 yX2_begin wsX2_begin) := goodIn_app (goodIn_of _ (by decide +kernel)) ggX6_carryOut_X2_begin
set_option maxRecDepth 20000 in
theorem ggX6_carryOut_X2_readOrder : GoodIn wsX6_carryOut wsX2_readOrder := goodIn_r _ [19, 20, 11, 10, 21, 22, 23, 24, 25, 26, 27, 28, 29, 30, 31, 8, 32, 33, 34, 35, 36, 37, 38, 39, 40, 41, 42, 43, 44, 45, 46, 47, 48, 49, 50, 51, 52, 53, 54, 55, 56, 57, 58, 59, 60, 256, 257, 258, 259, 260, 261, 262] (by decide +kernel) (by decide +kernel)
set_option maxRecDepth 20000 in
theorem gX6_carryOut_X2_readOrder : GoodIn wsX6_carryOut (wsV RX6 196 RX2 yX2_readOrder wsX2_readOrder) := goodIn_app (goodIn_of _ (by decide +kernel)) ggX6_carryOut_X2_readOrder
set_option maxRecDepth 20000 in
theorem ggX6_carryOut_X6_obey : GoodIn wsX6_carryOut wsX6_obey := goodIn_r _ [87, 1, 3, 88, 89, 90, 8, 91, 21, 92, 93, 94, 46, 95, 96, 97, 98, 99, 20, 100, 101, 102, 75, 103, 45, 47, 104, 105, 106, 107, 77, 108, 109, 110, 111, 112, 113, 114, 115, 116, 117, 118, 119, 120, 121, 122, 123, 124, 125, 126, 56, 127, 128, 129, 130, 131, 132, 133, 134, 135, 136, 137, 138, 139, 140, 141, 142, 143, 144, 145, 146, 147, 148, 149, 150, 151, 152, 153, 154, 155, 156, 157, 158, 159, 160, 161, 162, 163, 164, 165, 166, 167, 168, 169, 170, 171, 172, 173, 174, 175, 176, 177, 178, 179, 180, 181, 182, 183, 184, 185, 186, 187, 188, 189, 190, 191, 192, 193, 194, 195, 196, 197, 198, 199, 200, 201, 202, 203, 204, 205, 206, 207, 208, 209, 210, 211, 212, 213, 214, 215, 216, 217, 218, 219, 220, 221, 222, 223, 224, 225, 226, 227, 228, 229, 230, 231, 232, 233, 234, 235, 236, 237, 238, 250, 251, 252, 253, 254, 255, 256, 257, 258, 259, 260, 266, 267, 268, 269, 270] (by decide +kernel) (by decide +kernel)
set_option maxRecDepth 20000 in
theorem gX6_carryOut_X6_obey : GoodIn wsX6_carryOut (wsV RX6 200 RX6 yX6_obey wsX6_obey) := goodIn_app (goodIn_of _ (by decide +kernel)) ggX6_carryOut_X6_obey
set_option maxRecDepth 20000 in
theorem ggX6_carryOut_X2_skip : GoodIn wsX6_carryOut wsX2_skip := goodIn_r _ [32, 11, 10, 22, 23, 24, 25, 26, 27, 28, 256, 257, 258, 259, 260, 261, 262] (by decide +kernel) (by decide +kernel)
set_option maxRecDepth 20000 in
theorem gX6_carryOut_X2_skip : GoodIn wsX6_carryOut (wsV RX6 203 RX2 yX2_skip wsX2_skip) := goodIn_app (goodIn_of _ (by decide +kernel)) ggX6_carryOut_X2_skip
set_option maxRecDepth 20000 in
theorem ggX6_carryOut_X1_clear : GoodIn wsX6_carryOut wsX1_clear := goodIn_r _ [243, 27, 261, 262] (by decide +kernel) (by decide +kernel)
set_option maxRecDepth 20000 in
theorem gX6_carryOut_X1_clear : GoodIn wsX6_carryOut (wsV RX6 189 RX1 yX1_clear wsX1_clear) := goodIn_app (goodIn_of _ (by decide +kernel)) ggX6_carryOut_X1_clear
set_option maxRecDepth 20000 in
theorem ggX6_carryOut_X0_recorded : GoodIn wsX6_carryOut wsX0_recorded := goodIn_r _ [247, 71, 248, 249, 164, 165, 166, 263, 264, 265] (by decide +kernel) (by decide +kernel)
set_option maxRecDepth 20000 in
theorem gX6_carryOut_X0_recorded : GoodIn wsX6_carryOut (wsV RX6 61 RX0 yX0_recorded wsX0_recorded) := goodIn_app (goodIn_of _ (by decide +kernel)) ggX6_carryOut_X0_recorded
theorem dX6_carryOut_0 : decode cX6_carryOut 0 = .ok (.aload_n 0, 1) := by decide +kernel
theorem dX6_carryOut_1 : decode cX6_carryOut 1 = .ok (.getfield 42, 3) := by decide +kernel
theorem dX6_carryOut_4 : decode cX6_carryOut 4 = .ok (.invokevirtual 192, 3) := by decide +kernel
theorem dX6_carryOut_7 : decode cX6_carryOut 7 = .ok (.bipush (-6), 2) := by decide +kernel
theorem dX6_carryOut_9 : decode cX6_carryOut 9 = .ok (.if_icmp .eq 6, 3) := by decide +kernel
theorem dX6_carryOut_12 : decode cX6_carryOut 12 = .ok (.bipush (-3), 2) := by decide +kernel
theorem dX6_carryOut_14 : decode cX6_carryOut 14 = .ok (.ireturn, 1) := by decide +kernel
theorem dX6_carryOut_15 : decode cX6_carryOut 15 = .ok (.aload_n 0, 1) := by decide +kernel
theorem dX6_carryOut_16 : decode cX6_carryOut 16 = .ok (.getfield 19, 3) := by decide +kernel
theorem dX6_carryOut_19 : decode cX6_carryOut 19 = .ok (.aload_n 0, 1) := by decide +kernel
theorem dX6_carryOut_20 : decode cX6_carryOut 20 = .ok (.getfield 10, 3) := by decide +kernel
theorem dX6_carryOut_23 : decode cX6_carryOut 23 = .ok (.invokevirtual 53, 3) := by decide +kernel
theorem dX6_carryOut_26 : decode cX6_carryOut 26 = .ok (.aload_n 0, 1) := by decide +kernel
theorem dX6_carryOut_27 : decode cX6_carryOut 27 = .ok (.getfield 42, 3) := by decide +kernel
theorem dX6_carryOut_30 : decode cX6_carryOut 30 = .ok (.invokevirtual 195, 3) := by decide +kernel
theorem dX6_carryOut_33 : decode cX6_carryOut 33 = .ok (.iconst 0, 1) := by decide +kernel
theorem dX6_carryOut_34 : decode cX6_carryOut 34 = .ok (.istore_n 1, 1) := by decide +kernel
theorem dX6_carryOut_35 : decode cX6_carryOut 35 = .ok (.iload_n 1, 1) := by decide +kernel
theorem dX6_carryOut_36 : decode cX6_carryOut 36 = .ok (.bipush 80, 2) := by decide +kernel
theorem dX6_carryOut_38 : decode cX6_carryOut 38 = .ok (.if_icmp .ge 36, 3) := by decide +kernel
theorem dX6_carryOut_41 : decode cX6_carryOut 41 = .ok (.aload_n 0, 1) := by decide +kernel
theorem dX6_carryOut_42 : decode cX6_carryOut 42 = .ok (.getfield 42, 3) := by decide +kernel
theorem dX6_carryOut_45 : decode cX6_carryOut 45 = .ok (.invokevirtual 196, 3) := by decide +kernel
theorem dX6_carryOut_48 : decode cX6_carryOut 48 = .ok (.ifCond .eq 26, 3) := by decide +kernel
theorem dX6_carryOut_51 : decode cX6_carryOut 51 = .ok (.aload_n 0, 1) := by decide +kernel
theorem dX6_carryOut_52 : decode cX6_carryOut 52 = .ok (.invokevirtual 200, 3) := by decide +kernel
theorem dX6_carryOut_55 : decode cX6_carryOut 55 = .ok (.ifCond .lt 19, 3) := by decide +kernel
theorem dX6_carryOut_58 : decode cX6_carryOut 58 = .ok (.iinc 1 1, 3) := by decide +kernel
theorem dX6_carryOut_61 : decode cX6_carryOut 61 = .ok (.aload_n 0, 1) := by decide +kernel
theorem dX6_carryOut_62 : decode cX6_carryOut 62 = .ok (.getfield 42, 3) := by decide +kernel
theorem dX6_carryOut_65 : decode cX6_carryOut 65 = .ok (.bipush 59, 2) := by decide +kernel
theorem dX6_carryOut_67 : decode cX6_carryOut 67 = .ok (.invokevirtual 203, 3) := by decide +kernel
theorem dX6_carryOut_70 : decode cX6_carryOut 70 = .ok (.pop, 1) := by decide +kernel
theorem dX6_carryOut_71 : decode cX6_carryOut 71 = .ok (.goto (-36), 3) := by decide +kernel
theorem dX6_carryOut_74 : decode cX6_carryOut 74 = .ok (.aload_n 0, 1) := by decide +kernel
theorem dX6_carryOut_75 : decode cX6_carryOut 75 = .ok (.getfield 33, 3) := by decide +kernel
theorem dX6_carryOut_78 : decode cX6_carryOut 78 = .ok (.invokevirtual 189, 3) := by decide +kernel
theorem dX6_carryOut_81 : decode cX6_carryOut 81 = .ok (.pop, 1) := by decide +kernel
theorem dX6_carryOut_82 : decode cX6_carryOut 82 = .ok (.aload_n 0, 1) := by decide +kernel
theorem dX6_carryOut_83 : decode cX6_carryOut 83 = .ok (.getfield 19, 3) := by decide +kernel
theorem dX6_carryOut_86 : decode cX6_carryOut 86 = .ok (.iload_n 1, 1) := by decide +kernel
theorem dX6_carryOut_87 : decode cX6_carryOut 87 = .ok (.invokevirtual 61, 3) := by decide +kernel
theorem dX6_carryOut_90 : decode cX6_carryOut 90 = .ok (.ireturn, 1) := by decide +kernel
set_option maxRecDepth 20000 in
theorem ggX6_obey_X2_kind : GoodIn wsX6_obey wsX2_kind := goodIn_r _ [7, 8, 169, 170, 171, 172, 173] (by decide +kernel) (by decide +kernel)
set_option maxRecDepth 20000 in
theorem gX6_obey_X2_kind : GoodIn wsX6_obey (wsV RX6 207 RX2 yX2_kind wsX2_kind) := goodIn_app (goodIn_of _ (by decide +kernel)) ggX6_obey_X2_kind
set_option maxRecDepth 20000 in
theorem ggX6_obey_X6_addRollerOfText : GoodIn wsX6_obey wsX6_addRollerOfText := goodIn_r _ [13, 1, 2, 14, 15, 16, 6, 17, 18, 19, 20, 21, 22, 23, 24, 12, 25, 26, 27, 28, 29, 30, 31, 32, 33, 34, 35, 36, 37, 38, 39, 40, 41, 42, 43, 44, 45, 46, 47, 48, 49, 50, 51, 52, 53, 54, 55, 56, 57, 58, 59, 60, 61, 62, 63, 64, 65, 66, 67, 68, 69, 70, 163, 164, 165, 166, 167, 168, 169, 170, 171, 172, 173, 174] (by decide +kernel) (by decide +kernel)
set_option maxRecDepth 20000 in
theorem gX6_obey_X6_addRollerOfText : GoodIn wsX6_obey (wsV RX6 210 RX6 yX6_addRollerOfText wsX6_addRollerOfText) := goodIn_app (goodIn_of _ (by decide +kernel)) ggX6_obey_X6_addRollerOfText
set_option maxRecDepth 20000 in
theorem ggX6_obey_X2_number : GoodIn wsX6_obey wsX2_number := goodIn_r _ [49, 50, 169, 170, 171, 172, 173] (by decide +kernel) (by decide +kernel)
set_option maxRecDepth 20000 in
theorem gX6_obey_X2_number : GoodIn wsX6_obey (wsV RX6 213 RX2 yX2_number wsX2_number) := goodIn_app (goodIn_of _ (by decide +kernel)) ggX6_obey_X2_number
set_option maxRecDepth 20000 in
theorem ggX6_obey_X6_runCards : GoodIn wsX6_obey wsX6_runCards := goodIn_r _ [74, 75, 2, 76, 77, 78, 12, 79, 80, 60, 61, 22, 62, 26, 27, 28, 29, 30, 81, 24, 25, 82, 83, 84, 85, 86, 87, 88, 89, 90, 91, 92, 93, 64, 65, 66, 31, 32, 33, 94, 95, 96, 97, 68, 69, 70, 98, 99, 100, 101, 102, 103, 104, 105, 106, 107, 108, 109, 110, 111, 112, 113, 114, 115, 116, 117, 118, 119, 120, 121, 122, 123, 124, 125, 126, 127, 128, 129, 130, 131, 132, 133, 134, 135, 136, 137, 138, 139, 140, 141, 142, 143, 144, 145, 42, 43, 44, 45, 34, 35, 36, 37, 146, 147, 148, 149, 150, 151, 152, 153, 154, 63, 155, 156, 157, 158, 67, 38, 39, 40, 41, 163, 164, 165, 166, 167, 168, 174, 175, 176, 177, 178] (by decide +kernel) (by decide +kernel)
set_option maxRecDepth 20000 in
theorem gX6_obey_X6_runCards : GoodIn wsX6_obey (wsV RX6 78 RX6 yX6_runCards wsX6_runCards) := goodIn_app (goodIn_of _ (by decide +kernel)) ggX6_obey_X6_runCards
set_option maxRecDepth 20000 in
theorem ggX6_obey_X3_meltRoller : GoodIn wsX6_obey wsX3_meltRoller := goodIn_r _ [162, 59, 60, 61, 22, 62, 26, 27, 28, 29, 30, 31, 32, 33, 34, 35, 36, 37, 174] (by decide +kernel) (by decide +kernel)
set_option maxRecDepth 20000 in
theorem gX6_obey_X3_meltRoller : GoodIn wsX6_obey (wsV RX6 72 RX3 yX3_meltRoller wsX3_meltRoller) := goodIn_app (goodIn_of _ (by decide +kernel)) ggX6_obey_X3_meltRoller
set_option maxRecDepth 20000 in
theorem ggX6_obey_X3_fileTooth : GoodIn wsX6_obey wsX3_fileTooth := goodIn_r _ [54, 55, 56, 57, 22, 58, 59, 60, 61, 62, 26, 27, 28, 29, 30, 63, 64, 65, 66, 31, 32, 33, 24, 12, 25, 67, 68, 69, 70, 38, 39, 40, 41, 34, 35, 36, 37, 174] (by decide +kernel) (by decide +kernel)
set_option maxRecDepth 20000 in
theorem gX6_obey_X3_fileTooth : GoodIn wsX6_obey (wsV RX6 68 RX3 yX3_fileTooth wsX3_fileTooth) := goodIn_app (goodIn_of _ (by decide +kernel)) ggX6_obey_X3_fileTooth
theorem dX6_obey_0 : decode cX6_obey 0 = .ok (.aload_n 0, 1) := by decide +kernel
theorem dX6_obey_1 : decode cX6_obey 1 = .ok (.getfield 42, 3) := by decide +kernel
theorem dX6_obey_4 : decode cX6_obey 4 = .ok (.invokevirtual 207, 3) := by decide +kernel
theorem dX6_obey_7 : decode cX6_obey 7 = .ok (.lookupswitch 147 #[(43, 41), (102, 115), (109, 99), (114, 46)], 41) := by decide +kernel
theorem dX6_obey_48 : decode cX6_obey 48 = .ok (.aload_n 0, 1) := by decide +kernel
theorem dX6_obey_49 : decode cX6_obey 49 = .ok (.invokevirtual 210, 3) := by decide +kernel
theorem dX6_obey_52 : decode cX6_obey 52 = .ok (.ireturn, 1) := by decide +kernel
theorem dX6_obey_53 : decode cX6_obey 53 = .ok (.aload_n 0, 1) := by decide +kernel
theorem dX6_obey_54 : decode cX6_obey 54 = .ok (.aload_n 0, 1) := by decide +kernel
theorem dX6_obey_55 : decode cX6_obey 55 = .ok (.getfield 42, 3) := by decide +kernel
theorem dX6_obey_58 : decode cX6_obey 58 = .ok (.iconst 0, 1) := by decide +kernel
theorem dX6_obey_59 : decode cX6_obey 59 = .ok (.invokevirtual 213, 3) := by decide +kernel
theorem dX6_obey_62 : decode cX6_obey 62 = .ok (.aload_n 0, 1) := by decide +kernel
theorem dX6_obey_63 : decode cX6_obey 63 = .ok (.getfield 42, 3) := by decide +kernel
theorem dX6_obey_66 : decode cX6_obey 66 = .ok (.iconst 1, 1) := by decide +kernel
theorem dX6_obey_67 : decode cX6_obey 67 = .ok (.invokevirtual 213, 3) := by decide +kernel
theorem dX6_obey_70 : decode cX6_obey 70 = .ok (.aload_n 0, 1) := by decide +kernel
theorem dX6_obey_71 : decode cX6_obey 71 = .ok (.getfield 42, 3) := by decide +kernel
theorem dX6_obey_74 : decode cX6_obey 74 = .ok (.iconst 2, 1) := by decide +kernel
theorem dX6_obey_75 : decode cX6_obey 75 = .ok (.invokevirtual 213, 3) := by decide +kernel
theorem dX6_obey_78 : decode cX6_obey 78 = .ok (.aload_n 0, 1) := by decide +kernel
theorem dX6_obey_79 : decode cX6_obey 79 = .ok (.getfield 42, 3) := by decide +kernel
theorem dX6_obey_82 : decode cX6_obey 82 = .ok (.iconst 3, 1) := by decide +kernel
theorem dX6_obey_83 : decode cX6_obey 83 = .ok (.invokevirtual 213, 3) := by decide +kernel
theorem dX6_obey_86 : decode cX6_obey 86 = .ok (.aload_n 0, 1) := by decide +kernel
theorem dX6_obey_87 : decode cX6_obey 87 = .ok (.getfield 42, 3) := by decide +kernel
theorem dX6_obey_90 : decode cX6_obey 90 = .ok (.iconst 4, 1) := by decide +kernel
theorem dX6_obey_91 : decode cX6_obey 91 = .ok (.invokevirtual 213, 3) := by decide +kernel
theorem dX6_obey_94 : decode cX6_obey 94 = .ok (.aload_n 0, 1) := by decide +kernel
theorem dX6_obey_95 : decode cX6_obey 95 = .ok (.getfield 42, 3) := by decide +kernel
theorem dX6_obey_98 : decode cX6_obey 98 = .ok (.iconst 5, 1) := by decide +kernel
theorem dX6_obey_99 : decode cX6_obey 99 = .ok (.invokevirtual 213, 3) := by decide +kernel
theorem dX6_obey_102 : decode cX6_obey 102 = .ok (.invokevirtual 78, 3) := by decide +kernel
theorem dX6_obey_105 : decode cX6_obey 105 = .ok (.ireturn, 1) := by decide +kernel
theorem dX6_obey_106 : decode cX6_obey 106 = .ok (.aload_n 0, 1) := by decide +kernel
theorem dX6_obey_107 : decode cX6_obey 107 = .ok (.getfield 10, 3) := by decide +kernel
theorem dX6_obey_110 : decode cX6_obey 110 = .ok (.aload_n 0, 1) := by decide +kernel
theorem dX6_obey_111 : decode cX6_obey 111 = .ok (.getfield 42, 3) := by decide +kernel
theorem dX6_obey_114 : decode cX6_obey 114 = .ok (.iconst 0, 1) := by decide +kernel
theorem dX6_obey_115 : decode cX6_obey 115 = .ok (.invokevirtual 213, 3) := by decide +kernel
theorem dX6_obey_118 : decode cX6_obey 118 = .ok (.invokevirtual 72, 3) := by decide +kernel
theorem dX6_obey_121 : decode cX6_obey 121 = .ok (.ireturn, 1) := by decide +kernel
theorem dX6_obey_122 : decode cX6_obey 122 = .ok (.aload_n 0, 1) := by decide +kernel
theorem dX6_obey_123 : decode cX6_obey 123 = .ok (.getfield 10, 3) := by decide +kernel
theorem dX6_obey_126 : decode cX6_obey 126 = .ok (.aload_n 0, 1) := by decide +kernel
theorem dX6_obey_127 : decode cX6_obey 127 = .ok (.getfield 42, 3) := by decide +kernel
theorem dX6_obey_130 : decode cX6_obey 130 = .ok (.iconst 0, 1) := by decide +kernel
theorem dX6_obey_131 : decode cX6_obey 131 = .ok (.invokevirtual 213, 3) := by decide +kernel
theorem dX6_obey_134 : decode cX6_obey 134 = .ok (.aload_n 0, 1) := by decide +kernel
theorem dX6_obey_135 : decode cX6_obey 135 = .ok (.getfield 42, 3) := by decide +kernel
theorem dX6_obey_138 : decode cX6_obey 138 = .ok (.iconst 1, 1) := by decide +kernel
theorem dX6_obey_139 : decode cX6_obey 139 = .ok (.invokevirtual 213, 3) := by decide +kernel
theorem dX6_obey_142 : decode cX6_obey 142 = .ok (.aload_n 0, 1) := by decide +kernel
theorem dX6_obey_143 : decode cX6_obey 143 = .ok (.getfield 42, 3) := by decide +kernel
theorem dX6_obey_146 : decode cX6_obey 146 = .ok (.iconst 2, 1) := by decide +kernel
theorem dX6_obey_147 : decode cX6_obey 147 = .ok (.invokevirtual 213, 3) := by decide +kernel
theorem dX6_obey_150 : decode cX6_obey 150 = .ok (.invokevirtual 68, 3) := by decide +kernel
theorem dX6_obey_153 : decode cX6_obey 153 = .ok (.ireturn, 1) := by decide +kernel
theorem dX6_obey_154 : decode cX6_obey 154 = .ok (.bipush (-3), 2) := by decide +kernel
theorem dX6_obey_156 : decode cX6_obey 156 = .ok (.ireturn, 1) := by decide +kernel
set_option maxRecDepth 20000 in
theorem ggX6_addRollerOfText_X2_numbers : GoodIn wsX6_addRollerOfText wsX2_numbers := goodIn_r _ [7, 8, 68, 69, 70, 71, 72] (by decide +kernel) (by decide +kernel)
set_option maxRecDepth 20000 in
theorem gX6_addRollerOfText_X2_numbers : GoodIn wsX6_addRollerOfText (wsV RX6 216 RX2 yX2_numbers wsX2_numbers) := goodIn_app (goodIn_of _ (by decide +kernel)) ggX6_addRollerOfText_X2_numbers
set_option maxRecDepth 20000 in
theorem ggX6_addRollerOfText_X3_addRoller : GoodIn wsX6_addRollerOfText wsX3_addRoller := goodIn_r _ [13, 14, 15, 16, 17, 18, 19, 12, 20, 21, 22, 23, 24, 25, 26, 27, 28, 29, 30, 31, 32, 33, 34, 35, 36, 73] (by decide +kernel) (by decide +kernel)
set_option maxRecDepth 20000 in
theorem gX6_addRollerOfText_X3_addRoller : GoodIn wsX6_addRollerOfText (wsV RX6 65 RX3 yX3_addRoller wsX3_addRoller) := goodIn_app (goodIn_of _ (by decide +kernel)) ggX6_addRollerOfText_X3_addRoller
set_option maxRecDepth 20000 in
theorem ggX6_addRollerOfText_X2_number : GoodIn wsX6_addRollerOfText wsX2_number := goodIn_r _ [40, 41, 68, 69, 70, 71, 72] (by decide +kernel) (by decide +kernel)
set_option maxRecDepth 20000 in
theorem gX6_addRollerOfText_X2_number : GoodIn wsX6_addRollerOfText (wsV RX6 213 RX2 yX2_number wsX2_number) := goodIn_app (goodIn_of _ (by decide +kernel)) ggX6_addRollerOfText_X2_number
set_option maxRecDepth 20000 in
theorem ggX6_addRollerOfText_X3_fileTooth : GoodIn wsX6_addRollerOfText wsX3_fileTooth := goodIn_r _ [45, 46, 47, 48, 12, 49, 50, 51, 52, 53, 17, 18, 19, 20, 21, 54, 55, 56, 57, 22, 23, 24, 14, 15, 16, 58, 59, 60, 61, 29, 30, 31, 32, 25, 26, 27, 28, 73] (by decide +kernel) (by decide +kernel)
set_option maxRecDepth 20000 in
theorem gX6_addRollerOfText_X3_fileTooth : GoodIn wsX6_addRollerOfText (wsV RX6 68 RX3 yX3_fileTooth wsX3_fileTooth) := goodIn_app (goodIn_of _ (by decide +kernel)) ggX6_addRollerOfText_X3_fileTooth
theorem dX6_addRollerOfText_0 : decode cX6_addRollerOfText 0 = .ok (.aload_n 0, 1) := by decide +kernel
theorem dX6_addRollerOfText_1 : decode cX6_addRollerOfText 1 = .ok (.getfield 42, 3) := by decide +kernel
theorem dX6_addRollerOfText_4 : decode cX6_addRollerOfText 4 = .ok (.invokevirtual 216, 3) := by decide +kernel
theorem dX6_addRollerOfText_7 : decode cX6_addRollerOfText 7 = .ok (.istore_n 1, 1) := by decide +kernel
theorem dX6_addRollerOfText_8 : decode cX6_addRollerOfText 8 = .ok (.aload_n 0, 1) := by decide +kernel
theorem dX6_addRollerOfText_9 : decode cX6_addRollerOfText 9 = .ok (.getfield 10, 3) := by decide +kernel
theorem dX6_addRollerOfText_12 : decode cX6_addRollerOfText 12 = .ok (.iload_n 1, 1) := by decide +kernel
theorem dX6_addRollerOfText_13 : decode cX6_addRollerOfText 13 = .ok (.iconst 0, 1) := by decide +kernel
theorem dX6_addRollerOfText_14 : decode cX6_addRollerOfText 14 = .ok (.invokevirtual 65, 3) := by decide +kernel
theorem dX6_addRollerOfText_17 : decode cX6_addRollerOfText 17 = .ok (.istore_n 2, 1) := by decide +kernel
theorem dX6_addRollerOfText_18 : decode cX6_addRollerOfText 18 = .ok (.iload_n 2, 1) := by decide +kernel
theorem dX6_addRollerOfText_19 : decode cX6_addRollerOfText 19 = .ok (.ifCond .ge 5, 3) := by decide +kernel
theorem dX6_addRollerOfText_22 : decode cX6_addRollerOfText 22 = .ok (.iload_n 2, 1) := by decide +kernel
theorem dX6_addRollerOfText_23 : decode cX6_addRollerOfText 23 = .ok (.ireturn, 1) := by decide +kernel
theorem dX6_addRollerOfText_24 : decode cX6_addRollerOfText 24 = .ok (.iconst 0, 1) := by decide +kernel
theorem dX6_addRollerOfText_25 : decode cX6_addRollerOfText 25 = .ok (.istore_n 3, 1) := by decide +kernel
theorem dX6_addRollerOfText_26 : decode cX6_addRollerOfText 26 = .ok (.iload_n 3, 1) := by decide +kernel
theorem dX6_addRollerOfText_27 : decode cX6_addRollerOfText 27 = .ok (.iload_n 1, 1) := by decide +kernel
theorem dX6_addRollerOfText_28 : decode cX6_addRollerOfText 28 = .ok (.if_icmp .ge 27, 3) := by decide +kernel
theorem dX6_addRollerOfText_31 : decode cX6_addRollerOfText 31 = .ok (.aload_n 0, 1) := by decide +kernel
theorem dX6_addRollerOfText_32 : decode cX6_addRollerOfText 32 = .ok (.getfield 10, 3) := by decide +kernel
theorem dX6_addRollerOfText_35 : decode cX6_addRollerOfText 35 = .ok (.iload_n 2, 1) := by decide +kernel
theorem dX6_addRollerOfText_36 : decode cX6_addRollerOfText 36 = .ok (.iload_n 3, 1) := by decide +kernel
theorem dX6_addRollerOfText_37 : decode cX6_addRollerOfText 37 = .ok (.aload_n 0, 1) := by decide +kernel
theorem dX6_addRollerOfText_38 : decode cX6_addRollerOfText 38 = .ok (.getfield 42, 3) := by decide +kernel
theorem dX6_addRollerOfText_41 : decode cX6_addRollerOfText 41 = .ok (.iload_n 3, 1) := by decide +kernel
theorem dX6_addRollerOfText_42 : decode cX6_addRollerOfText 42 = .ok (.invokevirtual 213, 3) := by decide +kernel
theorem dX6_addRollerOfText_45 : decode cX6_addRollerOfText 45 = .ok (.invokevirtual 68, 3) := by decide +kernel
theorem dX6_addRollerOfText_48 : decode cX6_addRollerOfText 48 = .ok (.pop, 1) := by decide +kernel
theorem dX6_addRollerOfText_49 : decode cX6_addRollerOfText 49 = .ok (.iinc 3 1, 3) := by decide +kernel
theorem dX6_addRollerOfText_52 : decode cX6_addRollerOfText 52 = .ok (.goto (-26), 3) := by decide +kernel
theorem dX6_addRollerOfText_55 : decode cX6_addRollerOfText 55 = .ok (.iload_n 2, 1) := by decide +kernel
theorem dX6_addRollerOfText_56 : decode cX6_addRollerOfText 56 = .ok (.ireturn, 1) := by decide +kernel
set_option maxRecDepth 20000 in
theorem ggX6_undo_X0_stepBack : GoodIn wsX6_undo wsX0_stepBack := goodIn_r _ [7, 8, 9, 10, 11, 12, 13, 14, 15, 16, 17, 18, 19, 20, 27, 28, 29, 30] (by decide +kernel) (by decide +kernel)
set_option maxRecDepth 20000 in
theorem gX6_undo_X0_stepBack : GoodIn wsX6_undo (wsV RX6 219 RX0 yX0_stepBack wsX0_stepBack) := goodIn_app (goodIn_of _ (by decide +kernel)) ggX6_undo_X0_stepBack
theorem dX6_undo_0 : decode cX6_undo 0 = .ok (.aload_n 0, 1) := by decide +kernel
theorem dX6_undo_1 : decode cX6_undo 1 = .ok (.getfield 19, 3) := by decide +kernel
theorem dX6_undo_4 : decode cX6_undo 4 = .ok (.aload_n 0, 1) := by decide +kernel
theorem dX6_undo_5 : decode cX6_undo 5 = .ok (.getfield 10, 3) := by decide +kernel
theorem dX6_undo_8 : decode cX6_undo 8 = .ok (.invokevirtual 219, 3) := by decide +kernel
theorem dX6_undo_11 : decode cX6_undo 11 = .ok (.ireturn, 1) := by decide +kernel
set_option maxRecDepth 20000 in
theorem ggX6_save_X4_keep : GoodIn wsX6_save wsX4_keep := goodIn_r _ [7, 8, 9, 10, 11, 12, 13, 14, 15, 16, 17, 18, 19, 20, 21, 22, 23, 24, 25, 26, 33, 34, 35] (by decide +kernel) (by decide +kernel)
set_option maxRecDepth 20000 in
theorem gX6_save_X4_keep : GoodIn wsX6_save (wsV RX6 223 RX4 yX4_keep wsX4_keep) := goodIn_app (goodIn_of _ (by decide +kernel)) ggX6_save_X4_keep
theorem dX6_save_0 : decode cX6_save 0 = .ok (.aload_n 0, 1) := by decide +kernel
theorem dX6_save_1 : decode cX6_save 1 = .ok (.getfield 26, 3) := by decide +kernel
theorem dX6_save_4 : decode cX6_save 4 = .ok (.iload_n 1, 1) := by decide +kernel
theorem dX6_save_5 : decode cX6_save 5 = .ok (.aload_n 0, 1) := by decide +kernel
theorem dX6_save_6 : decode cX6_save 6 = .ok (.getfield 10, 3) := by decide +kernel
theorem dX6_save_9 : decode cX6_save 9 = .ok (.invokevirtual 223, 3) := by decide +kernel
theorem dX6_save_12 : decode cX6_save 12 = .ok (.ireturn, 1) := by decide +kernel
set_option maxRecDepth 20000 in
theorem ggX6_restore_X0_prepare : GoodIn wsX6_restore wsX0_prepare := goodIn_r _ [8, 9, 10, 11, 12, 13, 14, 15, 16, 17, 18, 19, 20, 54, 55, 56, 57] (by decide +kernel) (by decide +kernel)
set_option maxRecDepth 20000 in
theorem gX6_restore_X0_prepare : GoodIn wsX6_restore (wsV RX6 53 RX0 yX0_prepare wsX0_prepare) := goodIn_app (goodIn_of _ (by decide +kernel)) ggX6_restore_X0_prepare
set_option maxRecDepth 20000 in
theorem ggX6_restore_X4_fetch : GoodIn wsX6_restore wsX4_fetch := goodIn_r _ [25, 26, 27, 28, 29, 30, 31, 32, 33, 14, 34, 16, 17, 18, 19, 20, 35, 36, 37, 38, 58, 59, 57] (by decide +kernel) (by decide +kernel)
set_option maxRecDepth 20000 in
theorem gX6_restore_X4_fetch : GoodIn wsX6_restore (wsV RX6 227 RX4 yX4_fetch wsX4_fetch) := goodIn_app (goodIn_of _ (by decide +kernel)) ggX6_restore_X4_fetch
set_option maxRecDepth 20000 in
theorem ggX6_restore_X0_recorded : GoodIn wsX6_restore wsX0_recorded := goodIn_r _ [42, 10, 43, 44, 45, 46, 47, 54, 55, 56] (by decide +kernel) (by decide +kernel)
set_option maxRecDepth 20000 in
theorem gX6_restore_X0_recorded : GoodIn wsX6_restore (wsV RX6 61 RX0 yX0_recorded wsX0_recorded) := goodIn_app (goodIn_of _ (by decide +kernel)) ggX6_restore_X0_recorded
theorem dX6_restore_0 : decode cX6_restore 0 = .ok (.aload_n 0, 1) := by decide +kernel
theorem dX6_restore_1 : decode cX6_restore 1 = .ok (.getfield 19, 3) := by decide +kernel
theorem dX6_restore_4 : decode cX6_restore 4 = .ok (.aload_n 0, 1) := by decide +kernel
theorem dX6_restore_5 : decode cX6_restore 5 = .ok (.getfield 10, 3) := by decide +kernel
theorem dX6_restore_8 : decode cX6_restore 8 = .ok (.invokevirtual 53, 3) := by decide +kernel
theorem dX6_restore_11 : decode cX6_restore 11 = .ok (.aload_n 0, 1) := by decide +kernel
theorem dX6_restore_12 : decode cX6_restore 12 = .ok (.getfield 19, 3) := by decide +kernel
theorem dX6_restore_15 : decode cX6_restore 15 = .ok (.aload_n 0, 1) := by decide +kernel
theorem dX6_restore_16 : decode cX6_restore 16 = .ok (.getfield 26, 3) := by decide +kernel
theorem dX6_restore_19 : decode cX6_restore 19 = .ok (.iload_n 1, 1) := by decide +kernel
theorem dX6_restore_20 : decode cX6_restore 20 = .ok (.aload_n 0, 1) := by decide +kernel
theorem dX6_restore_21 : decode cX6_restore 21 = .ok (.getfield 10, 3) := by decide +kernel
theorem dX6_restore_24 : decode cX6_restore 24 = .ok (.invokevirtual 227, 3) := by decide +kernel
theorem dX6_restore_27 : decode cX6_restore 27 = .ok (.invokevirtual 61, 3) := by decide +kernel
theorem dX6_restore_30 : decode cX6_restore 30 = .ok (.ireturn, 1) := by decide +kernel
theorem dX7_init_0 : decode cX7_init 0 = .ok (.aload_n 0, 1) := by decide +kernel
theorem dX7_init_1 : decode cX7_init 1 = .ok (.invokespecial 1, 3) := by decide +kernel
theorem dX7_init_4 : decode cX7_init 4 = .ok (.aload_n 0, 1) := by decide +kernel
theorem dX7_init_5 : decode cX7_init 5 = .ok (.sipush 225, 3) := by decide +kernel
theorem dX7_init_8 : decode cX7_init 8 = .ok (.newarray .int, 2) := by decide +kernel
theorem dX7_init_10 : decode cX7_init 10 = .ok (.putfield 7, 3) := by decide +kernel
theorem dX7_init_13 : decode cX7_init 13 = .ok (.aload_n 0, 1) := by decide +kernel
theorem dX7_init_14 : decode cX7_init 14 = .ok (.sipush 1350, 3) := by decide +kernel
theorem dX7_init_17 : decode cX7_init 17 = .ok (.newarray .int, 2) := by decide +kernel
theorem dX7_init_19 : decode cX7_init 19 = .ok (.putfield 13, 3) := by decide +kernel
theorem dX7_init_22 : decode cX7_init 22 = .ok (.aload_n 0, 1) := by decide +kernel
theorem dX7_init_23 : decode cX7_init 23 = .ok (.sipush 450, 3) := by decide +kernel
theorem dX7_init_26 : decode cX7_init 26 = .ok (.newarray .int, 2) := by decide +kernel
theorem dX7_init_28 : decode cX7_init 28 = .ok (.putfield 16, 3) := by decide +kernel
theorem dX7_init_31 : decode cX7_init 31 = .ok (.aload_n 0, 1) := by decide +kernel
theorem dX7_init_32 : decode cX7_init 32 = .ok (.iconst 2, 1) := by decide +kernel
theorem dX7_init_33 : decode cX7_init 33 = .ok (.newarray .boolean, 2) := by decide +kernel
theorem dX7_init_35 : decode cX7_init 35 = .ok (.putfield 19, 3) := by decide +kernel
theorem dX7_init_38 : decode cX7_init 38 = .ok (.aload_n 0, 1) := by decide +kernel
theorem dX7_init_39 : decode cX7_init 39 = .ok (.bipush 80, 2) := by decide +kernel
theorem dX7_init_41 : decode cX7_init 41 = .ok (.newarray .int, 2) := by decide +kernel
theorem dX7_init_43 : decode cX7_init 43 = .ok (.putfield 23, 3) := by decide +kernel
theorem dX7_init_46 : decode cX7_init 46 = .ok (.aload_n 0, 1) := by decide +kernel
theorem dX7_init_47 : decode cX7_init 47 = .ok (.bipush 42, 2) := by decide +kernel
theorem dX7_init_49 : decode cX7_init 49 = .ok (.newarray .int, 2) := by decide +kernel
theorem dX7_init_51 : decode cX7_init 51 = .ok (.putfield 26, 3) := by decide +kernel
theorem dX7_init_54 : decode cX7_init 54 = .ok (.aload_n 0, 1) := by decide +kernel
theorem dX7_init_55 : decode cX7_init 55 = .ok (.getfield 7, 3) := by decide +kernel
theorem dX7_init_58 : decode cX7_init 58 = .ok (.iconst 0, 1) := by decide +kernel
theorem dX7_init_59 : decode cX7_init 59 = .ok (.bipush 6, 2) := by decide +kernel
theorem dX7_init_61 : decode cX7_init 61 = .ok (.iastore, 1) := by decide +kernel
theorem dX7_init_62 : decode cX7_init 62 = .ok (.aload_n 0, 1) := by decide +kernel
theorem dX7_init_63 : decode cX7_init 63 = .ok (.getfield 7, 3) := by decide +kernel
theorem dX7_init_66 : decode cX7_init 66 = .ok (.iconst 1, 1) := by decide +kernel
theorem dX7_init_67 : decode cX7_init 67 = .ok (.iconst 4, 1) := by decide +kernel
theorem dX7_init_68 : decode cX7_init 68 = .ok (.iastore, 1) := by decide +kernel
theorem dX7_init_69 : decode cX7_init 69 = .ok (.aload_n 0, 1) := by decide +kernel
theorem dX7_init_70 : decode cX7_init 70 = .ok (.getfield 7, 3) := by decide +kernel
theorem dX7_init_73 : decode cX7_init 73 = .ok (.iconst 2, 1) := by decide +kernel
theorem dX7_init_74 : decode cX7_init 74 = .ok (.bipush 20, 2) := by decide +kernel
theorem dX7_init_76 : decode cX7_init 76 = .ok (.iastore, 1) := by decide +kernel
theorem dX7_init_77 : decode cX7_init 77 = .ok (.aload_n 0, 1) := by decide +kernel
theorem dX7_init_78 : decode cX7_init 78 = .ok (.getfield 7, 3) := by decide +kernel
theorem dX7_init_81 : decode cX7_init 81 = .ok (.iconst 4, 1) := by decide +kernel
theorem dX7_init_82 : decode cX7_init 82 = .ok (.iconst 5, 1) := by decide +kernel
theorem dX7_init_83 : decode cX7_init 83 = .ok (.iastore, 1) := by decide +kernel
theorem dX7_init_84 : decode cX7_init 84 = .ok (.aload_n 0, 1) := by decide +kernel
theorem dX7_init_85 : decode cX7_init 85 = .ok (.getfield 7, 3) := by decide +kernel
theorem dX7_init_88 : decode cX7_init 88 = .ok (.iconst 5, 1) := by decide +kernel
theorem dX7_init_89 : decode cX7_init 89 = .ok (.iconst 5, 1) := by decide +kernel
theorem dX7_init_90 : decode cX7_init 90 = .ok (.iastore, 1) := by decide +kernel
theorem dX7_init_91 : decode cX7_init 91 = .ok (.return_, 1) := by decide +kernel
theorem dX7_in_0 : decode cX7_in 0 = .ok (.iload_n 0, 1) := by decide +kernel
theorem dX7_in_1 : decode cX7_in 1 = .ok (.iload_n 1, 1) := by decide +kernel
theorem dX7_in_2 : decode cX7_in 2 = .ok (.if_icmp .lt 12, 3) := by decide +kernel
theorem dX7_in_5 : decode cX7_in 5 = .ok (.iload_n 0, 1) := by decide +kernel
theorem dX7_in_6 : decode cX7_in 6 = .ok (.iload_n 2, 1) := by decide +kernel
theorem dX7_in_7 : decode cX7_in 7 = .ok (.if_icmp .gt 7, 3) := by decide +kernel
theorem dX7_in_10 : decode cX7_in 10 = .ok (.iconst 1, 1) := by decide +kernel
theorem dX7_in_11 : decode cX7_in 11 = .ok (.goto 4, 3) := by decide +kernel
theorem dX7_in_14 : decode cX7_in 14 = .ok (.iconst 0, 1) := by decide +kernel
theorem dX7_in_15 : decode cX7_in 15 = .ok (.ireturn, 1) := by decide +kernel
theorem dX7_lays_0 : decode cX7_lays 0 = .ok (.iconst 0, 1) := by decide +kernel
theorem dX7_lays_1 : decode cX7_lays 1 = .ok (.istore 4, 2) := by decide +kernel
theorem dX7_lays_3 : decode cX7_lays 3 = .ok (.iload 4, 2) := by decide +kernel
theorem dX7_lays_5 : decode cX7_lays 5 = .ok (.sipush 225, 3) := by decide +kernel
theorem dX7_lays_8 : decode cX7_lays 8 = .ok (.if_icmp .ge 21, 3) := by decide +kernel
theorem dX7_lays_11 : decode cX7_lays 11 = .ok (.aload_n 2, 1) := by decide +kernel
theorem dX7_lays_12 : decode cX7_lays 12 = .ok (.iload_n 3, 1) := by decide +kernel
theorem dX7_lays_13 : decode cX7_lays 13 = .ok (.iload 4, 2) := by decide +kernel
theorem dX7_lays_15 : decode cX7_lays 15 = .ok (.iadd, 1) := by decide +kernel
theorem dX7_lays_16 : decode cX7_lays 16 = .ok (.aload_n 0, 1) := by decide +kernel
theorem dX7_lays_17 : decode cX7_lays 17 = .ok (.iload_n 1, 1) := by decide +kernel
theorem dX7_lays_18 : decode cX7_lays 18 = .ok (.iload 4, 2) := by decide +kernel
theorem dX7_lays_20 : decode cX7_lays 20 = .ok (.iadd, 1) := by decide +kernel
theorem dX7_lays_21 : decode cX7_lays 21 = .ok (.iaload, 1) := by decide +kernel
theorem dX7_lays_22 : decode cX7_lays 22 = .ok (.iastore, 1) := by decide +kernel
theorem dX7_lays_23 : decode cX7_lays 23 = .ok (.iinc 4 1, 3) := by decide +kernel
theorem dX7_lays_26 : decode cX7_lays 26 = .ok (.goto (-23), 3) := by decide +kernel
theorem dX7_lays_29 : decode cX7_lays 29 = .ok (.return_, 1) := by decide +kernel
set_option maxRecDepth 20000 in
theorem ggX7_records_X7_lays : GoodIn wsX7_records wsX7_lays := goodIn_r _ [7] (by decide +kernel) (by decide +kernel)
set_option maxRecDepth 20000 in
theorem gX7_records_X7_lays : GoodIn wsX7_records (va_wsS RX7 33 yX7_lays wsX7_lays) := goodIn_app (goodIn_of _ (by decide +kernel)) ggX7_records_X7_lays
theorem dX7_records_0 : decode cX7_records 0 = .ok (.aload_n 0, 1) := by decide +kernel
theorem dX7_records_1 : decode cX7_records 1 = .ok (.getfield 29, 3) := by decide +kernel
theorem dX7_records_4 : decode cX7_records 4 = .ok (.bipush 6, 2) := by decide +kernel
theorem dX7_records_6 : decode cX7_records 6 = .ok (.if_icmp .ne 44, 3) := by decide +kernel
theorem dX7_records_9 : decode cX7_records 9 = .ok (.iconst 0, 1) := by decide +kernel
theorem dX7_records_10 : decode cX7_records 10 = .ok (.istore_n 1, 1) := by decide +kernel
theorem dX7_records_11 : decode cX7_records 11 = .ok (.iload_n 1, 1) := by decide +kernel
theorem dX7_records_12 : decode cX7_records 12 = .ok (.sipush 1125, 3) := by decide +kernel
theorem dX7_records_15 : decode cX7_records 15 = .ok (.if_icmp .ge 25, 3) := by decide +kernel
theorem dX7_records_18 : decode cX7_records 18 = .ok (.aload_n 0, 1) := by decide +kernel
theorem dX7_records_19 : decode cX7_records 19 = .ok (.getfield 13, 3) := by decide +kernel
theorem dX7_records_22 : decode cX7_records 22 = .ok (.iload_n 1, 1) := by decide +kernel
theorem dX7_records_23 : decode cX7_records 23 = .ok (.aload_n 0, 1) := by decide +kernel
theorem dX7_records_24 : decode cX7_records 24 = .ok (.getfield 13, 3) := by decide +kernel
theorem dX7_records_27 : decode cX7_records 27 = .ok (.iload_n 1, 1) := by decide +kernel
theorem dX7_records_28 : decode cX7_records 28 = .ok (.sipush 225, 3) := by decide +kernel
theorem dX7_records_31 : decode cX7_records 31 = .ok (.iadd, 1) := by decide +kernel
theorem dX7_records_32 : decode cX7_records 32 = .ok (.iaload, 1) := by decide +kernel
theorem dX7_records_33 : decode cX7_records 33 = .ok (.iastore, 1) := by decide +kernel
theorem dX7_records_34 : decode cX7_records 34 = .ok (.iinc 1 1, 3) := by decide +kernel
theorem dX7_records_37 : decode cX7_records 37 = .ok (.goto (-26), 3) := by decide +kernel
theorem dX7_records_40 : decode cX7_records 40 = .ok (.aload_n 0, 1) := by decide +kernel
theorem dX7_records_41 : decode cX7_records 41 = .ok (.dup, 1) := by decide +kernel
theorem dX7_records_42 : decode cX7_records 42 = .ok (.getfield 29, 3) := by decide +kernel
theorem dX7_records_45 : decode cX7_records 45 = .ok (.iconst 1, 1) := by decide +kernel
theorem dX7_records_46 : decode cX7_records 46 = .ok (.isub, 1) := by decide +kernel
theorem dX7_records_47 : decode cX7_records 47 = .ok (.putfield 29, 3) := by decide +kernel
theorem dX7_records_50 : decode cX7_records 50 = .ok (.aload_n 0, 1) := by decide +kernel
theorem dX7_records_51 : decode cX7_records 51 = .ok (.getfield 7, 3) := by decide +kernel
theorem dX7_records_54 : decode cX7_records 54 = .ok (.iconst 0, 1) := by decide +kernel
theorem dX7_records_55 : decode cX7_records 55 = .ok (.aload_n 0, 1) := by decide +kernel
theorem dX7_records_56 : decode cX7_records 56 = .ok (.getfield 13, 3) := by decide +kernel
theorem dX7_records_59 : decode cX7_records 59 = .ok (.sipush 225, 3) := by decide +kernel
theorem dX7_records_62 : decode cX7_records 62 = .ok (.aload_n 0, 1) := by decide +kernel
theorem dX7_records_63 : decode cX7_records 63 = .ok (.getfield 29, 3) := by decide +kernel
theorem dX7_records_66 : decode cX7_records 66 = .ok (.imul, 1) := by decide +kernel
theorem dX7_records_67 : decode cX7_records 67 = .ok (.invokestatic 33, 3) := by decide +kernel
theorem dX7_records_70 : decode cX7_records 70 = .ok (.aload_n 0, 1) := by decide +kernel
theorem dX7_records_71 : decode cX7_records 71 = .ok (.dup, 1) := by decide +kernel
theorem dX7_records_72 : decode cX7_records 72 = .ok (.getfield 29, 3) := by decide +kernel
theorem dX7_records_75 : decode cX7_records 75 = .ok (.iconst 1, 1) := by decide +kernel
theorem dX7_records_76 : decode cX7_records 76 = .ok (.iadd, 1) := by decide +kernel
theorem dX7_records_77 : decode cX7_records 77 = .ok (.putfield 29, 3) := by decide +kernel
theorem dX7_records_80 : decode cX7_records 80 = .ok (.return_, 1) := by decide +kernel
set_option maxRecDepth 20000 in
theorem ggX7_isRoller_X7_in : GoodIn wsX7_isRoller wsX7_in := goodIn_r _ [5] (by decide +kernel) (by decide +kernel)
set_option maxRecDepth 20000 in
theorem gX7_isRoller_X7_in : GoodIn wsX7_isRoller (va_wsS RX7 37 yX7_in wsX7_in) := goodIn_app (goodIn_of _ (by decide +kernel)) ggX7_isRoller_X7_in
theorem dX7_isRoller_0 : decode cX7_isRoller 0 = .ok (.iload_n 1, 1) := by decide +kernel
theorem dX7_isRoller_1 : decode cX7_isRoller 1 = .ok (.iconst 0, 1) := by decide +kernel
theorem dX7_isRoller_2 : decode cX7_isRoller 2 = .ok (.aload_n 0, 1) := by decide +kernel
theorem dX7_isRoller_3 : decode cX7_isRoller 3 = .ok (.getfield 7, 3) := by decide +kernel
theorem dX7_isRoller_6 : decode cX7_isRoller 6 = .ok (.iconst 3, 1) := by decide +kernel
theorem dX7_isRoller_7 : decode cX7_isRoller 7 = .ok (.iaload, 1) := by decide +kernel
theorem dX7_isRoller_8 : decode cX7_isRoller 8 = .ok (.iconst 1, 1) := by decide +kernel
theorem dX7_isRoller_9 : decode cX7_isRoller 9 = .ok (.isub, 1) := by decide +kernel
theorem dX7_isRoller_10 : decode cX7_isRoller 10 = .ok (.invokestatic 37, 3) := by decide +kernel
theorem dX7_isRoller_13 : decode cX7_isRoller 13 = .ok (.ireturn, 1) := by decide +kernel
theorem dX7_ofR_0 : decode cX7_ofR 0 = .ok (.aload_n 0, 1) := by decide +kernel
theorem dX7_ofR_1 : decode cX7_ofR 1 = .ok (.getfield 7, 3) := by decide +kernel
theorem dX7_ofR_4 : decode cX7_ofR 4 = .ok (.bipush 9, 2) := by decide +kernel
theorem dX7_ofR_6 : decode cX7_ofR 6 = .ok (.bipush 27, 2) := by decide +kernel
theorem dX7_ofR_8 : decode cX7_ofR 8 = .ok (.iload_n 1, 1) := by decide +kernel
theorem dX7_ofR_9 : decode cX7_ofR 9 = .ok (.imul, 1) := by decide +kernel
theorem dX7_ofR_10 : decode cX7_ofR 10 = .ok (.iadd, 1) := by decide +kernel
theorem dX7_ofR_11 : decode cX7_ofR 11 = .ok (.iload_n 2, 1) := by decide +kernel
theorem dX7_ofR_12 : decode cX7_ofR 12 = .ok (.iadd, 1) := by decide +kernel
theorem dX7_ofR_13 : decode cX7_ofR 13 = .ok (.iaload, 1) := by decide +kernel
theorem dX7_ofR_14 : decode cX7_ofR 14 = .ok (.ireturn, 1) := by decide +kernel
set_option maxRecDepth 20000 in
theorem ggX7_isHeight_X7_in : GoodIn wsX7_isHeight wsX7_in := goodIn_r _ [4] (by decide +kernel) (by decide +kernel)
set_option maxRecDepth 20000 in
theorem gX7_isHeight_X7_in : GoodIn wsX7_isHeight (va_wsS RX7 37 yX7_in wsX7_in) := goodIn_app (goodIn_of _ (by decide +kernel)) ggX7_isHeight_X7_in
theorem dX7_isHeight_0 : decode cX7_isHeight 0 = .ok (.iload_n 0, 1) := by decide +kernel
theorem dX7_isHeight_1 : decode cX7_isHeight 1 = .ok (.bipush (-9), 2) := by decide +kernel
theorem dX7_isHeight_3 : decode cX7_isHeight 3 = .ok (.bipush 9, 2) := by decide +kernel
theorem dX7_isHeight_5 : decode cX7_isHeight 5 = .ok (.invokestatic 37, 3) := by decide +kernel
theorem dX7_isHeight_8 : decode cX7_isHeight 8 = .ok (.ireturn, 1) := by decide +kernel
set_option maxRecDepth 20000 in
theorem ggX7_pairError_X7_isRoller : GoodIn wsX7_pairError wsX7_isRoller := goodIn_r _ [5, 6, 7, 8, 4, 9, 10, 11, 12, 13, 14, 15, 16, 17, 18, 19, 20] (by decide +kernel) (by decide +kernel)
set_option maxRecDepth 20000 in
theorem gX7_pairError_X7_isRoller : GoodIn wsX7_pairError (wsV RX7 41 RX7 yX7_isRoller wsX7_isRoller) := goodIn_app (goodIn_of _ (by decide +kernel)) ggX7_pairError_X7_isRoller
set_option maxRecDepth 20000 in
theorem ggX7_pairError_X7_in : GoodIn wsX7_pairError wsX7_in := goodIn_r _ [9] (by decide +kernel) (by decide +kernel)
set_option maxRecDepth 20000 in
theorem gX7_pairError_X7_in : GoodIn wsX7_pairError (va_wsS RX7 37 yX7_in wsX7_in) := goodIn_app (goodIn_of _ (by decide +kernel)) ggX7_pairError_X7_in
theorem dX7_pairError_0 : decode cX7_pairError 0 = .ok (.aload_n 0, 1) := by decide +kernel
theorem dX7_pairError_1 : decode cX7_pairError 1 = .ok (.iload_n 1, 1) := by decide +kernel
theorem dX7_pairError_2 : decode cX7_pairError 2 = .ok (.invokevirtual 41, 3) := by decide +kernel
theorem dX7_pairError_5 : decode cX7_pairError 5 = .ok (.ifCond .eq 11, 3) := by decide +kernel
theorem dX7_pairError_8 : decode cX7_pairError 8 = .ok (.aload_n 0, 1) := by decide +kernel
theorem dX7_pairError_9 : decode cX7_pairError 9 = .ok (.iload_n 2, 1) := by decide +kernel
theorem dX7_pairError_10 : decode cX7_pairError 10 = .ok (.invokevirtual 41, 3) := by decide +kernel
theorem dX7_pairError_13 : decode cX7_pairError 13 = .ok (.ifCond .ne 5, 3) := by decide +kernel
theorem dX7_pairError_16 : decode cX7_pairError 16 = .ok (.iconst (-1), 1) := by decide +kernel
theorem dX7_pairError_17 : decode cX7_pairError 17 = .ok (.ireturn, 1) := by decide +kernel
theorem dX7_pairError_18 : decode cX7_pairError 18 = .ok (.iload_n 1, 1) := by decide +kernel
theorem dX7_pairError_19 : decode cX7_pairError 19 = .ok (.iload_n 2, 1) := by decide +kernel
theorem dX7_pairError_20 : decode cX7_pairError 20 = .ok (.if_icmp .eq 24, 3) := by decide +kernel
theorem dX7_pairError_23 : decode cX7_pairError 23 = .ok (.iload_n 3, 1) := by decide +kernel
theorem dX7_pairError_24 : decode cX7_pairError 24 = .ok (.iconst 0, 1) := by decide +kernel
theorem dX7_pairError_25 : decode cX7_pairError 25 = .ok (.bipush 23, 2) := by decide +kernel
theorem dX7_pairError_27 : decode cX7_pairError 27 = .ok (.invokestatic 37, 3) := by decide +kernel
theorem dX7_pairError_30 : decode cX7_pairError 30 = .ok (.ifCond .eq 14, 3) := by decide +kernel
theorem dX7_pairError_33 : decode cX7_pairError 33 = .ok (.iload 4, 2) := by decide +kernel
theorem dX7_pairError_35 : decode cX7_pairError 35 = .ok (.iconst 0, 1) := by decide +kernel
theorem dX7_pairError_36 : decode cX7_pairError 36 = .ok (.bipush 30, 2) := by decide +kernel
theorem dX7_pairError_38 : decode cX7_pairError 38 = .ok (.invokestatic 37, 3) := by decide +kernel
theorem dX7_pairError_41 : decode cX7_pairError 41 = .ok (.ifCond .ne 8, 3) := by decide +kernel
theorem dX7_pairError_44 : decode cX7_pairError 44 = .ok (.bipush (-2), 2) := by decide +kernel
theorem dX7_pairError_46 : decode cX7_pairError 46 = .ok (.goto 4, 3) := by decide +kernel
theorem dX7_pairError_49 : decode cX7_pairError 49 = .ok (.iconst 0, 1) := by decide +kernel
theorem dX7_pairError_50 : decode cX7_pairError 50 = .ok (.ireturn, 1) := by decide +kernel
set_option maxRecDepth 20000 in
theorem ggX7_turn_X7_ofR : GoodIn wsX7_turn wsX7_ofR := goodIn_r _ [5, 6, 7, 8, 9, 10, 11, 12, 13, 14, 15, 16, 17] (by decide +kernel) (by decide +kernel)
set_option maxRecDepth 20000 in
theorem gX7_turn_X7_ofR : GoodIn wsX7_turn (wsV RX7 45 RX7 yX7_ofR wsX7_ofR) := goodIn_app (goodIn_of _ (by decide +kernel)) ggX7_turn_X7_ofR
theorem dX7_turn_0 : decode cX7_turn 0 = .ok (.aload_n 0, 1) := by decide +kernel
theorem dX7_turn_1 : decode cX7_turn 1 = .ok (.iload_n 1, 1) := by decide +kernel
theorem dX7_turn_2 : decode cX7_turn 2 = .ok (.iconst 0, 1) := by decide +kernel
theorem dX7_turn_3 : decode cX7_turn 3 = .ok (.invokevirtual 45, 3) := by decide +kernel
theorem dX7_turn_6 : decode cX7_turn 6 = .ok (.istore_n 3, 1) := by decide +kernel
theorem dX7_turn_7 : decode cX7_turn 7 = .ok (.iload_n 3, 1) := by decide +kernel
theorem dX7_turn_8 : decode cX7_turn 8 = .ok (.aload_n 0, 1) := by decide +kernel
theorem dX7_turn_9 : decode cX7_turn 9 = .ok (.iload_n 2, 1) := by decide +kernel
theorem dX7_turn_10 : decode cX7_turn 10 = .ok (.iconst 0, 1) := by decide +kernel
theorem dX7_turn_11 : decode cX7_turn 11 = .ok (.invokevirtual 45, 3) := by decide +kernel
theorem dX7_turn_14 : decode cX7_turn 14 = .ok (.irem, 1) := by decide +kernel
theorem dX7_turn_15 : decode cX7_turn 15 = .ok (.ifCond .eq 15, 3) := by decide +kernel
theorem dX7_turn_18 : decode cX7_turn 18 = .ok (.iload_n 3, 1) := by decide +kernel
theorem dX7_turn_19 : decode cX7_turn 19 = .ok (.aload_n 0, 1) := by decide +kernel
theorem dX7_turn_20 : decode cX7_turn 20 = .ok (.iload_n 1, 1) := by decide +kernel
theorem dX7_turn_21 : decode cX7_turn 21 = .ok (.iconst 0, 1) := by decide +kernel
theorem dX7_turn_22 : decode cX7_turn 22 = .ok (.invokevirtual 45, 3) := by decide +kernel
theorem dX7_turn_25 : decode cX7_turn 25 = .ok (.iadd, 1) := by decide +kernel
theorem dX7_turn_26 : decode cX7_turn 26 = .ok (.istore_n 3, 1) := by decide +kernel
theorem dX7_turn_27 : decode cX7_turn 27 = .ok (.goto (-20), 3) := by decide +kernel
theorem dX7_turn_30 : decode cX7_turn 30 = .ok (.iload_n 3, 1) := by decide +kernel
theorem dX7_turn_31 : decode cX7_turn 31 = .ok (.ireturn, 1) := by decide +kernel
set_option maxRecDepth 20000 in
theorem ggX7_press_X7_ofR : GoodIn wsX7_press wsX7_ofR := goodIn_r _ [5, 6, 7, 8, 9, 10, 11, 12, 13, 14, 15, 16, 17] (by decide +kernel) (by decide +kernel)
set_option maxRecDepth 20000 in
theorem gX7_press_X7_ofR : GoodIn wsX7_press (wsV RX7 45 RX7 yX7_ofR wsX7_ofR) := goodIn_app (goodIn_of _ (by decide +kernel)) ggX7_press_X7_ofR
theorem dX7_press_0 : decode cX7_press 0 = .ok (.aload_n 0, 1) := by decide +kernel
theorem dX7_press_1 : decode cX7_press 1 = .ok (.iload_n 1, 1) := by decide +kernel
theorem dX7_press_2 : decode cX7_press 2 = .ok (.iconst 3, 1) := by decide +kernel
theorem dX7_press_3 : decode cX7_press 3 = .ok (.iload 4, 2) := by decide +kernel
theorem dX7_press_5 : decode cX7_press 5 = .ok (.aload_n 0, 1) := by decide +kernel
theorem dX7_press_6 : decode cX7_press 6 = .ok (.iload_n 1, 1) := by decide +kernel
theorem dX7_press_7 : decode cX7_press 7 = .ok (.iconst 0, 1) := by decide +kernel
theorem dX7_press_8 : decode cX7_press 8 = .ok (.invokevirtual 45, 3) := by decide +kernel
theorem dX7_press_11 : decode cX7_press 11 = .ok (.irem, 1) := by decide +kernel
theorem dX7_press_12 : decode cX7_press 12 = .ok (.iadd, 1) := by decide +kernel
theorem dX7_press_13 : decode cX7_press 13 = .ok (.invokevirtual 45, 3) := by decide +kernel
theorem dX7_press_16 : decode cX7_press 16 = .ok (.istore 5, 2) := by decide +kernel
theorem dX7_press_18 : decode cX7_press 18 = .ok (.iload 5, 2) := by decide +kernel
theorem dX7_press_20 : decode cX7_press 20 = .ok (.ineg, 1) := by decide +kernel
theorem dX7_press_21 : decode cX7_press 21 = .ok (.aload_n 0, 1) := by decide +kernel
theorem dX7_press_22 : decode cX7_press 22 = .ok (.iload_n 2, 1) := by decide +kernel
theorem dX7_press_23 : decode cX7_press 23 = .ok (.iconst 3, 1) := by decide +kernel
theorem dX7_press_24 : decode cX7_press 24 = .ok (.iload 4, 2) := by decide +kernel
theorem dX7_press_26 : decode cX7_press 26 = .ok (.iload_n 3, 1) := by decide +kernel
theorem dX7_press_27 : decode cX7_press 27 = .ok (.iadd, 1) := by decide +kernel
theorem dX7_press_28 : decode cX7_press 28 = .ok (.aload_n 0, 1) := by decide +kernel
theorem dX7_press_29 : decode cX7_press 29 = .ok (.iload_n 2, 1) := by decide +kernel
theorem dX7_press_30 : decode cX7_press 30 = .ok (.iconst 0, 1) := by decide +kernel
theorem dX7_press_31 : decode cX7_press 31 = .ok (.invokevirtual 45, 3) := by decide +kernel
theorem dX7_press_34 : decode cX7_press 34 = .ok (.irem, 1) := by decide +kernel
theorem dX7_press_35 : decode cX7_press 35 = .ok (.iadd, 1) := by decide +kernel
theorem dX7_press_36 : decode cX7_press 36 = .ok (.invokevirtual 45, 3) := by decide +kernel
theorem dX7_press_39 : decode cX7_press 39 = .ok (.isub, 1) := by decide +kernel
theorem dX7_press_40 : decode cX7_press 40 = .ok (.ireturn, 1) := by decide +kernel
theorem dX7_apart_0 : decode cX7_apart 0 = .ok (.iload_n 0, 1) := by decide +kernel
theorem dX7_apart_1 : decode cX7_apart 1 = .ok (.iload_n 1, 1) := by decide +kernel
theorem dX7_apart_2 : decode cX7_apart 2 = .ok (.if_icmp .ge 9, 3) := by decide +kernel
theorem dX7_apart_5 : decode cX7_apart 5 = .ok (.iload_n 1, 1) := by decide +kernel
theorem dX7_apart_6 : decode cX7_apart 6 = .ok (.iload_n 0, 1) := by decide +kernel
theorem dX7_apart_7 : decode cX7_apart 7 = .ok (.isub, 1) := by decide +kernel
theorem dX7_apart_8 : decode cX7_apart 8 = .ok (.goto 6, 3) := by decide +kernel
theorem dX7_apart_11 : decode cX7_apart 11 = .ok (.iload_n 0, 1) := by decide +kernel
theorem dX7_apart_12 : decode cX7_apart 12 = .ok (.iload_n 1, 1) := by decide +kernel
theorem dX7_apart_13 : decode cX7_apart 13 = .ok (.isub, 1) := by decide +kernel
theorem dX7_apart_14 : decode cX7_apart 14 = .ok (.ireturn, 1) := by decide +kernel
set_option maxRecDepth 20000 in
theorem ggX7_against_X7_turn : GoodIn wsX7_against wsX7_turn := goodIn_r _ [6, 7, 8, 9, 5, 10, 1, 18, 19, 20, 21, 22, 23, 24, 25, 26, 27, 28] (by decide +kernel) (by decide +kernel)
set_option maxRecDepth 20000 in
theorem gX7_against_X7_turn : GoodIn wsX7_against (wsV RX7 49 RX7 yX7_turn wsX7_turn) := goodIn_app (goodIn_of _ (by decide +kernel)) ggX7_against_X7_turn
set_option maxRecDepth 20000 in
theorem ggX7_against_X7_press : GoodIn wsX7_against wsX7_press := goodIn_r _ [14, 7, 8, 9, 5, 10, 1, 18, 19, 20, 21, 22, 23, 24, 25, 26, 27, 28] (by decide +kernel) (by decide +kernel)
set_option maxRecDepth 20000 in
theorem gX7_against_X7_press : GoodIn wsX7_against (wsV RX7 52 RX7 yX7_press wsX7_press) := goodIn_app (goodIn_of _ (by decide +kernel)) ggX7_against_X7_press
set_option maxRecDepth 20000 in
theorem ggX7_against_X7_apart : GoodIn wsX7_against wsX7_apart := goodIn_r _ [17] (by decide +kernel) (by decide +kernel)
set_option maxRecDepth 20000 in
theorem gX7_against_X7_apart : GoodIn wsX7_against (va_wsS RX7 56 yX7_apart wsX7_apart) := goodIn_app (goodIn_of _ (by decide +kernel)) ggX7_against_X7_apart
theorem dX7_against_0 : decode cX7_against 0 = .ok (.aload_n 0, 1) := by decide +kernel
theorem dX7_against_1 : decode cX7_against 1 = .ok (.iload_n 1, 1) := by decide +kernel
theorem dX7_against_2 : decode cX7_against 2 = .ok (.iload_n 2, 1) := by decide +kernel
theorem dX7_against_3 : decode cX7_against 3 = .ok (.invokevirtual 49, 3) := by decide +kernel
theorem dX7_against_6 : decode cX7_against 6 = .ok (.istore 5, 2) := by decide +kernel
theorem dX7_against_8 : decode cX7_against 8 = .ok (.aload_n 0, 1) := by decide +kernel
theorem dX7_against_9 : decode cX7_against 9 = .ok (.iload_n 1, 1) := by decide +kernel
theorem dX7_against_10 : decode cX7_against 10 = .ok (.iload_n 2, 1) := by decide +kernel
theorem dX7_against_11 : decode cX7_against 11 = .ok (.iload_n 3, 1) := by decide +kernel
theorem dX7_against_12 : decode cX7_against 12 = .ok (.iload 5, 2) := by decide +kernel
theorem dX7_against_14 : decode cX7_against 14 = .ok (.iconst 1, 1) := by decide +kernel
theorem dX7_against_15 : decode cX7_against 15 = .ok (.isub, 1) := by decide +kernel
theorem dX7_against_16 : decode cX7_against 16 = .ok (.invokevirtual 52, 3) := by decide +kernel
theorem dX7_against_19 : decode cX7_against 19 = .ok (.istore 6, 2) := by decide +kernel
theorem dX7_against_21 : decode cX7_against 21 = .ok (.iconst 0, 1) := by decide +kernel
theorem dX7_against_22 : decode cX7_against 22 = .ok (.istore 7, 2) := by decide +kernel
theorem dX7_against_24 : decode cX7_against 24 = .ok (.iload 7, 2) := by decide +kernel
theorem dX7_against_26 : decode cX7_against 26 = .ok (.iload 5, 2) := by decide +kernel
theorem dX7_against_28 : decode cX7_against 28 = .ok (.if_icmp .ge 63, 3) := by decide +kernel
theorem dX7_against_31 : decode cX7_against 31 = .ok (.aload_n 0, 1) := by decide +kernel
theorem dX7_against_32 : decode cX7_against 32 = .ok (.iload_n 1, 1) := by decide +kernel
theorem dX7_against_33 : decode cX7_against 33 = .ok (.iload_n 2, 1) := by decide +kernel
theorem dX7_against_34 : decode cX7_against 34 = .ok (.iload_n 3, 1) := by decide +kernel
theorem dX7_against_35 : decode cX7_against 35 = .ok (.iload 7, 2) := by decide +kernel
theorem dX7_against_37 : decode cX7_against 37 = .ok (.invokevirtual 52, 3) := by decide +kernel
theorem dX7_against_40 : decode cX7_against 40 = .ok (.istore 8, 2) := by decide +kernel
theorem dX7_against_42 : decode cX7_against 42 = .ok (.iload 8, 2) := by decide +kernel
theorem dX7_against_44 : decode cX7_against 44 = .ok (.iload 4, 2) := by decide +kernel
theorem dX7_against_46 : decode cX7_against 46 = .ok (.iadd, 1) := by decide +kernel
theorem dX7_against_47 : decode cX7_against 47 = .ok (.iconst 1, 1) := by decide +kernel
theorem dX7_against_48 : decode cX7_against 48 = .ok (.if_icmp .ge 10, 3) := by decide +kernel
theorem dX7_against_51 : decode cX7_against 51 = .ok (.iconst 4, 1) := by decide +kernel
theorem dX7_against_52 : decode cX7_against 52 = .ok (.iload 7, 2) := by decide +kernel
theorem dX7_against_54 : decode cX7_against 54 = .ok (.imul, 1) := by decide +kernel
theorem dX7_against_55 : decode cX7_against 55 = .ok (.iconst 1, 1) := by decide +kernel
theorem dX7_against_56 : decode cX7_against 56 = .ok (.iadd, 1) := by decide +kernel
theorem dX7_against_57 : decode cX7_against 57 = .ok (.ireturn, 1) := by decide +kernel
theorem dX7_against_58 : decode cX7_against 58 = .ok (.iload 8, 2) := by decide +kernel
theorem dX7_against_60 : decode cX7_against 60 = .ok (.iload 6, 2) := by decide +kernel
theorem dX7_against_62 : decode cX7_against 62 = .ok (.invokestatic 56, 3) := by decide +kernel
theorem dX7_against_65 : decode cX7_against 65 = .ok (.aload_n 0, 1) := by decide +kernel
theorem dX7_against_66 : decode cX7_against 66 = .ok (.getfield 7, 3) := by decide +kernel
theorem dX7_against_69 : decode cX7_against 69 = .ok (.iconst 0, 1) := by decide +kernel
theorem dX7_against_70 : decode cX7_against 70 = .ok (.iaload, 1) := by decide +kernel
theorem dX7_against_71 : decode cX7_against 71 = .ok (.if_icmp .le 10, 3) := by decide +kernel
theorem dX7_against_74 : decode cX7_against 74 = .ok (.iconst 4, 1) := by decide +kernel
theorem dX7_against_75 : decode cX7_against 75 = .ok (.iload 7, 2) := by decide +kernel
theorem dX7_against_77 : decode cX7_against 77 = .ok (.imul, 1) := by decide +kernel
theorem dX7_against_78 : decode cX7_against 78 = .ok (.iconst 2, 1) := by decide +kernel
theorem dX7_against_79 : decode cX7_against 79 = .ok (.iadd, 1) := by decide +kernel
theorem dX7_against_80 : decode cX7_against 80 = .ok (.ireturn, 1) := by decide +kernel
theorem dX7_against_81 : decode cX7_against 81 = .ok (.iload 8, 2) := by decide +kernel
theorem dX7_against_83 : decode cX7_against 83 = .ok (.istore 6, 2) := by decide +kernel
theorem dX7_against_85 : decode cX7_against 85 = .ok (.iinc 7 1, 3) := by decide +kernel
theorem dX7_against_88 : decode cX7_against 88 = .ok (.goto (-64), 3) := by decide +kernel
theorem dX7_against_91 : decode cX7_against 91 = .ok (.bipush (-6), 2) := by decide +kernel
theorem dX7_against_93 : decode cX7_against 93 = .ok (.ireturn, 1) := by decide +kernel
set_option maxRecDepth 20000 in
theorem ggX7_extreme_X7_turn : GoodIn wsX7_extreme wsX7_turn := goodIn_r _ [5, 6, 7, 8, 4, 9, 10, 15, 16, 17, 18, 19, 20, 21, 22, 23, 24, 25] (by decide +kernel) (by decide +kernel)
set_option maxRecDepth 20000 in
theorem gX7_extreme_X7_turn : GoodIn wsX7_extreme (wsV RX7 49 RX7 yX7_turn wsX7_turn) := goodIn_app (goodIn_of _ (by decide +kernel)) ggX7_extreme_X7_turn
set_option maxRecDepth 20000 in
theorem ggX7_extreme_X7_press : GoodIn wsX7_extreme wsX7_press := goodIn_r _ [14, 6, 7, 8, 4, 9, 10, 15, 16, 17, 18, 19, 20, 21, 22, 23, 24, 25] (by decide +kernel) (by decide +kernel)
set_option maxRecDepth 20000 in
theorem gX7_extreme_X7_press : GoodIn wsX7_extreme (wsV RX7 52 RX7 yX7_press wsX7_press) := goodIn_app (goodIn_of _ (by decide +kernel)) ggX7_extreme_X7_press
theorem dX7_extreme_0 : decode cX7_extreme 0 = .ok (.aload_n 0, 1) := by decide +kernel
theorem dX7_extreme_1 : decode cX7_extreme 1 = .ok (.iload_n 1, 1) := by decide +kernel
theorem dX7_extreme_2 : decode cX7_extreme 2 = .ok (.iload_n 2, 1) := by decide +kernel
theorem dX7_extreme_3 : decode cX7_extreme 3 = .ok (.invokevirtual 49, 3) := by decide +kernel
theorem dX7_extreme_6 : decode cX7_extreme 6 = .ok (.istore 5, 2) := by decide +kernel
theorem dX7_extreme_8 : decode cX7_extreme 8 = .ok (.aload_n 0, 1) := by decide +kernel
theorem dX7_extreme_9 : decode cX7_extreme 9 = .ok (.iload_n 1, 1) := by decide +kernel
theorem dX7_extreme_10 : decode cX7_extreme 10 = .ok (.iload_n 2, 1) := by decide +kernel
theorem dX7_extreme_11 : decode cX7_extreme 11 = .ok (.iload_n 3, 1) := by decide +kernel
theorem dX7_extreme_12 : decode cX7_extreme 12 = .ok (.iconst 0, 1) := by decide +kernel
theorem dX7_extreme_13 : decode cX7_extreme 13 = .ok (.invokevirtual 52, 3) := by decide +kernel
theorem dX7_extreme_16 : decode cX7_extreme 16 = .ok (.istore 6, 2) := by decide +kernel
theorem dX7_extreme_18 : decode cX7_extreme 18 = .ok (.iconst 1, 1) := by decide +kernel
theorem dX7_extreme_19 : decode cX7_extreme 19 = .ok (.istore 7, 2) := by decide +kernel
theorem dX7_extreme_21 : decode cX7_extreme 21 = .ok (.iload 7, 2) := by decide +kernel
theorem dX7_extreme_23 : decode cX7_extreme 23 = .ok (.iload 5, 2) := by decide +kernel
theorem dX7_extreme_25 : decode cX7_extreme 25 = .ok (.if_icmp .ge 46, 3) := by decide +kernel
theorem dX7_extreme_28 : decode cX7_extreme 28 = .ok (.aload_n 0, 1) := by decide +kernel
theorem dX7_extreme_29 : decode cX7_extreme 29 = .ok (.iload_n 1, 1) := by decide +kernel
theorem dX7_extreme_30 : decode cX7_extreme 30 = .ok (.iload_n 2, 1) := by decide +kernel
theorem dX7_extreme_31 : decode cX7_extreme 31 = .ok (.iload_n 3, 1) := by decide +kernel
theorem dX7_extreme_32 : decode cX7_extreme 32 = .ok (.iload 7, 2) := by decide +kernel
theorem dX7_extreme_34 : decode cX7_extreme 34 = .ok (.invokevirtual 52, 3) := by decide +kernel
theorem dX7_extreme_37 : decode cX7_extreme 37 = .ok (.istore 8, 2) := by decide +kernel
theorem dX7_extreme_39 : decode cX7_extreme 39 = .ok (.iload 4, 2) := by decide +kernel
theorem dX7_extreme_41 : decode cX7_extreme 41 = .ok (.iload 8, 2) := by decide +kernel
theorem dX7_extreme_43 : decode cX7_extreme 43 = .ok (.iload 6, 2) := by decide +kernel
theorem dX7_extreme_45 : decode cX7_extreme 45 = .ok (.if_icmp .ge 7, 3) := by decide +kernel
theorem dX7_extreme_48 : decode cX7_extreme 48 = .ok (.iconst 1, 1) := by decide +kernel
theorem dX7_extreme_49 : decode cX7_extreme 49 = .ok (.goto 4, 3) := by decide +kernel
theorem dX7_extreme_52 : decode cX7_extreme 52 = .ok (.iconst 0, 1) := by decide +kernel
theorem dX7_extreme_53 : decode cX7_extreme 53 = .ok (.if_icmp .ne 8, 3) := by decide +kernel
theorem dX7_extreme_56 : decode cX7_extreme 56 = .ok (.iload 8, 2) := by decide +kernel
theorem dX7_extreme_58 : decode cX7_extreme 58 = .ok (.goto 5, 3) := by decide +kernel
theorem dX7_extreme_61 : decode cX7_extreme 61 = .ok (.iload 6, 2) := by decide +kernel
theorem dX7_extreme_63 : decode cX7_extreme 63 = .ok (.istore 6, 2) := by decide +kernel
theorem dX7_extreme_65 : decode cX7_extreme 65 = .ok (.iinc 7 1, 3) := by decide +kernel
theorem dX7_extreme_68 : decode cX7_extreme 68 = .ok (.goto (-47), 3) := by decide +kernel
theorem dX7_extreme_71 : decode cX7_extreme 71 = .ok (.iload 6, 2) := by decide +kernel
theorem dX7_extreme_73 : decode cX7_extreme 73 = .ok (.ireturn, 1) := by decide +kernel
set_option maxRecDepth 20000 in
theorem ggX7_least_X7_against : GoodIn wsX7_least wsX7_against := goodIn_r _ [5, 6, 7, 8, 9, 4, 10, 11, 12, 13, 14, 15, 16, 17, 18, 19, 20, 21, 22, 23, 24, 25, 26, 27, 28, 29, 30, 31, 32] (by decide +kernel) (by decide +kernel)
set_option maxRecDepth 20000 in
theorem gX7_least_X7_against : GoodIn wsX7_least (wsV RX7 59 RX7 yX7_against wsX7_against) := goodIn_app (goodIn_of _ (by decide +kernel)) ggX7_least_X7_against
theorem dX7_least_0 : decode cX7_least 0 = .ok (.iconst 0, 1) := by decide +kernel
theorem dX7_least_1 : decode cX7_least 1 = .ok (.istore 4, 2) := by decide +kernel
theorem dX7_least_3 : decode cX7_least 3 = .ok (.iload 4, 2) := by decide +kernel
theorem dX7_least_5 : decode cX7_least 5 = .ok (.bipush 30, 2) := by decide +kernel
theorem dX7_least_7 : decode cX7_least 7 = .ok (.if_icmp .gt 26, 3) := by decide +kernel
theorem dX7_least_10 : decode cX7_least 10 = .ok (.aload_n 0, 1) := by decide +kernel
theorem dX7_least_11 : decode cX7_least 11 = .ok (.iload_n 1, 1) := by decide +kernel
theorem dX7_least_12 : decode cX7_least 12 = .ok (.iload_n 2, 1) := by decide +kernel
theorem dX7_least_13 : decode cX7_least 13 = .ok (.iload_n 3, 1) := by decide +kernel
theorem dX7_least_14 : decode cX7_least 14 = .ok (.iload 4, 2) := by decide +kernel
theorem dX7_least_16 : decode cX7_least 16 = .ok (.invokevirtual 59, 3) := by decide +kernel
theorem dX7_least_19 : decode cX7_least 19 = .ok (.bipush (-6), 2) := by decide +kernel
theorem dX7_least_21 : decode cX7_least 21 = .ok (.if_icmp .ne 6, 3) := by decide +kernel
theorem dX7_least_24 : decode cX7_least 24 = .ok (.iload 4, 2) := by decide +kernel
theorem dX7_least_26 : decode cX7_least 26 = .ok (.ireturn, 1) := by decide +kernel
theorem dX7_least_27 : decode cX7_least 27 = .ok (.iinc 4 1, 3) := by decide +kernel
theorem dX7_least_30 : decode cX7_least 30 = .ok (.goto (-27), 3) := by decide +kernel
theorem dX7_least_33 : decode cX7_least 33 = .ok (.bipush (-6), 2) := by decide +kernel
theorem dX7_least_35 : decode cX7_least 35 = .ok (.ireturn, 1) := by decide +kernel
set_option maxRecDepth 20000 in
theorem ggX7_tears_X7_apart : GoodIn wsX7_tears wsX7_apart := goodIn_r _ [6] (by decide +kernel) (by decide +kernel)
set_option maxRecDepth 20000 in
theorem gX7_tears_X7_apart : GoodIn wsX7_tears (va_wsS RX7 56 yX7_apart wsX7_apart) := goodIn_app (goodIn_of _ (by decide +kernel)) ggX7_tears_X7_apart
theorem dX7_tears_0 : decode cX7_tears 0 = .ok (.iload_n 1, 1) := by decide +kernel
theorem dX7_tears_1 : decode cX7_tears 1 = .ok (.iload_n 2, 1) := by decide +kernel
theorem dX7_tears_2 : decode cX7_tears 2 = .ok (.if_icmp .le 9, 3) := by decide +kernel
theorem dX7_tears_5 : decode cX7_tears 5 = .ok (.iload_n 1, 1) := by decide +kernel
theorem dX7_tears_6 : decode cX7_tears 6 = .ok (.iload_n 2, 1) := by decide +kernel
theorem dX7_tears_7 : decode cX7_tears 7 = .ok (.isub, 1) := by decide +kernel
theorem dX7_tears_8 : decode cX7_tears 8 = .ok (.goto 4, 3) := by decide +kernel
theorem dX7_tears_11 : decode cX7_tears 11 = .ok (.iconst 0, 1) := by decide +kernel
theorem dX7_tears_12 : decode cX7_tears 12 = .ok (.istore_n 3, 1) := by decide +kernel
theorem dX7_tears_13 : decode cX7_tears 13 = .ok (.aload_n 0, 1) := by decide +kernel
theorem dX7_tears_14 : decode cX7_tears 14 = .ok (.getfield 62, 3) := by decide +kernel
theorem dX7_tears_17 : decode cX7_tears 17 = .ok (.bipush (-6), 2) := by decide +kernel
theorem dX7_tears_19 : decode cX7_tears 19 = .ok (.if_icmp .eq 24, 3) := by decide +kernel
theorem dX7_tears_22 : decode cX7_tears 22 = .ok (.iload_n 3, 1) := by decide +kernel
theorem dX7_tears_23 : decode cX7_tears 23 = .ok (.aload_n 0, 1) := by decide +kernel
theorem dX7_tears_24 : decode cX7_tears 24 = .ok (.getfield 62, 3) := by decide +kernel
theorem dX7_tears_27 : decode cX7_tears 27 = .ok (.invokestatic 56, 3) := by decide +kernel
theorem dX7_tears_30 : decode cX7_tears 30 = .ok (.aload_n 0, 1) := by decide +kernel
theorem dX7_tears_31 : decode cX7_tears 31 = .ok (.getfield 7, 3) := by decide +kernel
theorem dX7_tears_34 : decode cX7_tears 34 = .ok (.iconst 1, 1) := by decide +kernel
theorem dX7_tears_35 : decode cX7_tears 35 = .ok (.iaload, 1) := by decide +kernel
theorem dX7_tears_36 : decode cX7_tears 36 = .ok (.if_icmp .le 7, 3) := by decide +kernel
theorem dX7_tears_39 : decode cX7_tears 39 = .ok (.iconst 1, 1) := by decide +kernel
theorem dX7_tears_40 : decode cX7_tears 40 = .ok (.goto 4, 3) := by decide +kernel
theorem dX7_tears_43 : decode cX7_tears 43 = .ok (.iconst 0, 1) := by decide +kernel
theorem dX7_tears_44 : decode cX7_tears 44 = .ok (.istore 4, 2) := by decide +kernel
theorem dX7_tears_46 : decode cX7_tears 46 = .ok (.aload_n 0, 1) := by decide +kernel
theorem dX7_tears_47 : decode cX7_tears 47 = .ok (.iload_n 3, 1) := by decide +kernel
theorem dX7_tears_48 : decode cX7_tears 48 = .ok (.putfield 62, 3) := by decide +kernel
theorem dX7_tears_51 : decode cX7_tears 51 = .ok (.iload_n 3, 1) := by decide +kernel
theorem dX7_tears_52 : decode cX7_tears 52 = .ok (.aload_n 0, 1) := by decide +kernel
theorem dX7_tears_53 : decode cX7_tears 53 = .ok (.getfield 7, 3) := by decide +kernel
theorem dX7_tears_56 : decode cX7_tears 56 = .ok (.iconst 5, 1) := by decide +kernel
theorem dX7_tears_57 : decode cX7_tears 57 = .ok (.iaload, 1) := by decide +kernel
theorem dX7_tears_58 : decode cX7_tears 58 = .ok (.if_icmp .gt 8, 3) := by decide +kernel
theorem dX7_tears_61 : decode cX7_tears 61 = .ok (.iload 4, 2) := by decide +kernel
theorem dX7_tears_63 : decode cX7_tears 63 = .ok (.ifCond .eq 7, 3) := by decide +kernel
theorem dX7_tears_66 : decode cX7_tears 66 = .ok (.iconst 1, 1) := by decide +kernel
theorem dX7_tears_67 : decode cX7_tears 67 = .ok (.goto 4, 3) := by decide +kernel
theorem dX7_tears_70 : decode cX7_tears 70 = .ok (.iconst 0, 1) := by decide +kernel
theorem dX7_tears_71 : decode cX7_tears 71 = .ok (.ireturn, 1) := by decide +kernel
theorem dX7_counts_0 : decode cX7_counts 0 = .ok (.bipush 9, 2) := by decide +kernel
theorem dX7_counts_2 : decode cX7_counts 2 = .ok (.bipush 27, 2) := by decide +kernel
theorem dX7_counts_4 : decode cX7_counts 4 = .ok (.iload_n 1, 1) := by decide +kernel
theorem dX7_counts_5 : decode cX7_counts 5 = .ok (.imul, 1) := by decide +kernel
theorem dX7_counts_6 : decode cX7_counts 6 = .ok (.iadd, 1) := by decide +kernel
theorem dX7_counts_7 : decode cX7_counts 7 = .ok (.istore_n 3, 1) := by decide +kernel
theorem dX7_counts_8 : decode cX7_counts 8 = .ok (.aload_n 0, 1) := by decide +kernel
theorem dX7_counts_9 : decode cX7_counts 9 = .ok (.getfield 7, 3) := by decide +kernel
theorem dX7_counts_12 : decode cX7_counts 12 = .ok (.iload_n 3, 1) := by decide +kernel
theorem dX7_counts_13 : decode cX7_counts 13 = .ok (.iconst 1, 1) := by decide +kernel
theorem dX7_counts_14 : decode cX7_counts 14 = .ok (.iadd, 1) := by decide +kernel
theorem dX7_counts_15 : decode cX7_counts 15 = .ok (.dup2, 1) := by decide +kernel
theorem dX7_counts_16 : decode cX7_counts 16 = .ok (.iaload, 1) := by decide +kernel
theorem dX7_counts_17 : decode cX7_counts 17 = .ok (.iload_n 2, 1) := by decide +kernel
theorem dX7_counts_18 : decode cX7_counts 18 = .ok (.iadd, 1) := by decide +kernel
theorem dX7_counts_19 : decode cX7_counts 19 = .ok (.iastore, 1) := by decide +kernel
theorem dX7_counts_20 : decode cX7_counts 20 = .ok (.aload_n 0, 1) := by decide +kernel
theorem dX7_counts_21 : decode cX7_counts 21 = .ok (.getfield 7, 3) := by decide +kernel
theorem dX7_counts_24 : decode cX7_counts 24 = .ok (.iload_n 3, 1) := by decide +kernel
theorem dX7_counts_25 : decode cX7_counts 25 = .ok (.iconst 1, 1) := by decide +kernel
theorem dX7_counts_26 : decode cX7_counts 26 = .ok (.iadd, 1) := by decide +kernel
theorem dX7_counts_27 : decode cX7_counts 27 = .ok (.iaload, 1) := by decide +kernel
theorem dX7_counts_28 : decode cX7_counts 28 = .ok (.aload_n 0, 1) := by decide +kernel
theorem dX7_counts_29 : decode cX7_counts 29 = .ok (.getfield 7, 3) := by decide +kernel
theorem dX7_counts_32 : decode cX7_counts 32 = .ok (.iconst 2, 1) := by decide +kernel
theorem dX7_counts_33 : decode cX7_counts 33 = .ok (.iaload, 1) := by decide +kernel
theorem dX7_counts_34 : decode cX7_counts 34 = .ok (.aload_n 0, 1) := by decide +kernel
theorem dX7_counts_35 : decode cX7_counts 35 = .ok (.getfield 7, 3) := by decide +kernel
theorem dX7_counts_38 : decode cX7_counts 38 = .ok (.iload_n 3, 1) := by decide +kernel
theorem dX7_counts_39 : decode cX7_counts 39 = .ok (.iconst 0, 1) := by decide +kernel
theorem dX7_counts_40 : decode cX7_counts 40 = .ok (.iadd, 1) := by decide +kernel
theorem dX7_counts_41 : decode cX7_counts 41 = .ok (.iaload, 1) := by decide +kernel
theorem dX7_counts_42 : decode cX7_counts 42 = .ok (.imul, 1) := by decide +kernel
theorem dX7_counts_43 : decode cX7_counts 43 = .ok (.if_icmp .ge 4, 3) := by decide +kernel
theorem dX7_counts_46 : decode cX7_counts 46 = .ok (.return_, 1) := by decide +kernel
theorem dX7_counts_47 : decode cX7_counts 47 = .ok (.aload_n 0, 1) := by decide +kernel
theorem dX7_counts_48 : decode cX7_counts 48 = .ok (.getfield 7, 3) := by decide +kernel
theorem dX7_counts_51 : decode cX7_counts 51 = .ok (.iload_n 3, 1) := by decide +kernel
theorem dX7_counts_52 : decode cX7_counts 52 = .ok (.iconst 1, 1) := by decide +kernel
theorem dX7_counts_53 : decode cX7_counts 53 = .ok (.iadd, 1) := by decide +kernel
theorem dX7_counts_54 : decode cX7_counts 54 = .ok (.iconst 0, 1) := by decide +kernel
theorem dX7_counts_55 : decode cX7_counts 55 = .ok (.iastore, 1) := by decide +kernel
theorem dX7_counts_56 : decode cX7_counts 56 = .ok (.aload_n 0, 1) := by decide +kernel
theorem dX7_counts_57 : decode cX7_counts 57 = .ok (.getfield 7, 3) := by decide +kernel
theorem dX7_counts_60 : decode cX7_counts 60 = .ok (.iload_n 3, 1) := by decide +kernel
theorem dX7_counts_61 : decode cX7_counts 61 = .ok (.iconst 2, 1) := by decide +kernel
theorem dX7_counts_62 : decode cX7_counts 62 = .ok (.iadd, 1) := by decide +kernel
theorem dX7_counts_63 : decode cX7_counts 63 = .ok (.dup2, 1) := by decide +kernel
theorem dX7_counts_64 : decode cX7_counts 64 = .ok (.iaload, 1) := by decide +kernel
theorem dX7_counts_65 : decode cX7_counts 65 = .ok (.iconst 1, 1) := by decide +kernel
theorem dX7_counts_66 : decode cX7_counts 66 = .ok (.iadd, 1) := by decide +kernel
theorem dX7_counts_67 : decode cX7_counts 67 = .ok (.iastore, 1) := by decide +kernel
theorem dX7_counts_68 : decode cX7_counts 68 = .ok (.iconst 0, 1) := by decide +kernel
theorem dX7_counts_69 : decode cX7_counts 69 = .ok (.istore 4, 2) := by decide +kernel
theorem dX7_counts_71 : decode cX7_counts 71 = .ok (.iload 4, 2) := by decide +kernel
theorem dX7_counts_73 : decode cX7_counts 73 = .ok (.aload_n 0, 1) := by decide +kernel
theorem dX7_counts_74 : decode cX7_counts 74 = .ok (.getfield 7, 3) := by decide +kernel
theorem dX7_counts_77 : decode cX7_counts 77 = .ok (.iload_n 3, 1) := by decide +kernel
theorem dX7_counts_78 : decode cX7_counts 78 = .ok (.iconst 0, 1) := by decide +kernel
theorem dX7_counts_79 : decode cX7_counts 79 = .ok (.iadd, 1) := by decide +kernel
theorem dX7_counts_80 : decode cX7_counts 80 = .ok (.iaload, 1) := by decide +kernel
theorem dX7_counts_81 : decode cX7_counts 81 = .ok (.if_icmp .ge 42, 3) := by decide +kernel
theorem dX7_counts_84 : decode cX7_counts 84 = .ok (.aload_n 0, 1) := by decide +kernel
theorem dX7_counts_85 : decode cX7_counts 85 = .ok (.getfield 7, 3) := by decide +kernel
theorem dX7_counts_88 : decode cX7_counts 88 = .ok (.iload_n 3, 1) := by decide +kernel
theorem dX7_counts_89 : decode cX7_counts 89 = .ok (.iconst 3, 1) := by decide +kernel
theorem dX7_counts_90 : decode cX7_counts 90 = .ok (.iadd, 1) := by decide +kernel
theorem dX7_counts_91 : decode cX7_counts 91 = .ok (.iload 4, 2) := by decide +kernel
theorem dX7_counts_93 : decode cX7_counts 93 = .ok (.iadd, 1) := by decide +kernel
theorem dX7_counts_94 : decode cX7_counts 94 = .ok (.dup2, 1) := by decide +kernel
theorem dX7_counts_95 : decode cX7_counts 95 = .ok (.iaload, 1) := by decide +kernel
theorem dX7_counts_96 : decode cX7_counts 96 = .ok (.aload_n 0, 1) := by decide +kernel
theorem dX7_counts_97 : decode cX7_counts 97 = .ok (.getfield 7, 3) := by decide +kernel
theorem dX7_counts_100 : decode cX7_counts 100 = .ok (.iload_n 3, 1) := by decide +kernel
theorem dX7_counts_101 : decode cX7_counts 101 = .ok (.iconst 3, 1) := by decide +kernel
theorem dX7_counts_102 : decode cX7_counts 102 = .ok (.iadd, 1) := by decide +kernel
theorem dX7_counts_103 : decode cX7_counts 103 = .ok (.iload 4, 2) := by decide +kernel
theorem dX7_counts_105 : decode cX7_counts 105 = .ok (.iadd, 1) := by decide +kernel
theorem dX7_counts_106 : decode cX7_counts 106 = .ok (.iaload, 1) := by decide +kernel
theorem dX7_counts_107 : decode cX7_counts 107 = .ok (.ifCond .le 7, 3) := by decide +kernel
theorem dX7_counts_110 : decode cX7_counts 110 = .ok (.iconst 1, 1) := by decide +kernel
theorem dX7_counts_111 : decode cX7_counts 111 = .ok (.goto 4, 3) := by decide +kernel
theorem dX7_counts_114 : decode cX7_counts 114 = .ok (.iconst 0, 1) := by decide +kernel
theorem dX7_counts_115 : decode cX7_counts 115 = .ok (.isub, 1) := by decide +kernel
theorem dX7_counts_116 : decode cX7_counts 116 = .ok (.iastore, 1) := by decide +kernel
theorem dX7_counts_117 : decode cX7_counts 117 = .ok (.iinc 4 1, 3) := by decide +kernel
theorem dX7_counts_120 : decode cX7_counts 120 = .ok (.goto (-49), 3) := by decide +kernel
theorem dX7_counts_123 : decode cX7_counts 123 = .ok (.return_, 1) := by decide +kernel
set_option maxRecDepth 20000 in
theorem ggX7_runError_X7_pairError : GoodIn wsX7_runError wsX7_pairError := goodIn_r _ [5, 6, 7, 8, 4, 9, 10, 11, 12, 13, 33, 34, 35, 36, 37, 38, 39, 40, 41, 42, 43] (by decide +kernel) (by decide +kernel)
set_option maxRecDepth 20000 in
theorem gX7_runError_X7_pairError : GoodIn wsX7_runError (wsV RX7 65 RX7 yX7_pairError wsX7_pairError) := goodIn_app (goodIn_of _ (by decide +kernel)) ggX7_runError_X7_pairError
set_option maxRecDepth 20000 in
theorem ggX7_runError_X7_in : GoodIn wsX7_runError wsX7_in := goodIn_r _ [13] (by decide +kernel) (by decide +kernel)
set_option maxRecDepth 20000 in
theorem gX7_runError_X7_in : GoodIn wsX7_runError (va_wsS RX7 37 yX7_in wsX7_in) := goodIn_app (goodIn_of _ (by decide +kernel)) ggX7_runError_X7_in
set_option maxRecDepth 20000 in
theorem ggX7_runError_X7_against : GoodIn wsX7_runError wsX7_against := goodIn_r _ [17, 10, 18, 19, 20, 4, 21, 22, 23, 24, 25, 26, 27, 28, 29, 30, 31, 32, 33, 34, 35, 36, 37, 38, 39, 40, 41, 42, 43] (by decide +kernel) (by decide +kernel)
set_option maxRecDepth 20000 in
theorem gX7_runError_X7_against : GoodIn wsX7_runError (wsV RX7 59 RX7 yX7_against wsX7_against) := goodIn_app (goodIn_of _ (by decide +kernel)) ggX7_runError_X7_against
theorem dX7_runError_0 : decode cX7_runError 0 = .ok (.aload_n 0, 1) := by decide +kernel
theorem dX7_runError_1 : decode cX7_runError 1 = .ok (.iload_n 1, 1) := by decide +kernel
theorem dX7_runError_2 : decode cX7_runError 2 = .ok (.iload_n 2, 1) := by decide +kernel
theorem dX7_runError_3 : decode cX7_runError 3 = .ok (.iload_n 3, 1) := by decide +kernel
theorem dX7_runError_4 : decode cX7_runError 4 = .ok (.iload 4, 2) := by decide +kernel
theorem dX7_runError_6 : decode cX7_runError 6 = .ok (.invokevirtual 65, 3) := by decide +kernel
theorem dX7_runError_9 : decode cX7_runError 9 = .ok (.istore 7, 2) := by decide +kernel
theorem dX7_runError_11 : decode cX7_runError 11 = .ok (.iload 7, 2) := by decide +kernel
theorem dX7_runError_13 : decode cX7_runError 13 = .ok (.ifCond .ge 6, 3) := by decide +kernel
theorem dX7_runError_16 : decode cX7_runError 16 = .ok (.iload 7, 2) := by decide +kernel
theorem dX7_runError_18 : decode cX7_runError 18 = .ok (.ireturn, 1) := by decide +kernel
theorem dX7_runError_19 : decode cX7_runError 19 = .ok (.iload 5, 2) := by decide +kernel
theorem dX7_runError_21 : decode cX7_runError 21 = .ok (.iconst 1, 1) := by decide +kernel
theorem dX7_runError_22 : decode cX7_runError 22 = .ok (.bipush 99, 2) := by decide +kernel
theorem dX7_runError_24 : decode cX7_runError 24 = .ok (.invokestatic 37, 3) := by decide +kernel
theorem dX7_runError_27 : decode cX7_runError 27 = .ok (.ifCond .eq 14, 3) := by decide +kernel
theorem dX7_runError_30 : decode cX7_runError 30 = .ok (.iload 6, 2) := by decide +kernel
theorem dX7_runError_32 : decode cX7_runError 32 = .ok (.iconst 1, 1) := by decide +kernel
theorem dX7_runError_33 : decode cX7_runError 33 = .ok (.bipush 99, 2) := by decide +kernel
theorem dX7_runError_35 : decode cX7_runError 35 = .ok (.invokestatic 37, 3) := by decide +kernel
theorem dX7_runError_38 : decode cX7_runError 38 = .ok (.ifCond .ne 6, 3) := by decide +kernel
theorem dX7_runError_41 : decode cX7_runError 41 = .ok (.bipush (-2), 2) := by decide +kernel
theorem dX7_runError_43 : decode cX7_runError 43 = .ok (.ireturn, 1) := by decide +kernel
theorem dX7_runError_44 : decode cX7_runError 44 = .ok (.aload_n 0, 1) := by decide +kernel
theorem dX7_runError_45 : decode cX7_runError 45 = .ok (.iload_n 1, 1) := by decide +kernel
theorem dX7_runError_46 : decode cX7_runError 46 = .ok (.iload_n 2, 1) := by decide +kernel
theorem dX7_runError_47 : decode cX7_runError 47 = .ok (.iload_n 3, 1) := by decide +kernel
theorem dX7_runError_48 : decode cX7_runError 48 = .ok (.iload 4, 2) := by decide +kernel
theorem dX7_runError_50 : decode cX7_runError 50 = .ok (.invokevirtual 59, 3) := by decide +kernel
theorem dX7_runError_53 : decode cX7_runError 53 = .ok (.bipush (-6), 2) := by decide +kernel
theorem dX7_runError_55 : decode cX7_runError 55 = .ok (.if_icmp .ne 7, 3) := by decide +kernel
theorem dX7_runError_58 : decode cX7_runError 58 = .ok (.iconst 0, 1) := by decide +kernel
theorem dX7_runError_59 : decode cX7_runError 59 = .ok (.goto 5, 3) := by decide +kernel
theorem dX7_runError_62 : decode cX7_runError 62 = .ok (.bipush (-5), 2) := by decide +kernel
theorem dX7_runError_64 : decode cX7_runError 64 = .ok (.ireturn, 1) := by decide +kernel
set_option maxRecDepth 20000 in
theorem ggX7_runs_X7_press : GoodIn wsX7_runs wsX7_press := goodIn_r _ [7, 8, 9, 10, 6, 11, 2, 23, 24, 25, 26, 27, 28, 29, 30, 31, 32, 33] (by decide +kernel) (by decide +kernel)
set_option maxRecDepth 20000 in
theorem gX7_runs_X7_press : GoodIn wsX7_runs (wsV RX7 52 RX7 yX7_press wsX7_press) := goodIn_app (goodIn_of _ (by decide +kernel)) ggX7_runs_X7_press
set_option maxRecDepth 20000 in
theorem ggX7_runs_X7_tears : GoodIn wsX7_runs wsX7_tears := goodIn_r _ [15, 1, 2, 16, 17, 6, 18, 23, 24, 25, 26, 27, 28, 29, 30, 31, 32, 33] (by decide +kernel) (by decide +kernel)
set_option maxRecDepth 20000 in
theorem gX7_runs_X7_tears : GoodIn wsX7_runs (wsV RX7 68 RX7 yX7_tears wsX7_tears) := goodIn_app (goodIn_of _ (by decide +kernel)) ggX7_runs_X7_tears
set_option maxRecDepth 20000 in
theorem ggX7_runs_X7_counts : GoodIn wsX7_runs wsX7_counts := goodIn_r _ [22, 2, 23, 24, 25, 26, 27, 28, 29, 30, 31, 32, 33] (by decide +kernel) (by decide +kernel)
set_option maxRecDepth 20000 in
theorem gX7_runs_X7_counts : GoodIn wsX7_runs (wsV RX7 72 RX7 yX7_counts wsX7_counts) := goodIn_app (goodIn_of _ (by decide +kernel)) ggX7_runs_X7_counts
theorem dX7_runs_0 : decode cX7_runs 0 = .ok (.iconst 0, 1) := by decide +kernel
theorem dX7_runs_1 : decode cX7_runs 1 = .ok (.istore 7, 2) := by decide +kernel
theorem dX7_runs_3 : decode cX7_runs 3 = .ok (.iconst 0, 1) := by decide +kernel
theorem dX7_runs_4 : decode cX7_runs 4 = .ok (.istore 8, 2) := by decide +kernel
theorem dX7_runs_6 : decode cX7_runs 6 = .ok (.iconst 0, 1) := by decide +kernel
theorem dX7_runs_7 : decode cX7_runs 7 = .ok (.istore 9, 2) := by decide +kernel
theorem dX7_runs_9 : decode cX7_runs 9 = .ok (.iload 9, 2) := by decide +kernel
theorem dX7_runs_11 : decode cX7_runs 11 = .ok (.iload 5, 2) := by decide +kernel
theorem dX7_runs_13 : decode cX7_runs 13 = .ok (.if_icmp .ge 88, 3) := by decide +kernel
theorem dX7_runs_16 : decode cX7_runs 16 = .ok (.aload_n 0, 1) := by decide +kernel
theorem dX7_runs_17 : decode cX7_runs 17 = .ok (.bipush (-6), 2) := by decide +kernel
theorem dX7_runs_19 : decode cX7_runs 19 = .ok (.putfield 62, 3) := by decide +kernel
theorem dX7_runs_22 : decode cX7_runs 22 = .ok (.iload 7, 2) := by decide +kernel
theorem dX7_runs_24 : decode cX7_runs 24 = .ok (.iload 6, 2) := by decide +kernel
theorem dX7_runs_26 : decode cX7_runs 26 = .ok (.iadd, 1) := by decide +kernel
theorem dX7_runs_27 : decode cX7_runs 27 = .ok (.istore 10, 2) := by decide +kernel
theorem dX7_runs_29 : decode cX7_runs 29 = .ok (.iload 7, 2) := by decide +kernel
theorem dX7_runs_31 : decode cX7_runs 31 = .ok (.iload 10, 2) := by decide +kernel
theorem dX7_runs_33 : decode cX7_runs 33 = .ok (.if_icmp .ge 62, 3) := by decide +kernel
theorem dX7_runs_36 : decode cX7_runs 36 = .ok (.aload_n 0, 1) := by decide +kernel
theorem dX7_runs_37 : decode cX7_runs 37 = .ok (.aload_n 0, 1) := by decide +kernel
theorem dX7_runs_38 : decode cX7_runs 38 = .ok (.getfield 7, 3) := by decide +kernel
theorem dX7_runs_41 : decode cX7_runs 41 = .ok (.iconst 4, 1) := by decide +kernel
theorem dX7_runs_42 : decode cX7_runs 42 = .ok (.iaload, 1) := by decide +kernel
theorem dX7_runs_43 : decode cX7_runs 43 = .ok (.aload_n 0, 1) := by decide +kernel
theorem dX7_runs_44 : decode cX7_runs 44 = .ok (.iload_n 1, 1) := by decide +kernel
theorem dX7_runs_45 : decode cX7_runs 45 = .ok (.iload_n 2, 1) := by decide +kernel
theorem dX7_runs_46 : decode cX7_runs 46 = .ok (.iload_n 3, 1) := by decide +kernel
theorem dX7_runs_47 : decode cX7_runs 47 = .ok (.iload 7, 2) := by decide +kernel
theorem dX7_runs_49 : decode cX7_runs 49 = .ok (.invokevirtual 52, 3) := by decide +kernel
theorem dX7_runs_52 : decode cX7_runs 52 = .ok (.iload 4, 2) := by decide +kernel
theorem dX7_runs_54 : decode cX7_runs 54 = .ok (.iadd, 1) := by decide +kernel
theorem dX7_runs_55 : decode cX7_runs 55 = .ok (.invokevirtual 68, 3) := by decide +kernel
theorem dX7_runs_58 : decode cX7_runs 58 = .ok (.istore 11, 2) := by decide +kernel
theorem dX7_runs_60 : decode cX7_runs 60 = .ok (.iinc 7 1, 3) := by decide +kernel
theorem dX7_runs_63 : decode cX7_runs 63 = .ok (.iload 8, 2) := by decide +kernel
theorem dX7_runs_65 : decode cX7_runs 65 = .ok (.iload 11, 2) := by decide +kernel
theorem dX7_runs_67 : decode cX7_runs 67 = .ok (.ifCond .eq 7, 3) := by decide +kernel
theorem dX7_runs_70 : decode cX7_runs 70 = .ok (.iconst 1, 1) := by decide +kernel
theorem dX7_runs_71 : decode cX7_runs 71 = .ok (.goto 4, 3) := by decide +kernel
theorem dX7_runs_74 : decode cX7_runs 74 = .ok (.iconst 0, 1) := by decide +kernel
theorem dX7_runs_75 : decode cX7_runs 75 = .ok (.iadd, 1) := by decide +kernel
theorem dX7_runs_76 : decode cX7_runs 76 = .ok (.istore 8, 2) := by decide +kernel
theorem dX7_runs_78 : decode cX7_runs 78 = .ok (.iload 11, 2) := by decide +kernel
theorem dX7_runs_80 : decode cX7_runs 80 = .ok (.ifCond .eq 8, 3) := by decide +kernel
theorem dX7_runs_83 : decode cX7_runs 83 = .ok (.iload 7, 2) := by decide +kernel
theorem dX7_runs_85 : decode cX7_runs 85 = .ok (.goto 5, 3) := by decide +kernel
theorem dX7_runs_88 : decode cX7_runs 88 = .ok (.iload 10, 2) := by decide +kernel
theorem dX7_runs_90 : decode cX7_runs 90 = .ok (.istore 10, 2) := by decide +kernel
theorem dX7_runs_92 : decode cX7_runs 92 = .ok (.goto (-63), 3) := by decide +kernel
theorem dX7_runs_95 : decode cX7_runs 95 = .ok (.iinc 9 1, 3) := by decide +kernel
theorem dX7_runs_98 : decode cX7_runs 98 = .ok (.goto (-89), 3) := by decide +kernel
theorem dX7_runs_101 : decode cX7_runs 101 = .ok (.aload_n 0, 1) := by decide +kernel
theorem dX7_runs_102 : decode cX7_runs 102 = .ok (.getfield 7, 3) := by decide +kernel
theorem dX7_runs_105 : decode cX7_runs 105 = .ok (.bipush 6, 2) := by decide +kernel
theorem dX7_runs_107 : decode cX7_runs 107 = .ok (.dup2, 1) := by decide +kernel
theorem dX7_runs_108 : decode cX7_runs 108 = .ok (.iaload, 1) := by decide +kernel
theorem dX7_runs_109 : decode cX7_runs 109 = .ok (.iload 5, 2) := by decide +kernel
theorem dX7_runs_111 : decode cX7_runs 111 = .ok (.iadd, 1) := by decide +kernel
theorem dX7_runs_112 : decode cX7_runs 112 = .ok (.iastore, 1) := by decide +kernel
theorem dX7_runs_113 : decode cX7_runs 113 = .ok (.aload_n 0, 1) := by decide +kernel
theorem dX7_runs_114 : decode cX7_runs 114 = .ok (.getfield 7, 3) := by decide +kernel
theorem dX7_runs_117 : decode cX7_runs 117 = .ok (.bipush 7, 2) := by decide +kernel
theorem dX7_runs_119 : decode cX7_runs 119 = .ok (.dup2, 1) := by decide +kernel
theorem dX7_runs_120 : decode cX7_runs 120 = .ok (.iaload, 1) := by decide +kernel
theorem dX7_runs_121 : decode cX7_runs 121 = .ok (.iload 8, 2) := by decide +kernel
theorem dX7_runs_123 : decode cX7_runs 123 = .ok (.iadd, 1) := by decide +kernel
theorem dX7_runs_124 : decode cX7_runs 124 = .ok (.iastore, 1) := by decide +kernel
theorem dX7_runs_125 : decode cX7_runs 125 = .ok (.aload_n 0, 1) := by decide +kernel
theorem dX7_runs_126 : decode cX7_runs 126 = .ok (.getfield 7, 3) := by decide +kernel
theorem dX7_runs_129 : decode cX7_runs 129 = .ok (.bipush 8, 2) := by decide +kernel
theorem dX7_runs_131 : decode cX7_runs 131 = .ok (.dup2, 1) := by decide +kernel
theorem dX7_runs_132 : decode cX7_runs 132 = .ok (.iaload, 1) := by decide +kernel
theorem dX7_runs_133 : decode cX7_runs 133 = .ok (.iload 7, 2) := by decide +kernel
theorem dX7_runs_135 : decode cX7_runs 135 = .ok (.iadd, 1) := by decide +kernel
theorem dX7_runs_136 : decode cX7_runs 136 = .ok (.iastore, 1) := by decide +kernel
theorem dX7_runs_137 : decode cX7_runs 137 = .ok (.aload_n 0, 1) := by decide +kernel
theorem dX7_runs_138 : decode cX7_runs 138 = .ok (.iload_n 1, 1) := by decide +kernel
theorem dX7_runs_139 : decode cX7_runs 139 = .ok (.iload 7, 2) := by decide +kernel
theorem dX7_runs_141 : decode cX7_runs 141 = .ok (.invokevirtual 72, 3) := by decide +kernel
theorem dX7_runs_144 : decode cX7_runs 144 = .ok (.aload_n 0, 1) := by decide +kernel
theorem dX7_runs_145 : decode cX7_runs 145 = .ok (.iload_n 2, 1) := by decide +kernel
theorem dX7_runs_146 : decode cX7_runs 146 = .ok (.iload 7, 2) := by decide +kernel
theorem dX7_runs_148 : decode cX7_runs 148 = .ok (.invokevirtual 72, 3) := by decide +kernel
theorem dX7_runs_151 : decode cX7_runs 151 = .ok (.iload 8, 2) := by decide +kernel
theorem dX7_runs_153 : decode cX7_runs 153 = .ok (.ireturn, 1) := by decide +kernel
set_option maxRecDepth 20000 in
theorem ggX7_isSetting_X7_in : GoodIn wsX7_isSetting wsX7_in := goodIn_r _ [4] (by decide +kernel) (by decide +kernel)
set_option maxRecDepth 20000 in
theorem gX7_isSetting_X7_in : GoodIn wsX7_isSetting (va_wsS RX7 37 yX7_in wsX7_in) := goodIn_app (goodIn_of _ (by decide +kernel)) ggX7_isSetting_X7_in
theorem dX7_isSetting_0 : decode cX7_isSetting 0 = .ok (.iload_n 0, 1) := by decide +kernel
theorem dX7_isSetting_1 : decode cX7_isSetting 1 = .ok (.tableswitch 43 0 2 #[27, 27, 35], 27) := by decide +kernel
theorem dX7_isSetting_28 : decode cX7_isSetting 28 = .ok (.iload_n 1, 1) := by decide +kernel
theorem dX7_isSetting_29 : decode cX7_isSetting 29 = .ok (.iconst 0, 1) := by decide +kernel
theorem dX7_isSetting_30 : decode cX7_isSetting 30 = .ok (.bipush 30, 2) := by decide +kernel
theorem dX7_isSetting_32 : decode cX7_isSetting 32 = .ok (.invokestatic 37, 3) := by decide +kernel
theorem dX7_isSetting_35 : decode cX7_isSetting 35 = .ok (.ireturn, 1) := by decide +kernel
theorem dX7_isSetting_36 : decode cX7_isSetting 36 = .ok (.iload_n 1, 1) := by decide +kernel
theorem dX7_isSetting_37 : decode cX7_isSetting 37 = .ok (.iconst 1, 1) := by decide +kernel
theorem dX7_isSetting_38 : decode cX7_isSetting 38 = .ok (.bipush 99, 2) := by decide +kernel
theorem dX7_isSetting_40 : decode cX7_isSetting 40 = .ok (.invokestatic 37, 3) := by decide +kernel
