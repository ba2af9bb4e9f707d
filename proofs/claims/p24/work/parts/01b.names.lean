set_option maxRecDepth 20000 in
theorem ggX3_height_X3_placeOf : GoodIn wsX3_height wsX3_placeOf := goodIn_r _ [4] (by decide +kernel) (by decide +kernel)
set_option maxRecDepth 20000 in
theorem gX3_height_X3_placeOf : GoodIn wsX3_height (va_wsS RX3 37 yX3_placeOf wsX3_placeOf) := goodIn_app (goodIn_of _ (by decide +kernel)) ggX3_height_X3_placeOf
set_option maxRecDepth 20000 in
theorem ggX3_height_X3_cell : GoodIn wsX3_height wsX3_cell := goodIn_r _ [8, 9, 10] (by decide +kernel) (by decide +kernel)
set_option maxRecDepth 20000 in
theorem gX3_height_X3_cell : GoodIn wsX3_height (wsV RX3 15 RX3 yX3_cell wsX3_cell) := goodIn_app (goodIn_of _ (by decide +kernel)) ggX3_height_X3_cell
theorem dX3_height_0 : decode cX3_height 0 = .ok (.aload_n 0, 1) := by decide +kernel
theorem dX3_height_1 : decode cX3_height 1 = .ok (.iload_n 1, 1) := by decide +kernel
theorem dX3_height_2 : decode cX3_height 2 = .ok (.invokestatic 37, 3) := by decide +kernel
theorem dX3_height_5 : decode cX3_height 5 = .ok (.iconst 3, 1) := by decide +kernel
theorem dX3_height_6 : decode cX3_height 6 = .ok (.iadd, 1) := by decide +kernel
theorem dX3_height_7 : decode cX3_height 7 = .ok (.iload_n 2, 1) := by decide +kernel
theorem dX3_height_8 : decode cX3_height 8 = .ok (.iadd, 1) := by decide +kernel
theorem dX3_height_9 : decode cX3_height 9 = .ok (.invokevirtual 15, 3) := by decide +kernel
theorem dX3_height_12 : decode cX3_height 12 = .ok (.ireturn, 1) := by decide +kernel
set_option maxRecDepth 20000 in
theorem ggX3_shape_X3_placeOf : GoodIn wsX3_shape wsX3_placeOf := goodIn_r _ [4] (by decide +kernel) (by decide +kernel)
set_option maxRecDepth 20000 in
theorem gX3_shape_X3_placeOf : GoodIn wsX3_shape (va_wsS RX3 37 yX3_placeOf wsX3_placeOf) := goodIn_app (goodIn_of _ (by decide +kernel)) ggX3_shape_X3_placeOf
set_option maxRecDepth 20000 in
theorem ggX3_shape_X3_change : GoodIn wsX3_shape wsX3_change := goodIn_r _ [8, 9, 10] (by decide +kernel) (by decide +kernel)
set_option maxRecDepth 20000 in
theorem gX3_shape_X3_change : GoodIn wsX3_shape (wsV RX3 19 RX3 yX3_change wsX3_change) := goodIn_app (goodIn_of _ (by decide +kernel)) ggX3_shape_X3_change
theorem dX3_shape_0 : decode cX3_shape 0 = .ok (.aload_n 0, 1) := by decide +kernel
theorem dX3_shape_1 : decode cX3_shape 1 = .ok (.iload_n 1, 1) := by decide +kernel
theorem dX3_shape_2 : decode cX3_shape 2 = .ok (.invokestatic 37, 3) := by decide +kernel
theorem dX3_shape_5 : decode cX3_shape 5 = .ok (.iconst 3, 1) := by decide +kernel
theorem dX3_shape_6 : decode cX3_shape 6 = .ok (.iadd, 1) := by decide +kernel
theorem dX3_shape_7 : decode cX3_shape 7 = .ok (.iload_n 2, 1) := by decide +kernel
theorem dX3_shape_8 : decode cX3_shape 8 = .ok (.iadd, 1) := by decide +kernel
theorem dX3_shape_9 : decode cX3_shape 9 = .ok (.iload_n 3, 1) := by decide +kernel
theorem dX3_shape_10 : decode cX3_shape 10 = .ok (.invokevirtual 19, 3) := by decide +kernel
theorem dX3_shape_13 : decode cX3_shape 13 = .ok (.return_, 1) := by decide +kernel
set_option maxRecDepth 20000 in
theorem ggX3_addRoller_X6_outside : GoodIn wsX3_addRoller wsX6_outside := goodIn_r _ [3] (by decide +kernel) (by decide +kernel)
set_option maxRecDepth 20000 in
theorem gX3_addRoller_X6_outside_n23 : GoodIn wsX3_addRoller (wsX6_outside) := ggX3_addRoller_X6_outside
set_option maxRecDepth 20000 in
theorem ggX3_addRoller_X3_cell : GoodIn wsX3_addRoller wsX3_cell := goodIn_r _ [8, 9, 25] (by decide +kernel) (by decide +kernel)
set_option maxRecDepth 20000 in
theorem gX3_addRoller_X3_cell : GoodIn wsX3_addRoller (wsV RX3 15 RX3 yX3_cell wsX3_cell) := goodIn_app (goodIn_of _ (by decide +kernel)) ggX3_addRoller_X3_cell
set_option maxRecDepth 20000 in
theorem ggX3_addRoller_X3_placeOf : GoodIn wsX3_addRoller wsX3_placeOf := goodIn_r _ [12] (by decide +kernel) (by decide +kernel)
set_option maxRecDepth 20000 in
theorem gX3_addRoller_X3_placeOf : GoodIn wsX3_addRoller (va_wsS RX3 37 yX3_placeOf wsX3_placeOf) := goodIn_app (goodIn_of _ (by decide +kernel)) ggX3_addRoller_X3_placeOf
set_option maxRecDepth 20000 in
theorem ggX3_addRoller_X3_change : GoodIn wsX3_addRoller wsX3_change := goodIn_r _ [16, 9, 25] (by decide +kernel) (by decide +kernel)
set_option maxRecDepth 20000 in
theorem gX3_addRoller_X3_change : GoodIn wsX3_addRoller (wsV RX3 19 RX3 yX3_change wsX3_change) := goodIn_app (goodIn_of _ (by decide +kernel)) ggX3_addRoller_X3_change
set_option maxRecDepth 20000 in
theorem ggX3_addRoller_X3_shape : GoodIn wsX3_addRoller wsX3_shape := goodIn_r _ [20, 10, 11, 7, 12, 13, 14, 15, 16, 9, 25] (by decide +kernel) (by decide +kernel)
set_option maxRecDepth 20000 in
theorem gX3_addRoller_X3_shape : GoodIn wsX3_addRoller (wsV RX3 40 RX3 yX3_shape wsX3_shape) := goodIn_app (goodIn_of _ (by decide +kernel)) ggX3_addRoller_X3_shape
set_option maxRecDepth 20000 in
theorem ggX3_addRoller_X3_raise : GoodIn wsX3_addRoller wsX3_raise := goodIn_r _ [24, 4, 5, 6, 7, 8, 9, 13, 14, 15, 16, 25] (by decide +kernel) (by decide +kernel)
set_option maxRecDepth 20000 in
theorem gX3_addRoller_X3_raise : GoodIn wsX3_addRoller (wsV RX3 44 RX3 yX3_raise wsX3_raise) := goodIn_app (goodIn_of _ (by decide +kernel)) ggX3_addRoller_X3_raise
theorem dX3_addRoller_0 : decode cX3_addRoller 0 = .ok (.iload_n 1, 1) := by decide +kernel
theorem dX3_addRoller_1 : decode cX3_addRoller 1 = .ok (.iconst 2, 1) := by decide +kernel
theorem dX3_addRoller_2 : decode cX3_addRoller 2 = .ok (.bipush 24, 2) := by decide +kernel
theorem dX3_addRoller_4 : decode cX3_addRoller 4 = .ok (.invokestatic 23, 3) := by decide +kernel
theorem dX3_addRoller_7 : decode cX3_addRoller 7 = .ok (.ifCond .ne 14, 3) := by decide +kernel
theorem dX3_addRoller_10 : decode cX3_addRoller 10 = .ok (.iload_n 2, 1) := by decide +kernel
theorem dX3_addRoller_11 : decode cX3_addRoller 11 = .ok (.bipush (-9), 2) := by decide +kernel
theorem dX3_addRoller_13 : decode cX3_addRoller 13 = .ok (.bipush 9, 2) := by decide +kernel
theorem dX3_addRoller_15 : decode cX3_addRoller 15 = .ok (.invokestatic 23, 3) := by decide +kernel
theorem dX3_addRoller_18 : decode cX3_addRoller 18 = .ok (.ifCond .eq 6, 3) := by decide +kernel
theorem dX3_addRoller_21 : decode cX3_addRoller 21 = .ok (.bipush (-2), 2) := by decide +kernel
theorem dX3_addRoller_23 : decode cX3_addRoller 23 = .ok (.ireturn, 1) := by decide +kernel
theorem dX3_addRoller_24 : decode cX3_addRoller 24 = .ok (.aload_n 0, 1) := by decide +kernel
theorem dX3_addRoller_25 : decode cX3_addRoller 25 = .ok (.iconst 0, 1) := by decide +kernel
theorem dX3_addRoller_26 : decode cX3_addRoller 26 = .ok (.invokevirtual 15, 3) := by decide +kernel
theorem dX3_addRoller_29 : decode cX3_addRoller 29 = .ok (.istore_n 3, 1) := by decide +kernel
theorem dX3_addRoller_30 : decode cX3_addRoller 30 = .ok (.iload_n 3, 1) := by decide +kernel
theorem dX3_addRoller_31 : decode cX3_addRoller 31 = .ok (.bipush 8, 2) := by decide +kernel
theorem dX3_addRoller_33 : decode cX3_addRoller 33 = .ok (.if_icmp .lt 6, 3) := by decide +kernel
theorem dX3_addRoller_36 : decode cX3_addRoller 36 = .ok (.bipush (-4), 2) := by decide +kernel
theorem dX3_addRoller_38 : decode cX3_addRoller 38 = .ok (.ireturn, 1) := by decide +kernel
theorem dX3_addRoller_39 : decode cX3_addRoller 39 = .ok (.aload_n 0, 1) := by decide +kernel
theorem dX3_addRoller_40 : decode cX3_addRoller 40 = .ok (.iload_n 3, 1) := by decide +kernel
theorem dX3_addRoller_41 : decode cX3_addRoller 41 = .ok (.invokestatic 37, 3) := by decide +kernel
theorem dX3_addRoller_44 : decode cX3_addRoller 44 = .ok (.iconst 0, 1) := by decide +kernel
theorem dX3_addRoller_45 : decode cX3_addRoller 45 = .ok (.iadd, 1) := by decide +kernel
theorem dX3_addRoller_46 : decode cX3_addRoller 46 = .ok (.iload_n 1, 1) := by decide +kernel
theorem dX3_addRoller_47 : decode cX3_addRoller 47 = .ok (.invokevirtual 19, 3) := by decide +kernel
theorem dX3_addRoller_50 : decode cX3_addRoller 50 = .ok (.aload_n 0, 1) := by decide +kernel
theorem dX3_addRoller_51 : decode cX3_addRoller 51 = .ok (.iload_n 3, 1) := by decide +kernel
theorem dX3_addRoller_52 : decode cX3_addRoller 52 = .ok (.invokestatic 37, 3) := by decide +kernel
theorem dX3_addRoller_55 : decode cX3_addRoller 55 = .ok (.iconst 1, 1) := by decide +kernel
theorem dX3_addRoller_56 : decode cX3_addRoller 56 = .ok (.iadd, 1) := by decide +kernel
theorem dX3_addRoller_57 : decode cX3_addRoller 57 = .ok (.iconst 0, 1) := by decide +kernel
theorem dX3_addRoller_58 : decode cX3_addRoller 58 = .ok (.invokevirtual 19, 3) := by decide +kernel
theorem dX3_addRoller_61 : decode cX3_addRoller 61 = .ok (.aload_n 0, 1) := by decide +kernel
theorem dX3_addRoller_62 : decode cX3_addRoller 62 = .ok (.iload_n 3, 1) := by decide +kernel
theorem dX3_addRoller_63 : decode cX3_addRoller 63 = .ok (.invokestatic 37, 3) := by decide +kernel
theorem dX3_addRoller_66 : decode cX3_addRoller 66 = .ok (.iconst 2, 1) := by decide +kernel
theorem dX3_addRoller_67 : decode cX3_addRoller 67 = .ok (.iadd, 1) := by decide +kernel
theorem dX3_addRoller_68 : decode cX3_addRoller 68 = .ok (.iconst 0, 1) := by decide +kernel
theorem dX3_addRoller_69 : decode cX3_addRoller 69 = .ok (.invokevirtual 19, 3) := by decide +kernel
theorem dX3_addRoller_72 : decode cX3_addRoller 72 = .ok (.iconst 0, 1) := by decide +kernel
theorem dX3_addRoller_73 : decode cX3_addRoller 73 = .ok (.istore 4, 2) := by decide +kernel
theorem dX3_addRoller_75 : decode cX3_addRoller 75 = .ok (.iload 4, 2) := by decide +kernel
theorem dX3_addRoller_77 : decode cX3_addRoller 77 = .ok (.iload_n 1, 1) := by decide +kernel
theorem dX3_addRoller_78 : decode cX3_addRoller 78 = .ok (.if_icmp .ge 17, 3) := by decide +kernel
theorem dX3_addRoller_81 : decode cX3_addRoller 81 = .ok (.aload_n 0, 1) := by decide +kernel
theorem dX3_addRoller_82 : decode cX3_addRoller 82 = .ok (.iload_n 3, 1) := by decide +kernel
theorem dX3_addRoller_83 : decode cX3_addRoller 83 = .ok (.iload 4, 2) := by decide +kernel
theorem dX3_addRoller_85 : decode cX3_addRoller 85 = .ok (.iload_n 2, 1) := by decide +kernel
theorem dX3_addRoller_86 : decode cX3_addRoller 86 = .ok (.invokevirtual 40, 3) := by decide +kernel
theorem dX3_addRoller_89 : decode cX3_addRoller 89 = .ok (.iinc 4 1, 3) := by decide +kernel
theorem dX3_addRoller_92 : decode cX3_addRoller 92 = .ok (.goto (-17), 3) := by decide +kernel
theorem dX3_addRoller_95 : decode cX3_addRoller 95 = .ok (.aload_n 0, 1) := by decide +kernel
theorem dX3_addRoller_96 : decode cX3_addRoller 96 = .ok (.iconst 0, 1) := by decide +kernel
theorem dX3_addRoller_97 : decode cX3_addRoller 97 = .ok (.iconst 1, 1) := by decide +kernel
theorem dX3_addRoller_98 : decode cX3_addRoller 98 = .ok (.invokevirtual 44, 3) := by decide +kernel
theorem dX3_addRoller_101 : decode cX3_addRoller 101 = .ok (.iload_n 3, 1) := by decide +kernel
theorem dX3_addRoller_102 : decode cX3_addRoller 102 = .ok (.ireturn, 1) := by decide +kernel
set_option maxRecDepth 20000 in
theorem ggX3_fileTooth_X3_hasTooth : GoodIn wsX3_fileTooth wsX3_hasTooth := goodIn_r _ [5, 6, 7, 8, 4, 9, 10, 11, 12, 13, 14, 15, 16, 17, 18, 19, 20, 21, 37] (by decide +kernel) (by decide +kernel)
set_option maxRecDepth 20000 in
theorem gX3_fileTooth_X3_hasTooth : GoodIn wsX3_fileTooth (wsV RX3 47 RX3 yX3_hasTooth wsX3_hasTooth) := goodIn_app (goodIn_of _ (by decide +kernel)) ggX3_fileTooth_X3_hasTooth
set_option maxRecDepth 20000 in
theorem ggX3_fileTooth_X6_outside : GoodIn wsX3_fileTooth wsX6_outside := goodIn_r _ [24] (by decide +kernel) (by decide +kernel)
set_option maxRecDepth 20000 in
theorem gX3_fileTooth_X6_outside_n23 : GoodIn wsX3_fileTooth (wsX6_outside) := ggX3_fileTooth_X6_outside
set_option maxRecDepth 20000 in
theorem ggX3_fileTooth_X3_height : GoodIn wsX3_fileTooth wsX3_height := goodIn_r _ [28, 19, 20, 4, 21, 10, 11, 12, 13, 14, 37] (by decide +kernel) (by decide +kernel)
set_option maxRecDepth 20000 in
theorem gX3_fileTooth_X3_height : GoodIn wsX3_fileTooth (wsV RX3 51 RX3 yX3_height wsX3_height) := goodIn_app (goodIn_of _ (by decide +kernel)) ggX3_fileTooth_X3_height
set_option maxRecDepth 20000 in
theorem ggX3_fileTooth_X3_shape : GoodIn wsX3_fileTooth wsX3_shape := goodIn_r _ [32, 19, 20, 4, 21, 33, 34, 35, 36, 14, 37] (by decide +kernel) (by decide +kernel)
set_option maxRecDepth 20000 in
theorem gX3_fileTooth_X3_shape : GoodIn wsX3_fileTooth (wsV RX3 40 RX3 yX3_shape wsX3_shape) := goodIn_app (goodIn_of _ (by decide +kernel)) ggX3_fileTooth_X3_shape
theorem dX3_fileTooth_0 : decode cX3_fileTooth 0 = .ok (.aload_n 0, 1) := by decide +kernel
theorem dX3_fileTooth_1 : decode cX3_fileTooth 1 = .ok (.iload_n 1, 1) := by decide +kernel
theorem dX3_fileTooth_2 : decode cX3_fileTooth 2 = .ok (.iload_n 2, 1) := by decide +kernel
theorem dX3_fileTooth_3 : decode cX3_fileTooth 3 = .ok (.invokevirtual 47, 3) := by decide +kernel
theorem dX3_fileTooth_6 : decode cX3_fileTooth 6 = .ok (.ifCond .ne 5, 3) := by decide +kernel
theorem dX3_fileTooth_9 : decode cX3_fileTooth 9 = .ok (.iconst (-1), 1) := by decide +kernel
theorem dX3_fileTooth_10 : decode cX3_fileTooth 10 = .ok (.ireturn, 1) := by decide +kernel
theorem dX3_fileTooth_11 : decode cX3_fileTooth 11 = .ok (.iload_n 3, 1) := by decide +kernel
theorem dX3_fileTooth_12 : decode cX3_fileTooth 12 = .ok (.bipush (-9), 2) := by decide +kernel
theorem dX3_fileTooth_14 : decode cX3_fileTooth 14 = .ok (.bipush 9, 2) := by decide +kernel
theorem dX3_fileTooth_16 : decode cX3_fileTooth 16 = .ok (.invokestatic 23, 3) := by decide +kernel
theorem dX3_fileTooth_19 : decode cX3_fileTooth 19 = .ok (.ifCond .eq 6, 3) := by decide +kernel
theorem dX3_fileTooth_22 : decode cX3_fileTooth 22 = .ok (.bipush (-2), 2) := by decide +kernel
theorem dX3_fileTooth_24 : decode cX3_fileTooth 24 = .ok (.ireturn, 1) := by decide +kernel
theorem dX3_fileTooth_25 : decode cX3_fileTooth 25 = .ok (.aload_n 0, 1) := by decide +kernel
theorem dX3_fileTooth_26 : decode cX3_fileTooth 26 = .ok (.iload_n 1, 1) := by decide +kernel
theorem dX3_fileTooth_27 : decode cX3_fileTooth 27 = .ok (.iload_n 2, 1) := by decide +kernel
theorem dX3_fileTooth_28 : decode cX3_fileTooth 28 = .ok (.invokevirtual 51, 3) := by decide +kernel
theorem dX3_fileTooth_31 : decode cX3_fileTooth 31 = .ok (.istore 4, 2) := by decide +kernel
theorem dX3_fileTooth_33 : decode cX3_fileTooth 33 = .ok (.aload_n 0, 1) := by decide +kernel
theorem dX3_fileTooth_34 : decode cX3_fileTooth 34 = .ok (.iload_n 1, 1) := by decide +kernel
theorem dX3_fileTooth_35 : decode cX3_fileTooth 35 = .ok (.iload_n 2, 1) := by decide +kernel
theorem dX3_fileTooth_36 : decode cX3_fileTooth 36 = .ok (.iload_n 3, 1) := by decide +kernel
theorem dX3_fileTooth_37 : decode cX3_fileTooth 37 = .ok (.invokevirtual 40, 3) := by decide +kernel
theorem dX3_fileTooth_40 : decode cX3_fileTooth 40 = .ok (.iload 4, 2) := by decide +kernel
theorem dX3_fileTooth_42 : decode cX3_fileTooth 42 = .ok (.bipush 9, 2) := by decide +kernel
theorem dX3_fileTooth_44 : decode cX3_fileTooth 44 = .ok (.iadd, 1) := by decide +kernel
theorem dX3_fileTooth_45 : decode cX3_fileTooth 45 = .ok (.ireturn, 1) := by decide +kernel
set_option maxRecDepth 20000 in
theorem ggX3_meltRoller_X3_has : GoodIn wsX3_meltRoller wsX3_has := goodIn_r _ [5, 6, 7, 8, 4, 9, 10, 18] (by decide +kernel) (by decide +kernel)
set_option maxRecDepth 20000 in
theorem gX3_meltRoller_X3_has : GoodIn wsX3_meltRoller (wsV RX3 30 RX3 yX3_has wsX3_has) := goodIn_app (goodIn_of _ (by decide +kernel)) ggX3_meltRoller_X3_has
set_option maxRecDepth 20000 in
theorem ggX3_meltRoller_X3_cell : GoodIn wsX3_meltRoller wsX3_cell := goodIn_r _ [9, 10, 18] (by decide +kernel) (by decide +kernel)
set_option maxRecDepth 20000 in
theorem gX3_meltRoller_X3_cell : GoodIn wsX3_meltRoller (wsV RX3 15 RX3 yX3_cell wsX3_cell) := goodIn_app (goodIn_of _ (by decide +kernel)) ggX3_meltRoller_X3_cell
set_option maxRecDepth 20000 in
theorem ggX3_meltRoller_X3_placeOf : GoodIn wsX3_meltRoller wsX3_placeOf := goodIn_r _ [13] (by decide +kernel) (by decide +kernel)
set_option maxRecDepth 20000 in
theorem gX3_meltRoller_X3_placeOf : GoodIn wsX3_meltRoller (va_wsS RX3 37 yX3_placeOf wsX3_placeOf) := goodIn_app (goodIn_of _ (by decide +kernel)) ggX3_meltRoller_X3_placeOf
set_option maxRecDepth 20000 in
theorem ggX3_meltRoller_X3_change : GoodIn wsX3_meltRoller wsX3_change := goodIn_r _ [17, 10, 18] (by decide +kernel) (by decide +kernel)
set_option maxRecDepth 20000 in
theorem gX3_meltRoller_X3_change : GoodIn wsX3_meltRoller (wsV RX3 19 RX3 yX3_change wsX3_change) := goodIn_app (goodIn_of _ (by decide +kernel)) ggX3_meltRoller_X3_change
theorem dX3_meltRoller_0 : decode cX3_meltRoller 0 = .ok (.aload_n 0, 1) := by decide +kernel
theorem dX3_meltRoller_1 : decode cX3_meltRoller 1 = .ok (.iload_n 1, 1) := by decide +kernel
theorem dX3_meltRoller_2 : decode cX3_meltRoller 2 = .ok (.invokevirtual 30, 3) := by decide +kernel
theorem dX3_meltRoller_5 : decode cX3_meltRoller 5 = .ok (.ifCond .ne 5, 3) := by decide +kernel
theorem dX3_meltRoller_8 : decode cX3_meltRoller 8 = .ok (.iconst (-1), 1) := by decide +kernel
theorem dX3_meltRoller_9 : decode cX3_meltRoller 9 = .ok (.ireturn, 1) := by decide +kernel
theorem dX3_meltRoller_10 : decode cX3_meltRoller 10 = .ok (.aload_n 0, 1) := by decide +kernel
theorem dX3_meltRoller_11 : decode cX3_meltRoller 11 = .ok (.iconst 0, 1) := by decide +kernel
theorem dX3_meltRoller_12 : decode cX3_meltRoller 12 = .ok (.invokevirtual 15, 3) := by decide +kernel
theorem dX3_meltRoller_15 : decode cX3_meltRoller 15 = .ok (.iconst 1, 1) := by decide +kernel
theorem dX3_meltRoller_16 : decode cX3_meltRoller 16 = .ok (.isub, 1) := by decide +kernel
theorem dX3_meltRoller_17 : decode cX3_meltRoller 17 = .ok (.istore_n 2, 1) := by decide +kernel
theorem dX3_meltRoller_18 : decode cX3_meltRoller 18 = .ok (.iload_n 1, 1) := by decide +kernel
theorem dX3_meltRoller_19 : decode cX3_meltRoller 19 = .ok (.invokestatic 37, 3) := by decide +kernel
theorem dX3_meltRoller_22 : decode cX3_meltRoller 22 = .ok (.istore_n 3, 1) := by decide +kernel
theorem dX3_meltRoller_23 : decode cX3_meltRoller 23 = .ok (.iload_n 3, 1) := by decide +kernel
theorem dX3_meltRoller_24 : decode cX3_meltRoller 24 = .ok (.iload_n 2, 1) := by decide +kernel
theorem dX3_meltRoller_25 : decode cX3_meltRoller 25 = .ok (.invokestatic 37, 3) := by decide +kernel
theorem dX3_meltRoller_28 : decode cX3_meltRoller 28 = .ok (.if_icmp .ge 22, 3) := by decide +kernel
theorem dX3_meltRoller_31 : decode cX3_meltRoller 31 = .ok (.aload_n 0, 1) := by decide +kernel
theorem dX3_meltRoller_32 : decode cX3_meltRoller 32 = .ok (.iload_n 3, 1) := by decide +kernel
theorem dX3_meltRoller_33 : decode cX3_meltRoller 33 = .ok (.aload_n 0, 1) := by decide +kernel
theorem dX3_meltRoller_34 : decode cX3_meltRoller 34 = .ok (.iload_n 3, 1) := by decide +kernel
theorem dX3_meltRoller_35 : decode cX3_meltRoller 35 = .ok (.bipush 27, 2) := by decide +kernel
theorem dX3_meltRoller_37 : decode cX3_meltRoller 37 = .ok (.iadd, 1) := by decide +kernel
theorem dX3_meltRoller_38 : decode cX3_meltRoller 38 = .ok (.invokevirtual 15, 3) := by decide +kernel
theorem dX3_meltRoller_41 : decode cX3_meltRoller 41 = .ok (.invokevirtual 19, 3) := by decide +kernel
theorem dX3_meltRoller_44 : decode cX3_meltRoller 44 = .ok (.iinc 3 1, 3) := by decide +kernel
theorem dX3_meltRoller_47 : decode cX3_meltRoller 47 = .ok (.goto (-24), 3) := by decide +kernel
theorem dX3_meltRoller_50 : decode cX3_meltRoller 50 = .ok (.aload_n 0, 1) := by decide +kernel
theorem dX3_meltRoller_51 : decode cX3_meltRoller 51 = .ok (.iconst 0, 1) := by decide +kernel
theorem dX3_meltRoller_52 : decode cX3_meltRoller 52 = .ok (.iload_n 2, 1) := by decide +kernel
theorem dX3_meltRoller_53 : decode cX3_meltRoller 53 = .ok (.invokevirtual 19, 3) := by decide +kernel
theorem dX3_meltRoller_56 : decode cX3_meltRoller 56 = .ok (.iload_n 2, 1) := by decide +kernel
theorem dX3_meltRoller_57 : decode cX3_meltRoller 57 = .ok (.ireturn, 1) := by decide +kernel
set_option maxRecDepth 20000 in
theorem ggX3_teethOfSign_X3_teeth : GoodIn wsX3_teethOfSign wsX3_teeth := goodIn_r _ [5, 6, 7, 4, 8, 9, 10, 11, 12, 13, 18] (by decide +kernel) (by decide +kernel)
set_option maxRecDepth 20000 in
theorem gX3_teethOfSign_X3_teeth : GoodIn wsX3_teethOfSign (wsV RX3 34 RX3 yX3_teeth wsX3_teeth) := goodIn_app (goodIn_of _ (by decide +kernel)) ggX3_teethOfSign_X3_teeth
set_option maxRecDepth 20000 in
theorem ggX3_teethOfSign_X3_height : GoodIn wsX3_teethOfSign wsX3_height := goodIn_r _ [17, 6, 7, 4, 8, 9, 10, 11, 12, 13, 18] (by decide +kernel) (by decide +kernel)
set_option maxRecDepth 20000 in
theorem gX3_teethOfSign_X3_height : GoodIn wsX3_teethOfSign (wsV RX3 51 RX3 yX3_height wsX3_height) := goodIn_app (goodIn_of _ (by decide +kernel)) ggX3_teethOfSign_X3_height
theorem dX3_teethOfSign_0 : decode cX3_teethOfSign 0 = .ok (.iconst 0, 1) := by decide +kernel
theorem dX3_teethOfSign_1 : decode cX3_teethOfSign 1 = .ok (.istore_n 3, 1) := by decide +kernel
theorem dX3_teethOfSign_2 : decode cX3_teethOfSign 2 = .ok (.iconst 0, 1) := by decide +kernel
theorem dX3_teethOfSign_3 : decode cX3_teethOfSign 3 = .ok (.istore 4, 2) := by decide +kernel
theorem dX3_teethOfSign_5 : decode cX3_teethOfSign 5 = .ok (.iload 4, 2) := by decide +kernel
theorem dX3_teethOfSign_7 : decode cX3_teethOfSign 7 = .ok (.aload_n 0, 1) := by decide +kernel
theorem dX3_teethOfSign_8 : decode cX3_teethOfSign 8 = .ok (.iload_n 1, 1) := by decide +kernel
theorem dX3_teethOfSign_9 : decode cX3_teethOfSign 9 = .ok (.invokevirtual 34, 3) := by decide +kernel
theorem dX3_teethOfSign_12 : decode cX3_teethOfSign 12 = .ok (.if_icmp .ge 28, 3) := by decide +kernel
theorem dX3_teethOfSign_15 : decode cX3_teethOfSign 15 = .ok (.aload_n 0, 1) := by decide +kernel
theorem dX3_teethOfSign_16 : decode cX3_teethOfSign 16 = .ok (.iload_n 1, 1) := by decide +kernel
theorem dX3_teethOfSign_17 : decode cX3_teethOfSign 17 = .ok (.iload 4, 2) := by decide +kernel
theorem dX3_teethOfSign_19 : decode cX3_teethOfSign 19 = .ok (.invokevirtual 51, 3) := by decide +kernel
theorem dX3_teethOfSign_22 : decode cX3_teethOfSign 22 = .ok (.iload_n 2, 1) := by decide +kernel
theorem dX3_teethOfSign_23 : decode cX3_teethOfSign 23 = .ok (.imul, 1) := by decide +kernel
theorem dX3_teethOfSign_24 : decode cX3_teethOfSign 24 = .ok (.ifCond .le 10, 3) := by decide +kernel
theorem dX3_teethOfSign_27 : decode cX3_teethOfSign 27 = .ok (.iload_n 3, 1) := by decide +kernel
theorem dX3_teethOfSign_28 : decode cX3_teethOfSign 28 = .ok (.iconst 1, 1) := by decide +kernel
theorem dX3_teethOfSign_29 : decode cX3_teethOfSign 29 = .ok (.iload 4, 2) := by decide +kernel
theorem dX3_teethOfSign_31 : decode cX3_teethOfSign 31 = .ok (.ishl, 1) := by decide +kernel
theorem dX3_teethOfSign_32 : decode cX3_teethOfSign 32 = .ok (.ior, 1) := by decide +kernel
theorem dX3_teethOfSign_33 : decode cX3_teethOfSign 33 = .ok (.istore_n 3, 1) := by decide +kernel
theorem dX3_teethOfSign_34 : decode cX3_teethOfSign 34 = .ok (.iinc 4 1, 3) := by decide +kernel
theorem dX3_teethOfSign_37 : decode cX3_teethOfSign 37 = .ok (.goto (-32), 3) := by decide +kernel
theorem dX3_teethOfSign_40 : decode cX3_teethOfSign 40 = .ok (.iload_n 3, 1) := by decide +kernel
theorem dX3_teethOfSign_41 : decode cX3_teethOfSign 41 = .ok (.ireturn, 1) := by decide +kernel
set_option maxRecDepth 20000 in
theorem ggX3_greatestHeight_X3_height : GoodIn wsX3_greatestHeight wsX3_height := goodIn_r _ [9, 10, 11, 8, 12, 13, 14, 15, 16, 17, 22] (by decide +kernel) (by decide +kernel)
set_option maxRecDepth 20000 in
theorem gX3_greatestHeight_X3_height : GoodIn wsX3_greatestHeight (wsV RX3 51 RX3 yX3_height wsX3_height) := goodIn_app (goodIn_of _ (by decide +kernel)) ggX3_greatestHeight_X3_height
set_option maxRecDepth 20000 in
theorem ggX3_greatestHeight_X3_teeth : GoodIn wsX3_greatestHeight wsX3_teeth := goodIn_r _ [21, 10, 11, 8, 12, 13, 14, 15, 16, 17, 22] (by decide +kernel) (by decide +kernel)
set_option maxRecDepth 20000 in
theorem gX3_greatestHeight_X3_teeth : GoodIn wsX3_greatestHeight (wsV RX3 34 RX3 yX3_teeth wsX3_teeth) := goodIn_app (goodIn_of _ (by decide +kernel)) ggX3_greatestHeight_X3_teeth
theorem dX3_greatestHeight_0 : decode cX3_greatestHeight 0 = .ok (.aload_n 0, 1) := by decide +kernel
theorem dX3_greatestHeight_1 : decode cX3_greatestHeight 1 = .ok (.iload_n 1, 1) := by decide +kernel
theorem dX3_greatestHeight_2 : decode cX3_greatestHeight 2 = .ok (.iconst 0, 1) := by decide +kernel
theorem dX3_greatestHeight_3 : decode cX3_greatestHeight 3 = .ok (.invokevirtual 51, 3) := by decide +kernel
theorem dX3_greatestHeight_6 : decode cX3_greatestHeight 6 = .ok (.istore_n 2, 1) := by decide +kernel
theorem dX3_greatestHeight_7 : decode cX3_greatestHeight 7 = .ok (.iconst 1, 1) := by decide +kernel
theorem dX3_greatestHeight_8 : decode cX3_greatestHeight 8 = .ok (.istore_n 3, 1) := by decide +kernel
theorem dX3_greatestHeight_9 : decode cX3_greatestHeight 9 = .ok (.iload_n 3, 1) := by decide +kernel
theorem dX3_greatestHeight_10 : decode cX3_greatestHeight 10 = .ok (.aload_n 0, 1) := by decide +kernel
theorem dX3_greatestHeight_11 : decode cX3_greatestHeight 11 = .ok (.iload_n 1, 1) := by decide +kernel
theorem dX3_greatestHeight_12 : decode cX3_greatestHeight 12 = .ok (.invokevirtual 34, 3) := by decide +kernel
theorem dX3_greatestHeight_15 : decode cX3_greatestHeight 15 = .ok (.if_icmp .ge 20, 3) := by decide +kernel
theorem dX3_greatestHeight_18 : decode cX3_greatestHeight 18 = .ok (.iload_n 2, 1) := by decide +kernel
theorem dX3_greatestHeight_19 : decode cX3_greatestHeight 19 = .ok (.aload_n 0, 1) := by decide +kernel
theorem dX3_greatestHeight_20 : decode cX3_greatestHeight 20 = .ok (.iload_n 1, 1) := by decide +kernel
theorem dX3_greatestHeight_21 : decode cX3_greatestHeight 21 = .ok (.iload_n 3, 1) := by decide +kernel
theorem dX3_greatestHeight_22 : decode cX3_greatestHeight 22 = .ok (.invokevirtual 51, 3) := by decide +kernel
theorem dX3_greatestHeight_25 : decode cX3_greatestHeight 25 = .ok (.invokestatic 55, 3) := by decide +kernel
theorem dX3_greatestHeight_28 : decode cX3_greatestHeight 28 = .ok (.istore_n 2, 1) := by decide +kernel
theorem dX3_greatestHeight_29 : decode cX3_greatestHeight 29 = .ok (.iinc 3 1, 3) := by decide +kernel
theorem dX3_greatestHeight_32 : decode cX3_greatestHeight 32 = .ok (.goto (-23), 3) := by decide +kernel
theorem dX3_greatestHeight_35 : decode cX3_greatestHeight 35 = .ok (.iload_n 2, 1) := by decide +kernel
theorem dX3_greatestHeight_36 : decode cX3_greatestHeight 36 = .ok (.ireturn, 1) := by decide +kernel
set_option maxRecDepth 20000 in
theorem ggX3_leastHeight_X3_height : GoodIn wsX3_leastHeight wsX3_height := goodIn_r _ [9, 10, 11, 8, 12, 13, 14, 15, 16, 17, 22] (by decide +kernel) (by decide +kernel)
set_option maxRecDepth 20000 in
theorem gX3_leastHeight_X3_height : GoodIn wsX3_leastHeight (wsV RX3 51 RX3 yX3_height wsX3_height) := goodIn_app (goodIn_of _ (by decide +kernel)) ggX3_leastHeight_X3_height
set_option maxRecDepth 20000 in
theorem ggX3_leastHeight_X3_teeth : GoodIn wsX3_leastHeight wsX3_teeth := goodIn_r _ [21, 10, 11, 8, 12, 13, 14, 15, 16, 17, 22] (by decide +kernel) (by decide +kernel)
set_option maxRecDepth 20000 in
theorem gX3_leastHeight_X3_teeth : GoodIn wsX3_leastHeight (wsV RX3 34 RX3 yX3_teeth wsX3_teeth) := goodIn_app (goodIn_of _ (by decide +kernel)) ggX3_leastHeight_X3_teeth
theorem dX3_leastHeight_0 : decode cX3_leastHeight 0 = .ok (.aload_n 0, 1) := by decide +kernel
theorem dX3_leastHeight_1 : decode cX3_leastHeight 1 = .ok (.iload_n 1, 1) := by decide +kernel
theorem dX3_leastHeight_2 : decode cX3_leastHeight 2 = .ok (.iconst 0, 1) := by decide +kernel
theorem dX3_leastHeight_3 : decode cX3_leastHeight 3 = .ok (.invokevirtual 51, 3) := by decide +kernel
theorem dX3_leastHeight_6 : decode cX3_leastHeight 6 = .ok (.istore_n 2, 1) := by decide +kernel
theorem dX3_leastHeight_7 : decode cX3_leastHeight 7 = .ok (.iconst 1, 1) := by decide +kernel
theorem dX3_leastHeight_8 : decode cX3_leastHeight 8 = .ok (.istore_n 3, 1) := by decide +kernel
theorem dX3_leastHeight_9 : decode cX3_leastHeight 9 = .ok (.iload_n 3, 1) := by decide +kernel
theorem dX3_leastHeight_10 : decode cX3_leastHeight 10 = .ok (.aload_n 0, 1) := by decide +kernel
theorem dX3_leastHeight_11 : decode cX3_leastHeight 11 = .ok (.iload_n 1, 1) := by decide +kernel
theorem dX3_leastHeight_12 : decode cX3_leastHeight 12 = .ok (.invokevirtual 34, 3) := by decide +kernel
theorem dX3_leastHeight_15 : decode cX3_leastHeight 15 = .ok (.if_icmp .ge 20, 3) := by decide +kernel
theorem dX3_leastHeight_18 : decode cX3_leastHeight 18 = .ok (.iload_n 2, 1) := by decide +kernel
theorem dX3_leastHeight_19 : decode cX3_leastHeight 19 = .ok (.aload_n 0, 1) := by decide +kernel
theorem dX3_leastHeight_20 : decode cX3_leastHeight 20 = .ok (.iload_n 1, 1) := by decide +kernel
theorem dX3_leastHeight_21 : decode cX3_leastHeight 21 = .ok (.iload_n 3, 1) := by decide +kernel
theorem dX3_leastHeight_22 : decode cX3_leastHeight 22 = .ok (.invokevirtual 51, 3) := by decide +kernel
theorem dX3_leastHeight_25 : decode cX3_leastHeight 25 = .ok (.invokestatic 60, 3) := by decide +kernel
theorem dX3_leastHeight_28 : decode cX3_leastHeight 28 = .ok (.istore_n 2, 1) := by decide +kernel
theorem dX3_leastHeight_29 : decode cX3_leastHeight 29 = .ok (.iinc 3 1, 3) := by decide +kernel
theorem dX3_leastHeight_32 : decode cX3_leastHeight 32 = .ok (.goto (-23), 3) := by decide +kernel
theorem dX3_leastHeight_35 : decode cX3_leastHeight 35 = .ok (.iload_n 2, 1) := by decide +kernel
theorem dX3_leastHeight_36 : decode cX3_leastHeight 36 = .ok (.ireturn, 1) := by decide +kernel
set_option maxRecDepth 20000 in
theorem ggX3_countRun_X3_raise : GoodIn wsX3_countRun wsX3_raise := goodIn_r _ [5, 6, 7, 8, 4, 9, 10, 11, 12, 13, 14, 15] (by decide +kernel) (by decide +kernel)
set_option maxRecDepth 20000 in
theorem gX3_countRun_X3_raise : GoodIn wsX3_countRun (wsV RX3 44 RX3 yX3_raise wsX3_raise) := goodIn_app (goodIn_of _ (by decide +kernel)) ggX3_countRun_X3_raise
theorem dX3_countRun_0 : decode cX3_countRun 0 = .ok (.aload_n 0, 1) := by decide +kernel
theorem dX3_countRun_1 : decode cX3_countRun 1 = .ok (.iconst 3, 1) := by decide +kernel
theorem dX3_countRun_2 : decode cX3_countRun 2 = .ok (.iload_n 1, 1) := by decide +kernel
theorem dX3_countRun_3 : decode cX3_countRun 3 = .ok (.invokevirtual 44, 3) := by decide +kernel
theorem dX3_countRun_6 : decode cX3_countRun 6 = .ok (.aload_n 0, 1) := by decide +kernel
theorem dX3_countRun_7 : decode cX3_countRun 7 = .ok (.iconst 4, 1) := by decide +kernel
theorem dX3_countRun_8 : decode cX3_countRun 8 = .ok (.iload_n 2, 1) := by decide +kernel
theorem dX3_countRun_9 : decode cX3_countRun 9 = .ok (.invokevirtual 44, 3) := by decide +kernel
theorem dX3_countRun_12 : decode cX3_countRun 12 = .ok (.aload_n 0, 1) := by decide +kernel
theorem dX3_countRun_13 : decode cX3_countRun 13 = .ok (.iconst 5, 1) := by decide +kernel
theorem dX3_countRun_14 : decode cX3_countRun 14 = .ok (.iload_n 3, 1) := by decide +kernel
theorem dX3_countRun_15 : decode cX3_countRun 15 = .ok (.invokevirtual 44, 3) := by decide +kernel
theorem dX3_countRun_18 : decode cX3_countRun 18 = .ok (.return_, 1) := by decide +kernel
set_option maxRecDepth 20000 in
theorem ggX3_turnRoller_X3_placeOf : GoodIn wsX3_turnRoller wsX3_placeOf := goodIn_r _ [4] (by decide +kernel) (by decide +kernel)
set_option maxRecDepth 20000 in
theorem gX3_turnRoller_X3_placeOf : GoodIn wsX3_turnRoller (va_wsS RX3 37 yX3_placeOf wsX3_placeOf) := goodIn_app (goodIn_of _ (by decide +kernel)) ggX3_turnRoller_X3_placeOf
set_option maxRecDepth 20000 in
theorem ggX3_turnRoller_X3_raise : GoodIn wsX3_turnRoller wsX3_raise := goodIn_r _ [8, 9, 10, 11, 3, 12, 13, 14, 15, 16, 17, 42] (by decide +kernel) (by decide +kernel)
set_option maxRecDepth 20000 in
theorem gX3_turnRoller_X3_raise : GoodIn wsX3_turnRoller (wsV RX3 44 RX3 yX3_raise wsX3_raise) := goodIn_app (goodIn_of _ (by decide +kernel)) ggX3_turnRoller_X3_raise
set_option maxRecDepth 20000 in
theorem ggX3_turnRoller_X3_stepsSinceWorn : GoodIn wsX3_turnRoller wsX3_stepsSinceWorn := goodIn_r _ [21, 1, 2, 3, 4, 9, 10, 11, 12, 13, 42] (by decide +kernel) (by decide +kernel)
set_option maxRecDepth 20000 in
theorem gX3_turnRoller_X3_stepsSinceWorn : GoodIn wsX3_turnRoller (wsV RX3 63 RX3 yX3_stepsSinceWorn wsX3_stepsSinceWorn) := goodIn_app (goodIn_of _ (by decide +kernel)) ggX3_turnRoller_X3_stepsSinceWorn
set_option maxRecDepth 20000 in
theorem ggX3_turnRoller_X3_setting : GoodIn wsX3_turnRoller wsX3_setting := goodIn_r _ [25, 9, 10, 11, 3, 12, 13, 42] (by decide +kernel) (by decide +kernel)
set_option maxRecDepth 20000 in
theorem gX3_turnRoller_X3_setting : GoodIn wsX3_turnRoller (wsV RX3 27 RX3 yX3_setting wsX3_setting) := goodIn_app (goodIn_of _ (by decide +kernel)) ggX3_turnRoller_X3_setting
set_option maxRecDepth 20000 in
theorem ggX3_turnRoller_X3_teeth : GoodIn wsX3_turnRoller wsX3_teeth := goodIn_r _ [29, 1, 2, 3, 4, 9, 10, 11, 12, 13, 42] (by decide +kernel) (by decide +kernel)
set_option maxRecDepth 20000 in
theorem gX3_turnRoller_X3_teeth : GoodIn wsX3_turnRoller (wsV RX3 34 RX3 yX3_teeth wsX3_teeth) := goodIn_app (goodIn_of _ (by decide +kernel)) ggX3_turnRoller_X3_teeth
set_option maxRecDepth 20000 in
theorem ggX3_turnRoller_X3_wearDown : GoodIn wsX3_turnRoller wsX3_wearDown := goodIn_r _ [33, 26, 27, 28, 3, 29, 1, 2, 4, 9, 10, 11, 12, 13, 34, 35, 36, 37, 38, 39, 40, 41, 14, 15, 16, 17, 5, 6, 7, 8, 42] (by decide +kernel) (by decide +kernel)
set_option maxRecDepth 20000 in
theorem gX3_turnRoller_X3_wearDown : GoodIn wsX3_turnRoller (wsV RX3 66 RX3 yX3_wearDown wsX3_wearDown) := goodIn_app (goodIn_of _ (by decide +kernel)) ggX3_turnRoller_X3_wearDown
theorem dX3_turnRoller_0 : decode cX3_turnRoller 0 = .ok (.aload_n 0, 1) := by decide +kernel
theorem dX3_turnRoller_1 : decode cX3_turnRoller 1 = .ok (.iload_n 1, 1) := by decide +kernel
theorem dX3_turnRoller_2 : decode cX3_turnRoller 2 = .ok (.invokestatic 37, 3) := by decide +kernel
theorem dX3_turnRoller_5 : decode cX3_turnRoller 5 = .ok (.iconst 1, 1) := by decide +kernel
theorem dX3_turnRoller_6 : decode cX3_turnRoller 6 = .ok (.iadd, 1) := by decide +kernel
theorem dX3_turnRoller_7 : decode cX3_turnRoller 7 = .ok (.iload_n 2, 1) := by decide +kernel
theorem dX3_turnRoller_8 : decode cX3_turnRoller 8 = .ok (.invokevirtual 44, 3) := by decide +kernel
theorem dX3_turnRoller_11 : decode cX3_turnRoller 11 = .ok (.aload_n 0, 1) := by decide +kernel
theorem dX3_turnRoller_12 : decode cX3_turnRoller 12 = .ok (.iload_n 1, 1) := by decide +kernel
theorem dX3_turnRoller_13 : decode cX3_turnRoller 13 = .ok (.invokevirtual 63, 3) := by decide +kernel
theorem dX3_turnRoller_16 : decode cX3_turnRoller 16 = .ok (.aload_n 0, 1) := by decide +kernel
theorem dX3_turnRoller_17 : decode cX3_turnRoller 17 = .ok (.iconst 2, 1) := by decide +kernel
theorem dX3_turnRoller_18 : decode cX3_turnRoller 18 = .ok (.invokevirtual 27, 3) := by decide +kernel
theorem dX3_turnRoller_21 : decode cX3_turnRoller 21 = .ok (.aload_n 0, 1) := by decide +kernel
theorem dX3_turnRoller_22 : decode cX3_turnRoller 22 = .ok (.iload_n 1, 1) := by decide +kernel
theorem dX3_turnRoller_23 : decode cX3_turnRoller 23 = .ok (.invokevirtual 34, 3) := by decide +kernel
theorem dX3_turnRoller_26 : decode cX3_turnRoller 26 = .ok (.imul, 1) := by decide +kernel
theorem dX3_turnRoller_27 : decode cX3_turnRoller 27 = .ok (.if_icmp .lt 8, 3) := by decide +kernel
theorem dX3_turnRoller_30 : decode cX3_turnRoller 30 = .ok (.aload_n 0, 1) := by decide +kernel
theorem dX3_turnRoller_31 : decode cX3_turnRoller 31 = .ok (.iload_n 1, 1) := by decide +kernel
theorem dX3_turnRoller_32 : decode cX3_turnRoller 32 = .ok (.invokevirtual 66, 3) := by decide +kernel
theorem dX3_turnRoller_35 : decode cX3_turnRoller 35 = .ok (.return_, 1) := by decide +kernel
set_option maxRecDepth 20000 in
theorem ggX3_wearDown_X3_teeth : GoodIn wsX3_wearDown wsX3_teeth := goodIn_r _ [5, 6, 7, 4, 8, 9, 10, 11, 12, 13, 30] (by decide +kernel) (by decide +kernel)
set_option maxRecDepth 20000 in
theorem gX3_wearDown_X3_teeth : GoodIn wsX3_wearDown (wsV RX3 34 RX3 yX3_teeth wsX3_teeth) := goodIn_app (goodIn_of _ (by decide +kernel)) ggX3_wearDown_X3_teeth
set_option maxRecDepth 20000 in
theorem ggX3_wearDown_X3_height : GoodIn wsX3_wearDown wsX3_height := goodIn_r _ [17, 6, 7, 4, 8, 9, 10, 11, 12, 13, 30] (by decide +kernel) (by decide +kernel)
set_option maxRecDepth 20000 in
theorem gX3_wearDown_X3_height : GoodIn wsX3_wearDown (wsV RX3 51 RX3 yX3_height wsX3_height) := goodIn_app (goodIn_of _ (by decide +kernel)) ggX3_wearDown_X3_height
set_option maxRecDepth 20000 in
theorem ggX3_wearDown_X3_shape : GoodIn wsX3_wearDown wsX3_shape := goodIn_r _ [21, 6, 7, 4, 8, 22, 23, 24, 25, 13, 30] (by decide +kernel) (by decide +kernel)
set_option maxRecDepth 20000 in
theorem gX3_wearDown_X3_shape : GoodIn wsX3_wearDown (wsV RX3 40 RX3 yX3_shape wsX3_shape) := goodIn_app (goodIn_of _ (by decide +kernel)) ggX3_wearDown_X3_shape
set_option maxRecDepth 20000 in
theorem ggX3_wearDown_X3_placeOf : GoodIn wsX3_wearDown wsX3_placeOf := goodIn_r _ [8] (by decide +kernel) (by decide +kernel)
set_option maxRecDepth 20000 in
theorem gX3_wearDown_X3_placeOf : GoodIn wsX3_wearDown (va_wsS RX3 37 yX3_placeOf wsX3_placeOf) := goodIn_app (goodIn_of _ (by decide +kernel)) ggX3_wearDown_X3_placeOf
set_option maxRecDepth 20000 in
theorem ggX3_wearDown_X3_change : GoodIn wsX3_wearDown wsX3_change := goodIn_r _ [25, 13, 30] (by decide +kernel) (by decide +kernel)
set_option maxRecDepth 20000 in
theorem gX3_wearDown_X3_change : GoodIn wsX3_wearDown (wsV RX3 19 RX3 yX3_change wsX3_change) := goodIn_app (goodIn_of _ (by decide +kernel)) ggX3_wearDown_X3_change
set_option maxRecDepth 20000 in
theorem ggX3_wearDown_X3_raise : GoodIn wsX3_wearDown wsX3_raise := goodIn_r _ [29, 9, 10, 11, 4, 12, 13, 22, 23, 24, 25, 30] (by decide +kernel) (by decide +kernel)
set_option maxRecDepth 20000 in
theorem gX3_wearDown_X3_raise : GoodIn wsX3_wearDown (wsV RX3 44 RX3 yX3_raise wsX3_raise) := goodIn_app (goodIn_of _ (by decide +kernel)) ggX3_wearDown_X3_raise
theorem dX3_wearDown_0 : decode cX3_wearDown 0 = .ok (.aload_n 0, 1) := by decide +kernel
theorem dX3_wearDown_1 : decode cX3_wearDown 1 = .ok (.iload_n 1, 1) := by decide +kernel
theorem dX3_wearDown_2 : decode cX3_wearDown 2 = .ok (.invokevirtual 34, 3) := by decide +kernel
theorem dX3_wearDown_5 : decode cX3_wearDown 5 = .ok (.istore_n 2, 1) := by decide +kernel
theorem dX3_wearDown_6 : decode cX3_wearDown 6 = .ok (.iconst 0, 1) := by decide +kernel
theorem dX3_wearDown_7 : decode cX3_wearDown 7 = .ok (.istore_n 3, 1) := by decide +kernel
theorem dX3_wearDown_8 : decode cX3_wearDown 8 = .ok (.iload_n 3, 1) := by decide +kernel
theorem dX3_wearDown_9 : decode cX3_wearDown 9 = .ok (.iload_n 2, 1) := by decide +kernel
theorem dX3_wearDown_10 : decode cX3_wearDown 10 = .ok (.if_icmp .ge 32, 3) := by decide +kernel
theorem dX3_wearDown_13 : decode cX3_wearDown 13 = .ok (.aload_n 0, 1) := by decide +kernel
theorem dX3_wearDown_14 : decode cX3_wearDown 14 = .ok (.iload_n 1, 1) := by decide +kernel
theorem dX3_wearDown_15 : decode cX3_wearDown 15 = .ok (.iload_n 3, 1) := by decide +kernel
theorem dX3_wearDown_16 : decode cX3_wearDown 16 = .ok (.invokevirtual 51, 3) := by decide +kernel
theorem dX3_wearDown_19 : decode cX3_wearDown 19 = .ok (.istore 4, 2) := by decide +kernel
theorem dX3_wearDown_21 : decode cX3_wearDown 21 = .ok (.iload 4, 2) := by decide +kernel
theorem dX3_wearDown_23 : decode cX3_wearDown 23 = .ok (.ifCond .le 13, 3) := by decide +kernel
theorem dX3_wearDown_26 : decode cX3_wearDown 26 = .ok (.aload_n 0, 1) := by decide +kernel
theorem dX3_wearDown_27 : decode cX3_wearDown 27 = .ok (.iload_n 1, 1) := by decide +kernel
theorem dX3_wearDown_28 : decode cX3_wearDown 28 = .ok (.iload_n 3, 1) := by decide +kernel
theorem dX3_wearDown_29 : decode cX3_wearDown 29 = .ok (.iload 4, 2) := by decide +kernel
theorem dX3_wearDown_31 : decode cX3_wearDown 31 = .ok (.iconst 1, 1) := by decide +kernel
theorem dX3_wearDown_32 : decode cX3_wearDown 32 = .ok (.isub, 1) := by decide +kernel
theorem dX3_wearDown_33 : decode cX3_wearDown 33 = .ok (.invokevirtual 40, 3) := by decide +kernel
theorem dX3_wearDown_36 : decode cX3_wearDown 36 = .ok (.iinc 3 1, 3) := by decide +kernel
theorem dX3_wearDown_39 : decode cX3_wearDown 39 = .ok (.goto (-31), 3) := by decide +kernel
theorem dX3_wearDown_42 : decode cX3_wearDown 42 = .ok (.aload_n 0, 1) := by decide +kernel
theorem dX3_wearDown_43 : decode cX3_wearDown 43 = .ok (.iload_n 1, 1) := by decide +kernel
theorem dX3_wearDown_44 : decode cX3_wearDown 44 = .ok (.invokestatic 37, 3) := by decide +kernel
theorem dX3_wearDown_47 : decode cX3_wearDown 47 = .ok (.iconst 1, 1) := by decide +kernel
theorem dX3_wearDown_48 : decode cX3_wearDown 48 = .ok (.iadd, 1) := by decide +kernel
theorem dX3_wearDown_49 : decode cX3_wearDown 49 = .ok (.iconst 0, 1) := by decide +kernel
theorem dX3_wearDown_50 : decode cX3_wearDown 50 = .ok (.invokevirtual 19, 3) := by decide +kernel
theorem dX3_wearDown_53 : decode cX3_wearDown 53 = .ok (.aload_n 0, 1) := by decide +kernel
theorem dX3_wearDown_54 : decode cX3_wearDown 54 = .ok (.iload_n 1, 1) := by decide +kernel
theorem dX3_wearDown_55 : decode cX3_wearDown 55 = .ok (.invokestatic 37, 3) := by decide +kernel
theorem dX3_wearDown_58 : decode cX3_wearDown 58 = .ok (.iconst 2, 1) := by decide +kernel
theorem dX3_wearDown_59 : decode cX3_wearDown 59 = .ok (.iadd, 1) := by decide +kernel
theorem dX3_wearDown_60 : decode cX3_wearDown 60 = .ok (.iconst 1, 1) := by decide +kernel
theorem dX3_wearDown_61 : decode cX3_wearDown 61 = .ok (.invokevirtual 44, 3) := by decide +kernel
theorem dX3_wearDown_64 : decode cX3_wearDown 64 = .ok (.return_, 1) := by decide +kernel
theorem dX3_copyTo_0 : decode cX3_copyTo 0 = .ok (.iload_n 2, 1) := by decide +kernel
theorem dX3_copyTo_1 : decode cX3_copyTo 1 = .ok (.ifCond .lt 30, 3) := by decide +kernel
theorem dX3_copyTo_4 : decode cX3_copyTo 4 = .ok (.iload_n 2, 1) := by decide +kernel
theorem dX3_copyTo_5 : decode cX3_copyTo 5 = .ok (.aload_n 1, 1) := by decide +kernel
theorem dX3_copyTo_6 : decode cX3_copyTo 6 = .ok (.arraylength, 1) := by decide +kernel
theorem dX3_copyTo_7 : decode cX3_copyTo 7 = .ok (.sipush 225, 3) := by decide +kernel
theorem dX3_copyTo_10 : decode cX3_copyTo 10 = .ok (.idiv, 1) := by decide +kernel
theorem dX3_copyTo_11 : decode cX3_copyTo 11 = .ok (.if_icmp .ge 20, 3) := by decide +kernel
theorem dX3_copyTo_14 : decode cX3_copyTo 14 = .ok (.aload_n 0, 1) := by decide +kernel
theorem dX3_copyTo_15 : decode cX3_copyTo 15 = .ok (.getfield 11, 3) := by decide +kernel
theorem dX3_copyTo_18 : decode cX3_copyTo 18 = .ok (.iconst 0, 1) := by decide +kernel
theorem dX3_copyTo_19 : decode cX3_copyTo 19 = .ok (.aload_n 1, 1) := by decide +kernel
theorem dX3_copyTo_20 : decode cX3_copyTo 20 = .ok (.iload_n 2, 1) := by decide +kernel
theorem dX3_copyTo_21 : decode cX3_copyTo 21 = .ok (.sipush 225, 3) := by decide +kernel
theorem dX3_copyTo_24 : decode cX3_copyTo 24 = .ok (.imul, 1) := by decide +kernel
theorem dX3_copyTo_25 : decode cX3_copyTo 25 = .ok (.sipush 225, 3) := by decide +kernel
theorem dX3_copyTo_28 : decode cX3_copyTo 28 = .ok (.invokestatic 70, 3) := by decide +kernel
theorem dX3_copyTo_31 : decode cX3_copyTo 31 = .ok (.return_, 1) := by decide +kernel
theorem dX3_copyFrom_0 : decode cX3_copyFrom 0 = .ok (.iload_n 2, 1) := by decide +kernel
theorem dX3_copyFrom_1 : decode cX3_copyFrom 1 = .ok (.ifCond .lt 30, 3) := by decide +kernel
theorem dX3_copyFrom_4 : decode cX3_copyFrom 4 = .ok (.iload_n 2, 1) := by decide +kernel
theorem dX3_copyFrom_5 : decode cX3_copyFrom 5 = .ok (.aload_n 1, 1) := by decide +kernel
theorem dX3_copyFrom_6 : decode cX3_copyFrom 6 = .ok (.arraylength, 1) := by decide +kernel
theorem dX3_copyFrom_7 : decode cX3_copyFrom 7 = .ok (.sipush 225, 3) := by decide +kernel
theorem dX3_copyFrom_10 : decode cX3_copyFrom 10 = .ok (.idiv, 1) := by decide +kernel
theorem dX3_copyFrom_11 : decode cX3_copyFrom 11 = .ok (.if_icmp .ge 20, 3) := by decide +kernel
theorem dX3_copyFrom_14 : decode cX3_copyFrom 14 = .ok (.aload_n 1, 1) := by decide +kernel
theorem dX3_copyFrom_15 : decode cX3_copyFrom 15 = .ok (.iload_n 2, 1) := by decide +kernel
theorem dX3_copyFrom_16 : decode cX3_copyFrom 16 = .ok (.sipush 225, 3) := by decide +kernel
theorem dX3_copyFrom_19 : decode cX3_copyFrom 19 = .ok (.imul, 1) := by decide +kernel
theorem dX3_copyFrom_20 : decode cX3_copyFrom 20 = .ok (.aload_n 0, 1) := by decide +kernel
theorem dX3_copyFrom_21 : decode cX3_copyFrom 21 = .ok (.getfield 11, 3) := by decide +kernel
theorem dX3_copyFrom_24 : decode cX3_copyFrom 24 = .ok (.iconst 0, 1) := by decide +kernel
theorem dX3_copyFrom_25 : decode cX3_copyFrom 25 = .ok (.sipush 225, 3) := by decide +kernel
theorem dX3_copyFrom_28 : decode cX3_copyFrom 28 = .ok (.invokestatic 70, 3) := by decide +kernel
theorem dX3_copyFrom_31 : decode cX3_copyFrom 31 = .ok (.return_, 1) := by decide +kernel
theorem dX4_init_0 : decode cX4_init 0 = .ok (.aload_n 0, 1) := by decide +kernel
theorem dX4_init_1 : decode cX4_init 1 = .ok (.invokespecial 3, 3) := by decide +kernel
theorem dX4_init_4 : decode cX4_init 4 = .ok (.aload_n 0, 1) := by decide +kernel
theorem dX4_init_5 : decode cX4_init 5 = .ok (.sipush 450, 3) := by decide +kernel
theorem dX4_init_8 : decode cX4_init 8 = .ok (.newarray .int, 2) := by decide +kernel
theorem dX4_init_10 : decode cX4_init 10 = .ok (.putfield 13, 3) := by decide +kernel
theorem dX4_init_13 : decode cX4_init 13 = .ok (.return_, 1) := by decide +kernel
set_option maxRecDepth 20000 in
theorem ggX4_keep_X6_outside : GoodIn wsX4_keep wsX6_outside := goodIn_r _ [5] (by decide +kernel) (by decide +kernel)
set_option maxRecDepth 20000 in
theorem gX4_keep_X6_outside_n17 : GoodIn wsX4_keep (wsX6_outside) := ggX4_keep_X6_outside
set_option maxRecDepth 20000 in
theorem ggX4_keep_X3_copyTo : GoodIn wsX4_keep wsX3_copyTo := goodIn_r _ [10, 11, 12, 13, 14, 15, 22] (by decide +kernel) (by decide +kernel)
set_option maxRecDepth 20000 in
theorem gX4_keep_X3_copyTo : GoodIn wsX4_keep (wsV RX4 21 RX3 yX3_copyTo wsX3_copyTo) := goodIn_app (goodIn_of _ (by decide +kernel)) ggX4_keep_X3_copyTo
set_option maxRecDepth 20000 in
theorem ggX4_keep_X3_cell : GoodIn wsX4_keep wsX3_cell := goodIn_r _ [19, 11, 22] (by decide +kernel) (by decide +kernel)
set_option maxRecDepth 20000 in
theorem gX4_keep_X3_cell : GoodIn wsX4_keep (wsV RX4 29 RX3 yX3_cell wsX3_cell) := goodIn_app (goodIn_of _ (by decide +kernel)) ggX4_keep_X3_cell
theorem dX4_keep_0 : decode cX4_keep 0 = .ok (.iload_n 1, 1) := by decide +kernel
theorem dX4_keep_1 : decode cX4_keep 1 = .ok (.iconst 0, 1) := by decide +kernel
theorem dX4_keep_2 : decode cX4_keep 2 = .ok (.iconst 1, 1) := by decide +kernel
theorem dX4_keep_3 : decode cX4_keep 3 = .ok (.invokestatic 17, 3) := by decide +kernel
theorem dX4_keep_6 : decode cX4_keep 6 = .ok (.ifCond .eq 6, 3) := by decide +kernel
theorem dX4_keep_9 : decode cX4_keep 9 = .ok (.bipush (-2), 2) := by decide +kernel
theorem dX4_keep_11 : decode cX4_keep 11 = .ok (.ireturn, 1) := by decide +kernel
theorem dX4_keep_12 : decode cX4_keep 12 = .ok (.aload_n 2, 1) := by decide +kernel
theorem dX4_keep_13 : decode cX4_keep 13 = .ok (.aload_n 0, 1) := by decide +kernel
theorem dX4_keep_14 : decode cX4_keep 14 = .ok (.getfield 13, 3) := by decide +kernel
theorem dX4_keep_17 : decode cX4_keep 17 = .ok (.iload_n 1, 1) := by decide +kernel
theorem dX4_keep_18 : decode cX4_keep 18 = .ok (.invokevirtual 21, 3) := by decide +kernel
theorem dX4_keep_21 : decode cX4_keep 21 = .ok (.aload_n 0, 1) := by decide +kernel
theorem dX4_keep_22 : decode cX4_keep 22 = .ok (.dup, 1) := by decide +kernel
theorem dX4_keep_23 : decode cX4_keep 23 = .ok (.getfield 25, 3) := by decide +kernel
theorem dX4_keep_26 : decode cX4_keep 26 = .ok (.iconst 1, 1) := by decide +kernel
theorem dX4_keep_27 : decode cX4_keep 27 = .ok (.iload_n 1, 1) := by decide +kernel
theorem dX4_keep_28 : decode cX4_keep 28 = .ok (.ishl, 1) := by decide +kernel
theorem dX4_keep_29 : decode cX4_keep 29 = .ok (.ior, 1) := by decide +kernel
theorem dX4_keep_30 : decode cX4_keep 30 = .ok (.putfield 25, 3) := by decide +kernel
theorem dX4_keep_33 : decode cX4_keep 33 = .ok (.aload_n 2, 1) := by decide +kernel
theorem dX4_keep_34 : decode cX4_keep 34 = .ok (.iconst 0, 1) := by decide +kernel
theorem dX4_keep_35 : decode cX4_keep 35 = .ok (.invokevirtual 29, 3) := by decide +kernel
theorem dX4_keep_38 : decode cX4_keep 38 = .ok (.ireturn, 1) := by decide +kernel
set_option maxRecDepth 20000 in
theorem ggX4_fetch_X6_outside : GoodIn wsX4_fetch wsX6_outside := goodIn_r _ [5] (by decide +kernel) (by decide +kernel)
set_option maxRecDepth 20000 in
theorem gX4_fetch_X6_outside_n17 : GoodIn wsX4_fetch (wsX6_outside) := ggX4_fetch_X6_outside
set_option maxRecDepth 20000 in
theorem ggX4_fetch_X3_copyFrom : GoodIn wsX4_fetch wsX3_copyFrom := goodIn_r _ [10, 11, 12, 13, 14, 15, 22] (by decide +kernel) (by decide +kernel)
set_option maxRecDepth 20000 in
theorem gX4_fetch_X3_copyFrom : GoodIn wsX4_fetch (wsV RX4 33 RX3 yX3_copyFrom wsX3_copyFrom) := goodIn_app (goodIn_of _ (by decide +kernel)) ggX4_fetch_X3_copyFrom
set_option maxRecDepth 20000 in
theorem ggX4_fetch_X3_cell : GoodIn wsX4_fetch wsX3_cell := goodIn_r _ [19, 11, 22] (by decide +kernel) (by decide +kernel)
set_option maxRecDepth 20000 in
theorem gX4_fetch_X3_cell : GoodIn wsX4_fetch (wsV RX4 29 RX3 yX3_cell wsX3_cell) := goodIn_app (goodIn_of _ (by decide +kernel)) ggX4_fetch_X3_cell
theorem dX4_fetch_0 : decode cX4_fetch 0 = .ok (.iload_n 1, 1) := by decide +kernel
theorem dX4_fetch_1 : decode cX4_fetch 1 = .ok (.iconst 0, 1) := by decide +kernel
theorem dX4_fetch_2 : decode cX4_fetch 2 = .ok (.iconst 1, 1) := by decide +kernel
theorem dX4_fetch_3 : decode cX4_fetch 3 = .ok (.invokestatic 17, 3) := by decide +kernel
theorem dX4_fetch_6 : decode cX4_fetch 6 = .ok (.ifCond .eq 6, 3) := by decide +kernel
theorem dX4_fetch_9 : decode cX4_fetch 9 = .ok (.bipush (-2), 2) := by decide +kernel
theorem dX4_fetch_11 : decode cX4_fetch 11 = .ok (.ireturn, 1) := by decide +kernel
theorem dX4_fetch_12 : decode cX4_fetch 12 = .ok (.aload_n 0, 1) := by decide +kernel
theorem dX4_fetch_13 : decode cX4_fetch 13 = .ok (.getfield 25, 3) := by decide +kernel
theorem dX4_fetch_16 : decode cX4_fetch 16 = .ok (.iconst 1, 1) := by decide +kernel
theorem dX4_fetch_17 : decode cX4_fetch 17 = .ok (.iload_n 1, 1) := by decide +kernel
theorem dX4_fetch_18 : decode cX4_fetch 18 = .ok (.ishl, 1) := by decide +kernel
theorem dX4_fetch_19 : decode cX4_fetch 19 = .ok (.iand, 1) := by decide +kernel
theorem dX4_fetch_20 : decode cX4_fetch 20 = .ok (.ifCond .ne 6, 3) := by decide +kernel
theorem dX4_fetch_23 : decode cX4_fetch 23 = .ok (.bipush (-5), 2) := by decide +kernel
theorem dX4_fetch_25 : decode cX4_fetch 25 = .ok (.ireturn, 1) := by decide +kernel
theorem dX4_fetch_26 : decode cX4_fetch 26 = .ok (.aload_n 2, 1) := by decide +kernel
theorem dX4_fetch_27 : decode cX4_fetch 27 = .ok (.aload_n 0, 1) := by decide +kernel
theorem dX4_fetch_28 : decode cX4_fetch 28 = .ok (.getfield 13, 3) := by decide +kernel
theorem dX4_fetch_31 : decode cX4_fetch 31 = .ok (.iload_n 1, 1) := by decide +kernel
theorem dX4_fetch_32 : decode cX4_fetch 32 = .ok (.invokevirtual 33, 3) := by decide +kernel
theorem dX4_fetch_35 : decode cX4_fetch 35 = .ok (.aload_n 2, 1) := by decide +kernel
theorem dX4_fetch_36 : decode cX4_fetch 36 = .ok (.iconst 0, 1) := by decide +kernel
theorem dX4_fetch_37 : decode cX4_fetch 37 = .ok (.invokevirtual 29, 3) := by decide +kernel
theorem dX4_fetch_40 : decode cX4_fetch 40 = .ok (.ireturn, 1) := by decide +kernel
theorem dX5_init_0 : decode cX5_init 0 = .ok (.aload_n 0, 1) := by decide +kernel
theorem dX5_init_1 : decode cX5_init 1 = .ok (.invokespecial 3, 3) := by decide +kernel
theorem dX5_init_4 : decode cX5_init 4 = .ok (.aload_n 0, 1) := by decide +kernel
theorem dX5_init_5 : decode cX5_init 5 = .ok (.sipush 552, 3) := by decide +kernel
theorem dX5_init_8 : decode cX5_init 8 = .ok (.newarray .int, 2) := by decide +kernel
theorem dX5_init_10 : decode cX5_init 10 = .ok (.putfield 11, 3) := by decide +kernel
theorem dX5_init_13 : decode cX5_init 13 = .ok (.return_, 1) := by decide +kernel
set_option maxRecDepth 20000 in
theorem ggX5_lay_X3_teeth : GoodIn wsX5_lay wsX3_teeth := goodIn_r _ [11, 12, 13, 10, 14, 15, 16, 17, 18, 19, 35] (by decide +kernel) (by decide +kernel)
set_option maxRecDepth 20000 in
theorem gX5_lay_X3_teeth : GoodIn wsX5_lay (wsV RX5 15 RX3 yX3_teeth wsX3_teeth) := goodIn_app (goodIn_of _ (by decide +kernel)) ggX5_lay_X3_teeth
set_option maxRecDepth 20000 in
theorem ggX5_lay_X5_leastMultiple : GoodIn wsX5_lay wsX5_leastMultiple := goodIn_r _ [23] (by decide +kernel) (by decide +kernel)
set_option maxRecDepth 20000 in
theorem gX5_lay_X5_leastMultiple : GoodIn wsX5_lay (va_wsS RX5 21 yX5_leastMultiple wsX5_leastMultiple) := goodIn_app (goodIn_of _ (by decide +kernel)) ggX5_lay_X5_leastMultiple
set_option maxRecDepth 20000 in
theorem ggX5_lay_X3_height : GoodIn wsX5_lay wsX3_height := goodIn_r _ [27, 12, 13, 10, 14, 15, 16, 17, 18, 19, 35] (by decide +kernel) (by decide +kernel)
set_option maxRecDepth 20000 in
theorem gX5_lay_X3_height : GoodIn wsX5_lay (wsV RX5 34 RX3 yX3_height wsX3_height) := goodIn_app (goodIn_of _ (by decide +kernel)) ggX5_lay_X3_height
set_option maxRecDepth 20000 in
theorem ggX5_lay_X5_next : GoodIn wsX5_lay wsX5_next := goodIn_r _ [30] (by decide +kernel) (by decide +kernel)
set_option maxRecDepth 20000 in
theorem gX5_lay_X5_next : GoodIn wsX5_lay (va_wsS RX5 37 yX5_next wsX5_next) := goodIn_app (goodIn_of _ (by decide +kernel)) ggX5_lay_X5_next
theorem dX5_lay_0 : decode cX5_lay 0 = .ok (.aload_n 1, 1) := by decide +kernel
theorem dX5_lay_1 : decode cX5_lay 1 = .ok (.iload_n 2, 1) := by decide +kernel
theorem dX5_lay_2 : decode cX5_lay 2 = .ok (.invokevirtual 15, 3) := by decide +kernel
theorem dX5_lay_5 : decode cX5_lay 5 = .ok (.istore 6, 2) := by decide +kernel
theorem dX5_lay_7 : decode cX5_lay 7 = .ok (.aload_n 1, 1) := by decide +kernel
theorem dX5_lay_8 : decode cX5_lay 8 = .ok (.iload_n 3, 1) := by decide +kernel
theorem dX5_lay_9 : decode cX5_lay 9 = .ok (.invokevirtual 15, 3) := by decide +kernel
theorem dX5_lay_12 : decode cX5_lay 12 = .ok (.istore 7, 2) := by decide +kernel
theorem dX5_lay_14 : decode cX5_lay 14 = .ok (.aload_n 0, 1) := by decide +kernel
theorem dX5_lay_15 : decode cX5_lay 15 = .ok (.iload 6, 2) := by decide +kernel
theorem dX5_lay_17 : decode cX5_lay 17 = .ok (.iload 7, 2) := by decide +kernel
theorem dX5_lay_19 : decode cX5_lay 19 = .ok (.invokestatic 21, 3) := by decide +kernel
theorem dX5_lay_22 : decode cX5_lay 22 = .ok (.sipush 552, 3) := by decide +kernel
theorem dX5_lay_25 : decode cX5_lay 25 = .ok (.invokestatic 25, 3) := by decide +kernel
theorem dX5_lay_28 : decode cX5_lay 28 = .ok (.putfield 30, 3) := by decide +kernel
theorem dX5_lay_31 : decode cX5_lay 31 = .ok (.iconst 0, 1) := by decide +kernel
theorem dX5_lay_32 : decode cX5_lay 32 = .ok (.istore 8, 2) := by decide +kernel
theorem dX5_lay_34 : decode cX5_lay 34 = .ok (.iload 7, 2) := by decide +kernel
theorem dX5_lay_36 : decode cX5_lay 36 = .ok (.ifCond .le 11, 3) := by decide +kernel
theorem dX5_lay_39 : decode cX5_lay 39 = .ok (.iload 4, 2) := by decide +kernel
theorem dX5_lay_41 : decode cX5_lay 41 = .ok (.iload 7, 2) := by decide +kernel
theorem dX5_lay_43 : decode cX5_lay 43 = .ok (.irem, 1) := by decide +kernel
theorem dX5_lay_44 : decode cX5_lay 44 = .ok (.goto 4, 3) := by decide +kernel
theorem dX5_lay_47 : decode cX5_lay 47 = .ok (.iconst 0, 1) := by decide +kernel
theorem dX5_lay_48 : decode cX5_lay 48 = .ok (.istore 9, 2) := by decide +kernel
theorem dX5_lay_50 : decode cX5_lay 50 = .ok (.iconst 0, 1) := by decide +kernel
theorem dX5_lay_51 : decode cX5_lay 51 = .ok (.istore 10, 2) := by decide +kernel
theorem dX5_lay_53 : decode cX5_lay 53 = .ok (.iload 10, 2) := by decide +kernel
theorem dX5_lay_55 : decode cX5_lay 55 = .ok (.aload_n 0, 1) := by decide +kernel
theorem dX5_lay_56 : decode cX5_lay 56 = .ok (.getfield 30, 3) := by decide +kernel
theorem dX5_lay_59 : decode cX5_lay 59 = .ok (.if_icmp .ge 62, 3) := by decide +kernel
theorem dX5_lay_62 : decode cX5_lay 62 = .ok (.iload 10, 2) := by decide +kernel
theorem dX5_lay_64 : decode cX5_lay 64 = .ok (.aload_n 0, 1) := by decide +kernel
theorem dX5_lay_65 : decode cX5_lay 65 = .ok (.getfield 11, 3) := by decide +kernel
theorem dX5_lay_68 : decode cX5_lay 68 = .ok (.arraylength, 1) := by decide +kernel
theorem dX5_lay_69 : decode cX5_lay 69 = .ok (.if_icmp .ge 52, 3) := by decide +kernel
theorem dX5_lay_72 : decode cX5_lay 72 = .ok (.aload_n 0, 1) := by decide +kernel
theorem dX5_lay_73 : decode cX5_lay 73 = .ok (.getfield 11, 3) := by decide +kernel
theorem dX5_lay_76 : decode cX5_lay 76 = .ok (.iload 10, 2) := by decide +kernel
theorem dX5_lay_78 : decode cX5_lay 78 = .ok (.iload 5, 2) := by decide +kernel
theorem dX5_lay_80 : decode cX5_lay 80 = .ok (.aload_n 1, 1) := by decide +kernel
theorem dX5_lay_81 : decode cX5_lay 81 = .ok (.iload_n 2, 1) := by decide +kernel
theorem dX5_lay_82 : decode cX5_lay 82 = .ok (.iload 8, 2) := by decide +kernel
theorem dX5_lay_84 : decode cX5_lay 84 = .ok (.invokevirtual 34, 3) := by decide +kernel
theorem dX5_lay_87 : decode cX5_lay 87 = .ok (.isub, 1) := by decide +kernel
theorem dX5_lay_88 : decode cX5_lay 88 = .ok (.aload_n 1, 1) := by decide +kernel
theorem dX5_lay_89 : decode cX5_lay 89 = .ok (.iload_n 3, 1) := by decide +kernel
theorem dX5_lay_90 : decode cX5_lay 90 = .ok (.iload 9, 2) := by decide +kernel
theorem dX5_lay_92 : decode cX5_lay 92 = .ok (.invokevirtual 34, 3) := by decide +kernel
theorem dX5_lay_95 : decode cX5_lay 95 = .ok (.isub, 1) := by decide +kernel
theorem dX5_lay_96 : decode cX5_lay 96 = .ok (.iastore, 1) := by decide +kernel
theorem dX5_lay_97 : decode cX5_lay 97 = .ok (.iload 8, 2) := by decide +kernel
theorem dX5_lay_99 : decode cX5_lay 99 = .ok (.iload 6, 2) := by decide +kernel
theorem dX5_lay_101 : decode cX5_lay 101 = .ok (.invokestatic 37, 3) := by decide +kernel
theorem dX5_lay_104 : decode cX5_lay 104 = .ok (.istore 8, 2) := by decide +kernel
theorem dX5_lay_106 : decode cX5_lay 106 = .ok (.iload 9, 2) := by decide +kernel
theorem dX5_lay_108 : decode cX5_lay 108 = .ok (.iload 7, 2) := by decide +kernel
theorem dX5_lay_110 : decode cX5_lay 110 = .ok (.invokestatic 37, 3) := by decide +kernel
theorem dX5_lay_113 : decode cX5_lay 113 = .ok (.istore 9, 2) := by decide +kernel
theorem dX5_lay_115 : decode cX5_lay 115 = .ok (.iinc 10 1, 3) := by decide +kernel
theorem dX5_lay_118 : decode cX5_lay 118 = .ok (.goto (-65), 3) := by decide +kernel
theorem dX5_lay_121 : decode cX5_lay 121 = .ok (.return_, 1) := by decide +kernel
theorem dX5_leastMultiple_0 : decode cX5_leastMultiple 0 = .ok (.iconst 1, 1) := by decide +kernel
theorem dX5_leastMultiple_1 : decode cX5_leastMultiple 1 = .ok (.istore_n 2, 1) := by decide +kernel
theorem dX5_leastMultiple_2 : decode cX5_leastMultiple 2 = .ok (.iload_n 2, 1) := by decide +kernel
theorem dX5_leastMultiple_3 : decode cX5_leastMultiple 3 = .ok (.iload_n 1, 1) := by decide +kernel
theorem dX5_leastMultiple_4 : decode cX5_leastMultiple 4 = .ok (.if_icmp .ge 21, 3) := by decide +kernel
theorem dX5_leastMultiple_7 : decode cX5_leastMultiple 7 = .ok (.iload_n 0, 1) := by decide +kernel
theorem dX5_leastMultiple_8 : decode cX5_leastMultiple 8 = .ok (.iload_n 2, 1) := by decide +kernel
theorem dX5_leastMultiple_9 : decode cX5_leastMultiple 9 = .ok (.imul, 1) := by decide +kernel
theorem dX5_leastMultiple_10 : decode cX5_leastMultiple 10 = .ok (.iload_n 1, 1) := by decide +kernel
theorem dX5_leastMultiple_11 : decode cX5_leastMultiple 11 = .ok (.irem, 1) := by decide +kernel
theorem dX5_leastMultiple_12 : decode cX5_leastMultiple 12 = .ok (.ifCond .ne 7, 3) := by decide +kernel
theorem dX5_leastMultiple_15 : decode cX5_leastMultiple 15 = .ok (.iload_n 0, 1) := by decide +kernel
theorem dX5_leastMultiple_16 : decode cX5_leastMultiple 16 = .ok (.iload_n 2, 1) := by decide +kernel
theorem dX5_leastMultiple_17 : decode cX5_leastMultiple 17 = .ok (.imul, 1) := by decide +kernel
theorem dX5_leastMultiple_18 : decode cX5_leastMultiple 18 = .ok (.ireturn, 1) := by decide +kernel
theorem dX5_leastMultiple_19 : decode cX5_leastMultiple 19 = .ok (.iinc 2 1, 3) := by decide +kernel
theorem dX5_leastMultiple_22 : decode cX5_leastMultiple 22 = .ok (.goto (-20), 3) := by decide +kernel
theorem dX5_leastMultiple_25 : decode cX5_leastMultiple 25 = .ok (.iload_n 0, 1) := by decide +kernel
theorem dX5_leastMultiple_26 : decode cX5_leastMultiple 26 = .ok (.iload_n 1, 1) := by decide +kernel
theorem dX5_leastMultiple_27 : decode cX5_leastMultiple 27 = .ok (.imul, 1) := by decide +kernel
theorem dX5_leastMultiple_28 : decode cX5_leastMultiple 28 = .ok (.ireturn, 1) := by decide +kernel
theorem dX5_next_0 : decode cX5_next 0 = .ok (.iload_n 0, 1) := by decide +kernel
theorem dX5_next_1 : decode cX5_next 1 = .ok (.iconst 1, 1) := by decide +kernel
theorem dX5_next_2 : decode cX5_next 2 = .ok (.iadd, 1) := by decide +kernel
theorem dX5_next_3 : decode cX5_next 3 = .ok (.iload_n 1, 1) := by decide +kernel
theorem dX5_next_4 : decode cX5_next 4 = .ok (.if_icmp .ge 9, 3) := by decide +kernel
theorem dX5_next_7 : decode cX5_next 7 = .ok (.iload_n 0, 1) := by decide +kernel
theorem dX5_next_8 : decode cX5_next 8 = .ok (.iconst 1, 1) := by decide +kernel
theorem dX5_next_9 : decode cX5_next 9 = .ok (.iadd, 1) := by decide +kernel
theorem dX5_next_10 : decode cX5_next 10 = .ok (.goto 4, 3) := by decide +kernel
theorem dX5_next_13 : decode cX5_next 13 = .ok (.iconst 0, 1) := by decide +kernel
theorem dX5_next_14 : decode cX5_next 14 = .ok (.ireturn, 1) := by decide +kernel
theorem dX5_length_0 : decode cX5_length 0 = .ok (.aload_n 0, 1) := by decide +kernel
theorem dX5_length_1 : decode cX5_length 1 = .ok (.getfield 30, 3) := by decide +kernel
theorem dX5_length_4 : decode cX5_length 4 = .ok (.ireturn, 1) := by decide +kernel
theorem dX5_press_0 : decode cX5_press 0 = .ok (.iload_n 1, 1) := by decide +kernel
theorem dX5_press_1 : decode cX5_press 1 = .ok (.ifCond .lt 21, 3) := by decide +kernel
theorem dX5_press_4 : decode cX5_press 4 = .ok (.iload_n 1, 1) := by decide +kernel
theorem dX5_press_5 : decode cX5_press 5 = .ok (.aload_n 0, 1) := by decide +kernel
theorem dX5_press_6 : decode cX5_press 6 = .ok (.getfield 11, 3) := by decide +kernel
theorem dX5_press_9 : decode cX5_press 9 = .ok (.arraylength, 1) := by decide +kernel
theorem dX5_press_10 : decode cX5_press 10 = .ok (.if_icmp .ge 12, 3) := by decide +kernel
theorem dX5_press_13 : decode cX5_press 13 = .ok (.aload_n 0, 1) := by decide +kernel
theorem dX5_press_14 : decode cX5_press 14 = .ok (.getfield 11, 3) := by decide +kernel
theorem dX5_press_17 : decode cX5_press 17 = .ok (.iload_n 1, 1) := by decide +kernel
theorem dX5_press_18 : decode cX5_press 18 = .ok (.iaload, 1) := by decide +kernel
theorem dX5_press_19 : decode cX5_press 19 = .ok (.goto 4, 3) := by decide +kernel
theorem dX5_press_22 : decode cX5_press 22 = .ok (.iconst 0, 1) := by decide +kernel
theorem dX5_press_23 : decode cX5_press 23 = .ok (.ireturn, 1) := by decide +kernel
set_option maxRecDepth 20000 in
theorem ggX5_leastPress_X5_press : GoodIn wsX5_leastPress wsX5_press := goodIn_r _ [10, 11, 12, 13, 14, 15] (by decide +kernel) (by decide +kernel)
set_option maxRecDepth 20000 in
theorem gX5_leastPress_X5_press : GoodIn wsX5_leastPress (wsV RX5 40 RX5 yX5_press wsX5_press) := goodIn_app (goodIn_of _ (by decide +kernel)) ggX5_leastPress_X5_press
theorem dX5_leastPress_0 : decode cX5_leastPress 0 = .ok (.aload_n 0, 1) := by decide +kernel
theorem dX5_leastPress_1 : decode cX5_leastPress 1 = .ok (.iconst 0, 1) := by decide +kernel
theorem dX5_leastPress_2 : decode cX5_leastPress 2 = .ok (.invokevirtual 40, 3) := by decide +kernel
theorem dX5_leastPress_5 : decode cX5_leastPress 5 = .ok (.istore_n 1, 1) := by decide +kernel
theorem dX5_leastPress_6 : decode cX5_leastPress 6 = .ok (.iconst 1, 1) := by decide +kernel
theorem dX5_leastPress_7 : decode cX5_leastPress 7 = .ok (.istore_n 2, 1) := by decide +kernel
theorem dX5_leastPress_8 : decode cX5_leastPress 8 = .ok (.iload_n 2, 1) := by decide +kernel
theorem dX5_leastPress_9 : decode cX5_leastPress 9 = .ok (.aload_n 0, 1) := by decide +kernel
theorem dX5_leastPress_10 : decode cX5_leastPress 10 = .ok (.getfield 30, 3) := by decide +kernel
theorem dX5_leastPress_13 : decode cX5_leastPress 13 = .ok (.if_icmp .ge 19, 3) := by decide +kernel
theorem dX5_leastPress_16 : decode cX5_leastPress 16 = .ok (.iload_n 1, 1) := by decide +kernel
theorem dX5_leastPress_17 : decode cX5_leastPress 17 = .ok (.aload_n 0, 1) := by decide +kernel
theorem dX5_leastPress_18 : decode cX5_leastPress 18 = .ok (.iload_n 2, 1) := by decide +kernel
theorem dX5_leastPress_19 : decode cX5_leastPress 19 = .ok (.invokevirtual 40, 3) := by decide +kernel
theorem dX5_leastPress_22 : decode cX5_leastPress 22 = .ok (.invokestatic 25, 3) := by decide +kernel
theorem dX5_leastPress_25 : decode cX5_leastPress 25 = .ok (.istore_n 1, 1) := by decide +kernel
theorem dX5_leastPress_26 : decode cX5_leastPress 26 = .ok (.iinc 2 1, 3) := by decide +kernel
theorem dX5_leastPress_29 : decode cX5_leastPress 29 = .ok (.goto (-21), 3) := by decide +kernel
theorem dX5_leastPress_32 : decode cX5_leastPress 32 = .ok (.iload_n 1, 1) := by decide +kernel
theorem dX5_leastPress_33 : decode cX5_leastPress 33 = .ok (.ireturn, 1) := by decide +kernel
set_option maxRecDepth 20000 in
theorem ggX5_greatestPress_X5_press : GoodIn wsX5_greatestPress wsX5_press := goodIn_r _ [10, 11, 12, 13, 14, 15] (by decide +kernel) (by decide +kernel)
set_option maxRecDepth 20000 in
theorem gX5_greatestPress_X5_press : GoodIn wsX5_greatestPress (wsV RX5 40 RX5 yX5_press wsX5_press) := goodIn_app (goodIn_of _ (by decide +kernel)) ggX5_greatestPress_X5_press
theorem dX5_greatestPress_0 : decode cX5_greatestPress 0 = .ok (.aload_n 0, 1) := by decide +kernel
theorem dX5_greatestPress_1 : decode cX5_greatestPress 1 = .ok (.iconst 0, 1) := by decide +kernel
theorem dX5_greatestPress_2 : decode cX5_greatestPress 2 = .ok (.invokevirtual 40, 3) := by decide +kernel
theorem dX5_greatestPress_5 : decode cX5_greatestPress 5 = .ok (.istore_n 1, 1) := by decide +kernel
theorem dX5_greatestPress_6 : decode cX5_greatestPress 6 = .ok (.iconst 1, 1) := by decide +kernel
theorem dX5_greatestPress_7 : decode cX5_greatestPress 7 = .ok (.istore_n 2, 1) := by decide +kernel
theorem dX5_greatestPress_8 : decode cX5_greatestPress 8 = .ok (.iload_n 2, 1) := by decide +kernel
theorem dX5_greatestPress_9 : decode cX5_greatestPress 9 = .ok (.aload_n 0, 1) := by decide +kernel
theorem dX5_greatestPress_10 : decode cX5_greatestPress 10 = .ok (.getfield 30, 3) := by decide +kernel
theorem dX5_greatestPress_13 : decode cX5_greatestPress 13 = .ok (.if_icmp .ge 19, 3) := by decide +kernel
theorem dX5_greatestPress_16 : decode cX5_greatestPress 16 = .ok (.iload_n 1, 1) := by decide +kernel
theorem dX5_greatestPress_17 : decode cX5_greatestPress 17 = .ok (.aload_n 0, 1) := by decide +kernel
theorem dX5_greatestPress_18 : decode cX5_greatestPress 18 = .ok (.iload_n 2, 1) := by decide +kernel
theorem dX5_greatestPress_19 : decode cX5_greatestPress 19 = .ok (.invokevirtual 40, 3) := by decide +kernel
theorem dX5_greatestPress_22 : decode cX5_greatestPress 22 = .ok (.invokestatic 43, 3) := by decide +kernel
theorem dX5_greatestPress_25 : decode cX5_greatestPress 25 = .ok (.istore_n 1, 1) := by decide +kernel
theorem dX5_greatestPress_26 : decode cX5_greatestPress 26 = .ok (.iinc 2 1, 3) := by decide +kernel
theorem dX5_greatestPress_29 : decode cX5_greatestPress 29 = .ok (.goto (-21), 3) := by decide +kernel
theorem dX5_greatestPress_32 : decode cX5_greatestPress 32 = .ok (.iload_n 1, 1) := by decide +kernel
theorem dX5_greatestPress_33 : decode cX5_greatestPress 33 = .ok (.ireturn, 1) := by decide +kernel
set_option maxRecDepth 20000 in
theorem ggX5_isSmoothAt_X5_press : GoodIn wsX5_isSmoothAt wsX5_press := goodIn_r _ [10, 11, 12, 13, 14, 15] (by decide +kernel) (by decide +kernel)
set_option maxRecDepth 20000 in
theorem gX5_isSmoothAt_X5_press : GoodIn wsX5_isSmoothAt (wsV RX5 40 RX5 yX5_press wsX5_press) := goodIn_app (goodIn_of _ (by decide +kernel)) ggX5_isSmoothAt_X5_press
theorem dX5_isSmoothAt_0 : decode cX5_isSmoothAt 0 = .ok (.iload_n 1, 1) := by decide +kernel
theorem dX5_isSmoothAt_1 : decode cX5_isSmoothAt 1 = .ok (.ifCond .le 9, 3) := by decide +kernel
theorem dX5_isSmoothAt_4 : decode cX5_isSmoothAt 4 = .ok (.iload_n 1, 1) := by decide +kernel
theorem dX5_isSmoothAt_5 : decode cX5_isSmoothAt 5 = .ok (.iconst 1, 1) := by decide +kernel
theorem dX5_isSmoothAt_6 : decode cX5_isSmoothAt 6 = .ok (.isub, 1) := by decide +kernel
theorem dX5_isSmoothAt_7 : decode cX5_isSmoothAt 7 = .ok (.goto 9, 3) := by decide +kernel
theorem dX5_isSmoothAt_10 : decode cX5_isSmoothAt 10 = .ok (.aload_n 0, 1) := by decide +kernel
theorem dX5_isSmoothAt_11 : decode cX5_isSmoothAt 11 = .ok (.getfield 30, 3) := by decide +kernel
theorem dX5_isSmoothAt_14 : decode cX5_isSmoothAt 14 = .ok (.iconst 1, 1) := by decide +kernel
theorem dX5_isSmoothAt_15 : decode cX5_isSmoothAt 15 = .ok (.isub, 1) := by decide +kernel
theorem dX5_isSmoothAt_16 : decode cX5_isSmoothAt 16 = .ok (.istore_n 3, 1) := by decide +kernel
theorem dX5_isSmoothAt_17 : decode cX5_isSmoothAt 17 = .ok (.aload_n 0, 1) := by decide +kernel
theorem dX5_isSmoothAt_18 : decode cX5_isSmoothAt 18 = .ok (.iload_n 1, 1) := by decide +kernel
theorem dX5_isSmoothAt_19 : decode cX5_isSmoothAt 19 = .ok (.invokevirtual 40, 3) := by decide +kernel
theorem dX5_isSmoothAt_22 : decode cX5_isSmoothAt 22 = .ok (.aload_n 0, 1) := by decide +kernel
theorem dX5_isSmoothAt_23 : decode cX5_isSmoothAt 23 = .ok (.iload_n 3, 1) := by decide +kernel
theorem dX5_isSmoothAt_24 : decode cX5_isSmoothAt 24 = .ok (.invokevirtual 40, 3) := by decide +kernel
theorem dX5_isSmoothAt_27 : decode cX5_isSmoothAt 27 = .ok (.isub, 1) := by decide +kernel
theorem dX5_isSmoothAt_28 : decode cX5_isSmoothAt 28 = .ok (.invokestatic 46, 3) := by decide +kernel
theorem dX5_isSmoothAt_31 : decode cX5_isSmoothAt 31 = .ok (.iload_n 2, 1) := by decide +kernel
theorem dX5_isSmoothAt_32 : decode cX5_isSmoothAt 32 = .ok (.if_icmp .gt 7, 3) := by decide +kernel
theorem dX5_isSmoothAt_35 : decode cX5_isSmoothAt 35 = .ok (.iconst 1, 1) := by decide +kernel
theorem dX5_isSmoothAt_36 : decode cX5_isSmoothAt 36 = .ok (.goto 4, 3) := by decide +kernel
theorem dX5_isSmoothAt_39 : decode cX5_isSmoothAt 39 = .ok (.iconst 0, 1) := by decide +kernel
theorem dX5_isSmoothAt_40 : decode cX5_isSmoothAt 40 = .ok (.ireturn, 1) := by decide +kernel
set_option maxRecDepth 20000 in
theorem ggX5_isSmooth_X5_isSmoothAt : GoodIn wsX5_isSmooth wsX5_isSmoothAt := goodIn_r _ [6, 1, 7, 8, 9, 10, 11, 12, 13, 5, 14, 15, 16, 17, 18, 19] (by decide +kernel) (by decide +kernel)
set_option maxRecDepth 20000 in
theorem gX5_isSmooth_X5_isSmoothAt : GoodIn wsX5_isSmooth (wsV RX5 49 RX5 yX5_isSmoothAt wsX5_isSmoothAt) := goodIn_app (goodIn_of _ (by decide +kernel)) ggX5_isSmooth_X5_isSmoothAt
theorem dX5_isSmooth_0 : decode cX5_isSmooth 0 = .ok (.iconst 0, 1) := by decide +kernel
theorem dX5_isSmooth_1 : decode cX5_isSmooth 1 = .ok (.istore_n 2, 1) := by decide +kernel
theorem dX5_isSmooth_2 : decode cX5_isSmooth 2 = .ok (.iload_n 2, 1) := by decide +kernel
theorem dX5_isSmooth_3 : decode cX5_isSmooth 3 = .ok (.aload_n 0, 1) := by decide +kernel
theorem dX5_isSmooth_4 : decode cX5_isSmooth 4 = .ok (.getfield 30, 3) := by decide +kernel
theorem dX5_isSmooth_7 : decode cX5_isSmooth 7 = .ok (.if_icmp .ge 20, 3) := by decide +kernel
theorem dX5_isSmooth_10 : decode cX5_isSmooth 10 = .ok (.aload_n 0, 1) := by decide +kernel
theorem dX5_isSmooth_11 : decode cX5_isSmooth 11 = .ok (.iload_n 2, 1) := by decide +kernel
theorem dX5_isSmooth_12 : decode cX5_isSmooth 12 = .ok (.iload_n 1, 1) := by decide +kernel
theorem dX5_isSmooth_13 : decode cX5_isSmooth 13 = .ok (.invokevirtual 49, 3) := by decide +kernel
theorem dX5_isSmooth_16 : decode cX5_isSmooth 16 = .ok (.ifCond .ne 5, 3) := by decide +kernel
theorem dX5_isSmooth_19 : decode cX5_isSmooth 19 = .ok (.iconst 0, 1) := by decide +kernel
theorem dX5_isSmooth_20 : decode cX5_isSmooth 20 = .ok (.ireturn, 1) := by decide +kernel
theorem dX5_isSmooth_21 : decode cX5_isSmooth 21 = .ok (.iinc 2 1, 3) := by decide +kernel
theorem dX5_isSmooth_24 : decode cX5_isSmooth 24 = .ok (.goto (-22), 3) := by decide +kernel
theorem dX5_isSmooth_27 : decode cX5_isSmooth 27 = .ok (.iconst 1, 1) := by decide +kernel
theorem dX5_isSmooth_28 : decode cX5_isSmooth 28 = .ok (.ireturn, 1) := by decide +kernel
set_option maxRecDepth 20000 in
theorem ggX5_firstBadStep_X5_press : GoodIn wsX5_firstBadStep wsX5_press := goodIn_r _ [6, 7, 16, 17, 18, 19] (by decide +kernel) (by decide +kernel)
set_option maxRecDepth 20000 in
theorem gX5_firstBadStep_X5_press : GoodIn wsX5_firstBadStep (wsV RX5 40 RX5 yX5_press wsX5_press) := goodIn_app (goodIn_of _ (by decide +kernel)) ggX5_firstBadStep_X5_press
set_option maxRecDepth 20000 in
theorem ggX5_firstBadStep_X5_isSmoothAt : GoodIn wsX5_firstBadStep wsX5_isSmoothAt := goodIn_r _ [11, 1, 12, 13, 14, 15, 2, 3, 4, 5, 6, 7, 16, 17, 18, 19] (by decide +kernel) (by decide +kernel)
set_option maxRecDepth 20000 in
theorem gX5_firstBadStep_X5_isSmoothAt : GoodIn wsX5_firstBadStep (wsV RX5 49 RX5 yX5_isSmoothAt wsX5_isSmoothAt) := goodIn_app (goodIn_of _ (by decide +kernel)) ggX5_firstBadStep_X5_isSmoothAt
theorem dX5_firstBadStep_0 : decode cX5_firstBadStep 0 = .ok (.iconst 0, 1) := by decide +kernel
theorem dX5_firstBadStep_1 : decode cX5_firstBadStep 1 = .ok (.istore_n 2, 1) := by decide +kernel
theorem dX5_firstBadStep_2 : decode cX5_firstBadStep 2 = .ok (.iload_n 2, 1) := by decide +kernel
theorem dX5_firstBadStep_3 : decode cX5_firstBadStep 3 = .ok (.aload_n 0, 1) := by decide +kernel
theorem dX5_firstBadStep_4 : decode cX5_firstBadStep 4 = .ok (.getfield 30, 3) := by decide +kernel
theorem dX5_firstBadStep_7 : decode cX5_firstBadStep 7 = .ok (.if_icmp .ge 29, 3) := by decide +kernel
theorem dX5_firstBadStep_10 : decode cX5_firstBadStep 10 = .ok (.aload_n 0, 1) := by decide +kernel
theorem dX5_firstBadStep_11 : decode cX5_firstBadStep 11 = .ok (.iload_n 2, 1) := by decide +kernel
theorem dX5_firstBadStep_12 : decode cX5_firstBadStep 12 = .ok (.invokevirtual 40, 3) := by decide +kernel
theorem dX5_firstBadStep_15 : decode cX5_firstBadStep 15 = .ok (.iconst 1, 1) := by decide +kernel
theorem dX5_firstBadStep_16 : decode cX5_firstBadStep 16 = .ok (.if_icmp .lt 12, 3) := by decide +kernel
theorem dX5_firstBadStep_19 : decode cX5_firstBadStep 19 = .ok (.aload_n 0, 1) := by decide +kernel
theorem dX5_firstBadStep_20 : decode cX5_firstBadStep 20 = .ok (.iload_n 2, 1) := by decide +kernel
theorem dX5_firstBadStep_21 : decode cX5_firstBadStep 21 = .ok (.iload_n 1, 1) := by decide +kernel
theorem dX5_firstBadStep_22 : decode cX5_firstBadStep 22 = .ok (.invokevirtual 49, 3) := by decide +kernel
theorem dX5_firstBadStep_25 : decode cX5_firstBadStep 25 = .ok (.ifCond .ne 5, 3) := by decide +kernel
theorem dX5_firstBadStep_28 : decode cX5_firstBadStep 28 = .ok (.iload_n 2, 1) := by decide +kernel
theorem dX5_firstBadStep_29 : decode cX5_firstBadStep 29 = .ok (.ireturn, 1) := by decide +kernel
theorem dX5_firstBadStep_30 : decode cX5_firstBadStep 30 = .ok (.iinc 2 1, 3) := by decide +kernel
theorem dX5_firstBadStep_33 : decode cX5_firstBadStep 33 = .ok (.goto (-31), 3) := by decide +kernel
theorem dX5_firstBadStep_36 : decode cX5_firstBadStep 36 = .ok (.bipush (-6), 2) := by decide +kernel
theorem dX5_firstBadStep_38 : decode cX5_firstBadStep 38 = .ok (.ireturn, 1) := by decide +kernel
set_option maxRecDepth 20000 in
theorem ggX5_meshes_X5_firstBadStep : GoodIn wsX5_meshes wsX5_firstBadStep := goodIn_r _ [5, 6, 7, 8, 9, 4, 10, 11, 12, 13, 14, 15, 16, 17, 18, 19, 20, 21, 22, 23] (by decide +kernel) (by decide +kernel)
set_option maxRecDepth 20000 in
theorem gX5_meshes_X5_firstBadStep : GoodIn wsX5_meshes (wsV RX5 53 RX5 yX5_firstBadStep wsX5_firstBadStep) := goodIn_app (goodIn_of _ (by decide +kernel)) ggX5_meshes_X5_firstBadStep
theorem dX5_meshes_0 : decode cX5_meshes 0 = .ok (.aload_n 0, 1) := by decide +kernel
theorem dX5_meshes_1 : decode cX5_meshes 1 = .ok (.iload_n 1, 1) := by decide +kernel
theorem dX5_meshes_2 : decode cX5_meshes 2 = .ok (.invokevirtual 53, 3) := by decide +kernel
theorem dX5_meshes_5 : decode cX5_meshes 5 = .ok (.bipush (-6), 2) := by decide +kernel
theorem dX5_meshes_7 : decode cX5_meshes 7 = .ok (.if_icmp .ne 7, 3) := by decide +kernel
theorem dX5_meshes_10 : decode cX5_meshes 10 = .ok (.iconst 1, 1) := by decide +kernel
theorem dX5_meshes_11 : decode cX5_meshes 11 = .ok (.goto 4, 3) := by decide +kernel
theorem dX5_meshes_14 : decode cX5_meshes 14 = .ok (.iconst 0, 1) := by decide +kernel
theorem dX5_meshes_15 : decode cX5_meshes 15 = .ok (.ireturn, 1) := by decide +kernel
theorem dX5_begin_0 : decode cX5_begin 0 = .ok (.aload_n 0, 1) := by decide +kernel
theorem dX5_begin_1 : decode cX5_begin 1 = .ok (.iconst 0, 1) := by decide +kernel
theorem dX5_begin_2 : decode cX5_begin 2 = .ok (.putfield 56, 3) := by decide +kernel
theorem dX5_begin_5 : decode cX5_begin 5 = .ok (.aload_n 0, 1) := by decide +kernel
theorem dX5_begin_6 : decode cX5_begin 6 = .ok (.iconst 0, 1) := by decide +kernel
theorem dX5_begin_7 : decode cX5_begin 7 = .ok (.putfield 59, 3) := by decide +kernel
theorem dX5_begin_10 : decode cX5_begin 10 = .ok (.return_, 1) := by decide +kernel
theorem dX5_taken_0 : decode cX5_taken 0 = .ok (.aload_n 0, 1) := by decide +kernel
theorem dX5_taken_1 : decode cX5_taken 1 = .ok (.getfield 59, 3) := by decide +kernel
theorem dX5_taken_4 : decode cX5_taken 4 = .ok (.ireturn, 1) := by decide +kernel
set_option maxRecDepth 20000 in
theorem ggX5_tears_X5_press : GoodIn wsX5_tears wsX5_press := goodIn_r _ [15, 16, 20, 21, 22, 23] (by decide +kernel) (by decide +kernel)
set_option maxRecDepth 20000 in
theorem gX5_tears_X5_press : GoodIn wsX5_tears (wsV RX5 40 RX5 yX5_press wsX5_press) := goodIn_app (goodIn_of _ (by decide +kernel)) ggX5_tears_X5_press
set_option maxRecDepth 20000 in
theorem ggX5_tears_X5_next : GoodIn wsX5_tears wsX5_next := goodIn_r _ [19] (by decide +kernel) (by decide +kernel)
set_option maxRecDepth 20000 in
theorem gX5_tears_X5_next : GoodIn wsX5_tears (va_wsS RX5 37 yX5_next wsX5_next) := goodIn_app (goodIn_of _ (by decide +kernel)) ggX5_tears_X5_next
theorem dX5_tears_0 : decode cX5_tears 0 = .ok (.iconst 0, 1) := by decide +kernel
theorem dX5_tears_1 : decode cX5_tears 1 = .ok (.istore 5, 2) := by decide +kernel
theorem dX5_tears_3 : decode cX5_tears 3 = .ok (.iconst 0, 1) := by decide +kernel
theorem dX5_tears_4 : decode cX5_tears 4 = .ok (.istore 6, 2) := by decide +kernel
theorem dX5_tears_6 : decode cX5_tears 6 = .ok (.iload 6, 2) := by decide +kernel
theorem dX5_tears_8 : decode cX5_tears 8 = .ok (.iload_n 1, 1) := by decide +kernel
theorem dX5_tears_9 : decode cX5_tears 9 = .ok (.if_icmp .ge 92, 3) := by decide +kernel
theorem dX5_tears_12 : decode cX5_tears 12 = .ok (.iconst 0, 1) := by decide +kernel
theorem dX5_tears_13 : decode cX5_tears 13 = .ok (.iload_n 2, 1) := by decide +kernel
theorem dX5_tears_14 : decode cX5_tears 14 = .ok (.aload_n 0, 1) := by decide +kernel
theorem dX5_tears_15 : decode cX5_tears 15 = .ok (.aload_n 0, 1) := by decide +kernel
theorem dX5_tears_16 : decode cX5_tears 16 = .ok (.getfield 56, 3) := by decide +kernel
theorem dX5_tears_19 : decode cX5_tears 19 = .ok (.invokevirtual 40, 3) := by decide +kernel
theorem dX5_tears_22 : decode cX5_tears 22 = .ok (.isub, 1) := by decide +kernel
theorem dX5_tears_23 : decode cX5_tears 23 = .ok (.invokestatic 43, 3) := by decide +kernel
theorem dX5_tears_26 : decode cX5_tears 26 = .ok (.istore 7, 2) := by decide +kernel
theorem dX5_tears_28 : decode cX5_tears 28 = .ok (.aload_n 0, 1) := by decide +kernel
theorem dX5_tears_29 : decode cX5_tears 29 = .ok (.aload_n 0, 1) := by decide +kernel
theorem dX5_tears_30 : decode cX5_tears 30 = .ok (.getfield 56, 3) := by decide +kernel
theorem dX5_tears_33 : decode cX5_tears 33 = .ok (.aload_n 0, 1) := by decide +kernel
theorem dX5_tears_34 : decode cX5_tears 34 = .ok (.getfield 30, 3) := by decide +kernel
theorem dX5_tears_37 : decode cX5_tears 37 = .ok (.invokestatic 37, 3) := by decide +kernel
theorem dX5_tears_40 : decode cX5_tears 40 = .ok (.putfield 56, 3) := by decide +kernel
theorem dX5_tears_43 : decode cX5_tears 43 = .ok (.aload_n 0, 1) := by decide +kernel
theorem dX5_tears_44 : decode cX5_tears 44 = .ok (.dup, 1) := by decide +kernel
theorem dX5_tears_45 : decode cX5_tears 45 = .ok (.getfield 59, 3) := by decide +kernel
theorem dX5_tears_48 : decode cX5_tears 48 = .ok (.iconst 1, 1) := by decide +kernel
theorem dX5_tears_49 : decode cX5_tears 49 = .ok (.iadd, 1) := by decide +kernel
theorem dX5_tears_50 : decode cX5_tears 50 = .ok (.putfield 59, 3) := by decide +kernel
theorem dX5_tears_53 : decode cX5_tears 53 = .ok (.iload 6, 2) := by decide +kernel
theorem dX5_tears_55 : decode cX5_tears 55 = .ok (.ifCond .le 20, 3) := by decide +kernel
theorem dX5_tears_58 : decode cX5_tears 58 = .ok (.iload 7, 2) := by decide +kernel
theorem dX5_tears_60 : decode cX5_tears 60 = .ok (.iload 5, 2) := by decide +kernel
theorem dX5_tears_62 : decode cX5_tears 62 = .ok (.isub, 1) := by decide +kernel
theorem dX5_tears_63 : decode cX5_tears 63 = .ok (.invokestatic 46, 3) := by decide +kernel
theorem dX5_tears_66 : decode cX5_tears 66 = .ok (.iload 4, 2) := by decide +kernel
theorem dX5_tears_68 : decode cX5_tears 68 = .ok (.if_icmp .le 7, 3) := by decide +kernel
theorem dX5_tears_71 : decode cX5_tears 71 = .ok (.iconst 1, 1) := by decide +kernel
theorem dX5_tears_72 : decode cX5_tears 72 = .ok (.goto 4, 3) := by decide +kernel
theorem dX5_tears_75 : decode cX5_tears 75 = .ok (.iconst 0, 1) := by decide +kernel
theorem dX5_tears_76 : decode cX5_tears 76 = .ok (.istore 8, 2) := by decide +kernel
theorem dX5_tears_78 : decode cX5_tears 78 = .ok (.iload 7, 2) := by decide +kernel
theorem dX5_tears_80 : decode cX5_tears 80 = .ok (.iload_n 3, 1) := by decide +kernel
theorem dX5_tears_81 : decode cX5_tears 81 = .ok (.if_icmp .gt 8, 3) := by decide +kernel
theorem dX5_tears_84 : decode cX5_tears 84 = .ok (.iload 8, 2) := by decide +kernel
theorem dX5_tears_86 : decode cX5_tears 86 = .ok (.ifCond .eq 5, 3) := by decide +kernel
theorem dX5_tears_89 : decode cX5_tears 89 = .ok (.iconst 1, 1) := by decide +kernel
theorem dX5_tears_90 : decode cX5_tears 90 = .ok (.ireturn, 1) := by decide +kernel
theorem dX5_tears_91 : decode cX5_tears 91 = .ok (.iload 7, 2) := by decide +kernel
theorem dX5_tears_93 : decode cX5_tears 93 = .ok (.istore 5, 2) := by decide +kernel
theorem dX5_tears_95 : decode cX5_tears 95 = .ok (.iinc 6 1, 3) := by decide +kernel
theorem dX5_tears_98 : decode cX5_tears 98 = .ok (.goto (-92), 3) := by decide +kernel
theorem dX5_tears_101 : decode cX5_tears 101 = .ok (.iconst 0, 1) := by decide +kernel
theorem dX5_tears_102 : decode cX5_tears 102 = .ok (.ireturn, 1) := by decide +kernel
