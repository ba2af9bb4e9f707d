set_option maxRecDepth 20000 in
theorem ggX6_init_X3_init : GoodIn wsX6_init wsX3_init := goodIn_r _ [30, 31, 2, 3, 32, 33, 56] (by decide +kernel) (by decide +kernel)
set_option maxRecDepth 20000 in
theorem gX6_init_X3_init : GoodIn wsX6_init (wsX3_init) := ggX6_init_X3_init
set_option maxRecDepth 20000 in
theorem ggX6_init_X0_init : GoodIn wsX6_init wsX0_init := goodIn_r _ [35, 36, 2, 3, 32, 37, 63, 64, 65] (by decide +kernel) (by decide +kernel)
set_option maxRecDepth 20000 in
theorem gX6_init_X0_init_n18 : GoodIn wsX6_init (wsX0_init) := ggX6_init_X0_init
set_option maxRecDepth 20000 in
theorem ggX6_init_X4_init : GoodIn wsX6_init wsX4_init := goodIn_r _ [39, 40, 2, 3, 32, 41, 66, 67] (by decide +kernel) (by decide +kernel)
set_option maxRecDepth 20000 in
theorem gX6_init_X4_init_n25 : GoodIn wsX6_init (wsX4_init) := ggX6_init_X4_init
set_option maxRecDepth 20000 in
theorem ggX6_init_X1_init : GoodIn wsX6_init wsX1_init := goodIn_r _ [43, 44, 2, 3, 32, 45, 68, 69] (by decide +kernel) (by decide +kernel)
set_option maxRecDepth 20000 in
theorem gX6_init_X1_init_n32 : GoodIn wsX6_init (wsX1_init) := ggX6_init_X1_init
set_option maxRecDepth 20000 in
theorem ggX6_init_X2_init : GoodIn wsX6_init wsX2_init := goodIn_r _ [48, 49, 2, 3, 32, 50, 51, 70, 71, 72, 73, 74] (by decide +kernel) (by decide +kernel)
set_option maxRecDepth 20000 in
theorem gX6_init_X2_init : GoodIn wsX6_init (wsX2_init) := ggX6_init_X2_init
set_option maxRecDepth 20000 in
theorem ggX6_init_X5_init : GoodIn wsX6_init wsX5_init := goodIn_r _ [53, 54, 2, 3, 32, 55, 75, 76, 77, 78] (by decide +kernel) (by decide +kernel)
set_option maxRecDepth 20000 in
theorem gX6_init_X5_init_n48 : GoodIn wsX6_init (wsX5_init) := ggX6_init_X5_init
theorem dX6_init_0 : decode cX6_init 0 = .ok (.aload_n 0, 1) := by decide +kernel
theorem dX6_init_1 : decode cX6_init 1 = .ok (.invokespecial 1, 3) := by decide +kernel
theorem dX6_init_4 : decode cX6_init 4 = .ok (.aload_n 0, 1) := by decide +kernel
theorem dX6_init_5 : decode cX6_init 5 = .ok (.new 7, 3) := by decide +kernel
theorem dX6_init_8 : decode cX6_init 8 = .ok (.dup, 1) := by decide +kernel
theorem dX6_init_9 : decode cX6_init 9 = .ok (.invokespecial 9, 3) := by decide +kernel
theorem dX6_init_12 : decode cX6_init 12 = .ok (.putfield 10, 3) := by decide +kernel
theorem dX6_init_15 : decode cX6_init 15 = .ok (.aload_n 0, 1) := by decide +kernel
theorem dX6_init_16 : decode cX6_init 16 = .ok (.new 16, 3) := by decide +kernel
theorem dX6_init_19 : decode cX6_init 19 = .ok (.dup, 1) := by decide +kernel
theorem dX6_init_20 : decode cX6_init 20 = .ok (.invokespecial 18, 3) := by decide +kernel
theorem dX6_init_23 : decode cX6_init 23 = .ok (.putfield 19, 3) := by decide +kernel
theorem dX6_init_26 : decode cX6_init 26 = .ok (.aload_n 0, 1) := by decide +kernel
theorem dX6_init_27 : decode cX6_init 27 = .ok (.new 23, 3) := by decide +kernel
theorem dX6_init_30 : decode cX6_init 30 = .ok (.dup, 1) := by decide +kernel
theorem dX6_init_31 : decode cX6_init 31 = .ok (.invokespecial 25, 3) := by decide +kernel
theorem dX6_init_34 : decode cX6_init 34 = .ok (.putfield 26, 3) := by decide +kernel
theorem dX6_init_37 : decode cX6_init 37 = .ok (.aload_n 0, 1) := by decide +kernel
theorem dX6_init_38 : decode cX6_init 38 = .ok (.new 30, 3) := by decide +kernel
theorem dX6_init_41 : decode cX6_init 41 = .ok (.dup, 1) := by decide +kernel
theorem dX6_init_42 : decode cX6_init 42 = .ok (.invokespecial 32, 3) := by decide +kernel
theorem dX6_init_45 : decode cX6_init 45 = .ok (.putfield 33, 3) := by decide +kernel
theorem dX6_init_48 : decode cX6_init 48 = .ok (.aload_n 0, 1) := by decide +kernel
theorem dX6_init_49 : decode cX6_init 49 = .ok (.new 37, 3) := by decide +kernel
theorem dX6_init_52 : decode cX6_init 52 = .ok (.dup, 1) := by decide +kernel
theorem dX6_init_53 : decode cX6_init 53 = .ok (.aload_n 0, 1) := by decide +kernel
theorem dX6_init_54 : decode cX6_init 54 = .ok (.getfield 33, 3) := by decide +kernel
theorem dX6_init_57 : decode cX6_init 57 = .ok (.invokespecial 39, 3) := by decide +kernel
theorem dX6_init_60 : decode cX6_init 60 = .ok (.putfield 42, 3) := by decide +kernel
theorem dX6_init_63 : decode cX6_init 63 = .ok (.aload_n 0, 1) := by decide +kernel
theorem dX6_init_64 : decode cX6_init 64 = .ok (.new 46, 3) := by decide +kernel
theorem dX6_init_67 : decode cX6_init 67 = .ok (.dup, 1) := by decide +kernel
theorem dX6_init_68 : decode cX6_init 68 = .ok (.invokespecial 48, 3) := by decide +kernel
theorem dX6_init_71 : decode cX6_init 71 = .ok (.putfield 49, 3) := by decide +kernel
theorem dX6_init_74 : decode cX6_init 74 = .ok (.return_, 1) := by decide +kernel
set_option maxRecDepth 20000 in
theorem ggX6_set_X0_prepare : GoodIn wsX6_set wsX0_prepare := goodIn_r _ [7, 8, 9, 10, 11, 12, 13, 14, 15, 16, 17, 18, 19, 54, 55, 56, 57] (by decide +kernel) (by decide +kernel)
set_option maxRecDepth 20000 in
theorem gX6_set_X0_prepare : GoodIn wsX6_set (wsV RX6 53 RX0 yX0_prepare wsX0_prepare) := goodIn_app (goodIn_of _ (by decide +kernel)) ggX6_set_X0_prepare
set_option maxRecDepth 20000 in
theorem ggX6_set_X3_changeSetting : GoodIn wsX6_set wsX3_changeSetting := goodIn_r _ [23, 24, 25, 26, 27, 28, 29, 13, 30, 31, 32, 33, 34, 15, 35, 36, 37, 38, 57] (by decide +kernel) (by decide +kernel)
set_option maxRecDepth 20000 in
theorem gX6_set_X3_changeSetting : GoodIn wsX6_set (wsV RX6 57 RX3 yX3_changeSetting wsX3_changeSetting) := goodIn_app (goodIn_of _ (by decide +kernel)) ggX6_set_X3_changeSetting
set_option maxRecDepth 20000 in
theorem ggX6_set_X0_recorded : GoodIn wsX6_set wsX0_recorded := goodIn_r _ [42, 9, 43, 44, 45, 46, 47, 54, 55, 56] (by decide +kernel) (by decide +kernel)
set_option maxRecDepth 20000 in
theorem gX6_set_X0_recorded : GoodIn wsX6_set (wsV RX6 61 RX0 yX0_recorded wsX0_recorded) := goodIn_app (goodIn_of _ (by decide +kernel)) ggX6_set_X0_recorded
theorem dX6_set_0 : decode cX6_set 0 = .ok (.aload_n 0, 1) := by decide +kernel
theorem dX6_set_1 : decode cX6_set 1 = .ok (.getfield 19, 3) := by decide +kernel
theorem dX6_set_4 : decode cX6_set 4 = .ok (.aload_n 0, 1) := by decide +kernel
theorem dX6_set_5 : decode cX6_set 5 = .ok (.getfield 10, 3) := by decide +kernel
theorem dX6_set_8 : decode cX6_set 8 = .ok (.invokevirtual 53, 3) := by decide +kernel
theorem dX6_set_11 : decode cX6_set 11 = .ok (.aload_n 0, 1) := by decide +kernel
theorem dX6_set_12 : decode cX6_set 12 = .ok (.getfield 19, 3) := by decide +kernel
theorem dX6_set_15 : decode cX6_set 15 = .ok (.aload_n 0, 1) := by decide +kernel
theorem dX6_set_16 : decode cX6_set 16 = .ok (.getfield 10, 3) := by decide +kernel
theorem dX6_set_19 : decode cX6_set 19 = .ok (.iload_n 1, 1) := by decide +kernel
theorem dX6_set_20 : decode cX6_set 20 = .ok (.iload_n 2, 1) := by decide +kernel
theorem dX6_set_21 : decode cX6_set 21 = .ok (.invokevirtual 57, 3) := by decide +kernel
theorem dX6_set_24 : decode cX6_set 24 = .ok (.invokevirtual 61, 3) := by decide +kernel
theorem dX6_set_27 : decode cX6_set 27 = .ok (.ireturn, 1) := by decide +kernel
set_option maxRecDepth 20000 in
theorem ggX6_roller_X0_prepare : GoodIn wsX6_roller wsX0_prepare := goodIn_r _ [7, 8, 9, 10, 11, 12, 13, 14, 15, 16, 17, 18, 19, 61, 62, 63, 64] (by decide +kernel) (by decide +kernel)
set_option maxRecDepth 20000 in
theorem gX6_roller_X0_prepare : GoodIn wsX6_roller (wsV RX6 53 RX0 yX0_prepare wsX0_prepare) := goodIn_app (goodIn_of _ (by decide +kernel)) ggX6_roller_X0_prepare
set_option maxRecDepth 20000 in
theorem ggX6_roller_X3_addRoller : GoodIn wsX6_roller wsX3_addRoller := goodIn_r _ [23, 24, 25, 26, 27, 28, 29, 13, 30, 15, 31, 32, 33, 34, 35, 36, 37, 38, 39, 40, 41, 42, 43, 44, 45, 64] (by decide +kernel) (by decide +kernel)
set_option maxRecDepth 20000 in
theorem gX6_roller_X3_addRoller : GoodIn wsX6_roller (wsV RX6 65 RX3 yX3_addRoller wsX3_addRoller) := goodIn_app (goodIn_of _ (by decide +kernel)) ggX6_roller_X3_addRoller
set_option maxRecDepth 20000 in
theorem ggX6_roller_X0_recorded : GoodIn wsX6_roller wsX0_recorded := goodIn_r _ [49, 9, 50, 51, 52, 53, 54, 61, 62, 63] (by decide +kernel) (by decide +kernel)
set_option maxRecDepth 20000 in
theorem gX6_roller_X0_recorded : GoodIn wsX6_roller (wsV RX6 61 RX0 yX0_recorded wsX0_recorded) := goodIn_app (goodIn_of _ (by decide +kernel)) ggX6_roller_X0_recorded
theorem dX6_roller_0 : decode cX6_roller 0 = .ok (.aload_n 0, 1) := by decide +kernel
theorem dX6_roller_1 : decode cX6_roller 1 = .ok (.getfield 19, 3) := by decide +kernel
theorem dX6_roller_4 : decode cX6_roller 4 = .ok (.aload_n 0, 1) := by decide +kernel
theorem dX6_roller_5 : decode cX6_roller 5 = .ok (.getfield 10, 3) := by decide +kernel
theorem dX6_roller_8 : decode cX6_roller 8 = .ok (.invokevirtual 53, 3) := by decide +kernel
theorem dX6_roller_11 : decode cX6_roller 11 = .ok (.aload_n 0, 1) := by decide +kernel
theorem dX6_roller_12 : decode cX6_roller 12 = .ok (.getfield 19, 3) := by decide +kernel
theorem dX6_roller_15 : decode cX6_roller 15 = .ok (.aload_n 0, 1) := by decide +kernel
theorem dX6_roller_16 : decode cX6_roller 16 = .ok (.getfield 10, 3) := by decide +kernel
theorem dX6_roller_19 : decode cX6_roller 19 = .ok (.iload_n 1, 1) := by decide +kernel
theorem dX6_roller_20 : decode cX6_roller 20 = .ok (.iload_n 2, 1) := by decide +kernel
theorem dX6_roller_21 : decode cX6_roller 21 = .ok (.invokevirtual 65, 3) := by decide +kernel
theorem dX6_roller_24 : decode cX6_roller 24 = .ok (.invokevirtual 61, 3) := by decide +kernel
theorem dX6_roller_27 : decode cX6_roller 27 = .ok (.ireturn, 1) := by decide +kernel
set_option maxRecDepth 20000 in
theorem ggX6_file_X0_prepare : GoodIn wsX6_file wsX0_prepare := goodIn_r _ [7, 8, 9, 10, 11, 12, 13, 14, 15, 16, 17, 18, 19, 73, 74, 75, 76] (by decide +kernel) (by decide +kernel)
set_option maxRecDepth 20000 in
theorem gX6_file_X0_prepare : GoodIn wsX6_file (wsV RX6 53 RX0 yX0_prepare wsX0_prepare) := goodIn_app (goodIn_of _ (by decide +kernel)) ggX6_file_X0_prepare
set_option maxRecDepth 20000 in
theorem ggX6_file_X3_fileTooth : GoodIn wsX6_file wsX3_fileTooth := goodIn_r _ [23, 24, 25, 26, 13, 27, 28, 29, 30, 31, 32, 33, 34, 35, 15, 36, 37, 38, 39, 40, 41, 42, 43, 44, 45, 46, 47, 48, 49, 50, 51, 52, 53, 54, 55, 56, 57, 76] (by decide +kernel) (by decide +kernel)
set_option maxRecDepth 20000 in
theorem gX6_file_X3_fileTooth : GoodIn wsX6_file (wsV RX6 68 RX3 yX3_fileTooth wsX3_fileTooth) := goodIn_app (goodIn_of _ (by decide +kernel)) ggX6_file_X3_fileTooth
set_option maxRecDepth 20000 in
theorem ggX6_file_X0_recorded : GoodIn wsX6_file wsX0_recorded := goodIn_r _ [61, 9, 62, 63, 64, 65, 66, 73, 74, 75] (by decide +kernel) (by decide +kernel)
set_option maxRecDepth 20000 in
theorem gX6_file_X0_recorded : GoodIn wsX6_file (wsV RX6 61 RX0 yX0_recorded wsX0_recorded) := goodIn_app (goodIn_of _ (by decide +kernel)) ggX6_file_X0_recorded
theorem dX6_file_0 : decode cX6_file 0 = .ok (.aload_n 0, 1) := by decide +kernel
theorem dX6_file_1 : decode cX6_file 1 = .ok (.getfield 19, 3) := by decide +kernel
theorem dX6_file_4 : decode cX6_file 4 = .ok (.aload_n 0, 1) := by decide +kernel
theorem dX6_file_5 : decode cX6_file 5 = .ok (.getfield 10, 3) := by decide +kernel
theorem dX6_file_8 : decode cX6_file 8 = .ok (.invokevirtual 53, 3) := by decide +kernel
theorem dX6_file_11 : decode cX6_file 11 = .ok (.aload_n 0, 1) := by decide +kernel
theorem dX6_file_12 : decode cX6_file 12 = .ok (.getfield 19, 3) := by decide +kernel
theorem dX6_file_15 : decode cX6_file 15 = .ok (.aload_n 0, 1) := by decide +kernel
theorem dX6_file_16 : decode cX6_file 16 = .ok (.getfield 10, 3) := by decide +kernel
theorem dX6_file_19 : decode cX6_file 19 = .ok (.iload_n 1, 1) := by decide +kernel
theorem dX6_file_20 : decode cX6_file 20 = .ok (.iload_n 2, 1) := by decide +kernel
theorem dX6_file_21 : decode cX6_file 21 = .ok (.iload_n 3, 1) := by decide +kernel
theorem dX6_file_22 : decode cX6_file 22 = .ok (.invokevirtual 68, 3) := by decide +kernel
theorem dX6_file_25 : decode cX6_file 25 = .ok (.invokevirtual 61, 3) := by decide +kernel
theorem dX6_file_28 : decode cX6_file 28 = .ok (.ireturn, 1) := by decide +kernel
set_option maxRecDepth 20000 in
theorem ggX6_melt_X0_prepare : GoodIn wsX6_melt wsX0_prepare := goodIn_r _ [7, 8, 9, 10, 11, 12, 13, 14, 15, 16, 17, 18, 19, 54, 55, 56, 57] (by decide +kernel) (by decide +kernel)
set_option maxRecDepth 20000 in
theorem gX6_melt_X0_prepare : GoodIn wsX6_melt (wsV RX6 53 RX0 yX0_prepare wsX0_prepare) := goodIn_app (goodIn_of _ (by decide +kernel)) ggX6_melt_X0_prepare
set_option maxRecDepth 20000 in
theorem ggX6_melt_X3_meltRoller : GoodIn wsX6_melt wsX3_meltRoller := goodIn_r _ [23, 24, 25, 26, 13, 27, 28, 29, 30, 31, 15, 32, 33, 34, 35, 36, 37, 38, 57] (by decide +kernel) (by decide +kernel)
set_option maxRecDepth 20000 in
theorem gX6_melt_X3_meltRoller : GoodIn wsX6_melt (wsV RX6 72 RX3 yX3_meltRoller wsX3_meltRoller) := goodIn_app (goodIn_of _ (by decide +kernel)) ggX6_melt_X3_meltRoller
set_option maxRecDepth 20000 in
theorem ggX6_melt_X0_recorded : GoodIn wsX6_melt wsX0_recorded := goodIn_r _ [42, 9, 43, 44, 45, 46, 47, 54, 55, 56] (by decide +kernel) (by decide +kernel)
set_option maxRecDepth 20000 in
theorem gX6_melt_X0_recorded : GoodIn wsX6_melt (wsV RX6 61 RX0 yX0_recorded wsX0_recorded) := goodIn_app (goodIn_of _ (by decide +kernel)) ggX6_melt_X0_recorded
theorem dX6_melt_0 : decode cX6_melt 0 = .ok (.aload_n 0, 1) := by decide +kernel
theorem dX6_melt_1 : decode cX6_melt 1 = .ok (.getfield 19, 3) := by decide +kernel
theorem dX6_melt_4 : decode cX6_melt 4 = .ok (.aload_n 0, 1) := by decide +kernel
theorem dX6_melt_5 : decode cX6_melt 5 = .ok (.getfield 10, 3) := by decide +kernel
theorem dX6_melt_8 : decode cX6_melt 8 = .ok (.invokevirtual 53, 3) := by decide +kernel
theorem dX6_melt_11 : decode cX6_melt 11 = .ok (.aload_n 0, 1) := by decide +kernel
theorem dX6_melt_12 : decode cX6_melt 12 = .ok (.getfield 19, 3) := by decide +kernel
theorem dX6_melt_15 : decode cX6_melt 15 = .ok (.aload_n 0, 1) := by decide +kernel
theorem dX6_melt_16 : decode cX6_melt 16 = .ok (.getfield 10, 3) := by decide +kernel
theorem dX6_melt_19 : decode cX6_melt 19 = .ok (.iload_n 1, 1) := by decide +kernel
theorem dX6_melt_20 : decode cX6_melt 20 = .ok (.invokevirtual 72, 3) := by decide +kernel
theorem dX6_melt_23 : decode cX6_melt 23 = .ok (.invokevirtual 61, 3) := by decide +kernel
theorem dX6_melt_26 : decode cX6_melt 26 = .ok (.ireturn, 1) := by decide +kernel
set_option maxRecDepth 20000 in
theorem ggX6_card_X0_prepare : GoodIn wsX6_card wsX0_prepare := goodIn_r _ [7, 8, 9, 10, 11, 12, 13, 14, 15, 16, 17, 18, 19, 50, 51, 52, 53] (by decide +kernel) (by decide +kernel)
set_option maxRecDepth 20000 in
theorem gX6_card_X0_prepare : GoodIn wsX6_card (wsV RX6 53 RX0 yX0_prepare wsX0_prepare) := goodIn_app (goodIn_of _ (by decide +kernel)) ggX6_card_X0_prepare
set_option maxRecDepth 20000 in
theorem ggX6_card_X3_changeCard : GoodIn wsX6_card wsX3_changeCard := goodIn_r _ [23, 24, 25, 26, 27, 28, 29, 13, 30, 15, 31, 32, 33, 34, 53] (by decide +kernel) (by decide +kernel)
set_option maxRecDepth 20000 in
theorem gX6_card_X3_changeCard : GoodIn wsX6_card (wsV RX6 75 RX3 yX3_changeCard wsX3_changeCard) := goodIn_app (goodIn_of _ (by decide +kernel)) ggX6_card_X3_changeCard
set_option maxRecDepth 20000 in
theorem ggX6_card_X0_recorded : GoodIn wsX6_card wsX0_recorded := goodIn_r _ [38, 9, 39, 40, 41, 42, 43, 50, 51, 52] (by decide +kernel) (by decide +kernel)
set_option maxRecDepth 20000 in
theorem gX6_card_X0_recorded : GoodIn wsX6_card (wsV RX6 61 RX0 yX0_recorded wsX0_recorded) := goodIn_app (goodIn_of _ (by decide +kernel)) ggX6_card_X0_recorded
theorem dX6_card_0 : decode cX6_card 0 = .ok (.aload_n 0, 1) := by decide +kernel
theorem dX6_card_1 : decode cX6_card 1 = .ok (.getfield 19, 3) := by decide +kernel
theorem dX6_card_4 : decode cX6_card 4 = .ok (.aload_n 0, 1) := by decide +kernel
theorem dX6_card_5 : decode cX6_card 5 = .ok (.getfield 10, 3) := by decide +kernel
theorem dX6_card_8 : decode cX6_card 8 = .ok (.invokevirtual 53, 3) := by decide +kernel
theorem dX6_card_11 : decode cX6_card 11 = .ok (.aload_n 0, 1) := by decide +kernel
theorem dX6_card_12 : decode cX6_card 12 = .ok (.getfield 19, 3) := by decide +kernel
theorem dX6_card_15 : decode cX6_card 15 = .ok (.aload_n 0, 1) := by decide +kernel
theorem dX6_card_16 : decode cX6_card 16 = .ok (.getfield 10, 3) := by decide +kernel
theorem dX6_card_19 : decode cX6_card 19 = .ok (.iload_n 1, 1) := by decide +kernel
theorem dX6_card_20 : decode cX6_card 20 = .ok (.iload_n 2, 1) := by decide +kernel
theorem dX6_card_21 : decode cX6_card 21 = .ok (.invokevirtual 75, 3) := by decide +kernel
theorem dX6_card_24 : decode cX6_card 24 = .ok (.invokevirtual 61, 3) := by decide +kernel
theorem dX6_card_27 : decode cX6_card 27 = .ok (.ireturn, 1) := by decide +kernel
set_option maxRecDepth 20000 in
theorem ggX6_run_X0_prepare : GoodIn wsX6_run wsX0_prepare := goodIn_r _ [7, 8, 9, 10, 11, 12, 13, 14, 15, 16, 17, 18, 19, 153, 154, 155, 156] (by decide +kernel) (by decide +kernel)
set_option maxRecDepth 20000 in
theorem gX6_run_X0_prepare : GoodIn wsX6_run (wsV RX6 53 RX0 yX0_prepare wsX0_prepare) := goodIn_app (goodIn_of _ (by decide +kernel)) ggX6_run_X0_prepare
set_option maxRecDepth 20000 in
theorem ggX6_run_X6_runCards : GoodIn wsX6_run wsX6_runCards := goodIn_r _ [24, 25, 2, 26, 27, 28, 23, 29, 30, 31, 32, 13, 33, 34, 35, 36, 37, 15, 38, 39, 40, 41, 42, 43, 44, 45, 46, 47, 48, 49, 50, 51, 52, 53, 54, 55, 56, 57, 58, 59, 60, 61, 62, 63, 64, 65, 66, 67, 68, 69, 70, 71, 72, 73, 74, 75, 76, 77, 78, 79, 80, 81, 82, 83, 84, 85, 86, 87, 88, 89, 90, 91, 92, 93, 94, 95, 96, 97, 98, 99, 100, 101, 102, 103, 104, 105, 106, 107, 108, 109, 110, 111, 112, 113, 114, 115, 116, 117, 118, 119, 120, 121, 122, 123, 124, 125, 126, 127, 128, 129, 130, 131, 132, 133, 134, 135, 136, 137, 138, 139, 140, 147, 148, 149, 150, 151, 152, 156, 157, 158, 159, 160] (by decide +kernel) (by decide +kernel)
set_option maxRecDepth 20000 in
theorem gX6_run_X6_runCards : GoodIn wsX6_run (wsV RX6 78 RX6 yX6_runCards wsX6_runCards) := goodIn_app (goodIn_of _ (by decide +kernel)) ggX6_run_X6_runCards
set_option maxRecDepth 20000 in
theorem ggX6_run_X0_recorded : GoodIn wsX6_run wsX0_recorded := goodIn_r _ [144, 9, 145, 146, 47, 48, 49, 153, 154, 155] (by decide +kernel) (by decide +kernel)
set_option maxRecDepth 20000 in
theorem gX6_run_X0_recorded : GoodIn wsX6_run (wsV RX6 61 RX0 yX0_recorded wsX0_recorded) := goodIn_app (goodIn_of _ (by decide +kernel)) ggX6_run_X0_recorded
theorem dX6_run_0 : decode cX6_run 0 = .ok (.aload_n 0, 1) := by decide +kernel
theorem dX6_run_1 : decode cX6_run 1 = .ok (.getfield 19, 3) := by decide +kernel
theorem dX6_run_4 : decode cX6_run 4 = .ok (.aload_n 0, 1) := by decide +kernel
theorem dX6_run_5 : decode cX6_run 5 = .ok (.getfield 10, 3) := by decide +kernel
theorem dX6_run_8 : decode cX6_run 8 = .ok (.invokevirtual 53, 3) := by decide +kernel
theorem dX6_run_11 : decode cX6_run 11 = .ok (.aload_n 0, 1) := by decide +kernel
theorem dX6_run_12 : decode cX6_run 12 = .ok (.getfield 19, 3) := by decide +kernel
theorem dX6_run_15 : decode cX6_run 15 = .ok (.aload_n 0, 1) := by decide +kernel
theorem dX6_run_16 : decode cX6_run 16 = .ok (.iload_n 1, 1) := by decide +kernel
theorem dX6_run_17 : decode cX6_run 17 = .ok (.iload_n 2, 1) := by decide +kernel
theorem dX6_run_18 : decode cX6_run 18 = .ok (.iload_n 3, 1) := by decide +kernel
theorem dX6_run_19 : decode cX6_run 19 = .ok (.iload 4, 2) := by decide +kernel
theorem dX6_run_21 : decode cX6_run 21 = .ok (.iload 5, 2) := by decide +kernel
theorem dX6_run_23 : decode cX6_run 23 = .ok (.iload 6, 2) := by decide +kernel
theorem dX6_run_25 : decode cX6_run 25 = .ok (.invokevirtual 78, 3) := by decide +kernel
theorem dX6_run_28 : decode cX6_run 28 = .ok (.invokevirtual 61, 3) := by decide +kernel
theorem dX6_run_31 : decode cX6_run 31 = .ok (.ireturn, 1) := by decide +kernel
set_option maxRecDepth 20000 in
theorem ggX6_runCards_X6_pairError : GoodIn wsX6_runCards wsX6_pairError := goodIn_r _ [7, 2, 8, 9, 10, 11, 12, 13, 14, 15, 16, 17, 18, 19, 6, 20, 121, 122, 123, 124, 125, 126, 127] (by decide +kernel) (by decide +kernel)
set_option maxRecDepth 20000 in
theorem gX6_runCards_X6_pairError : GoodIn wsX6_runCards (wsV RX6 82 RX6 yX6_pairError wsX6_pairError) := goodIn_app (goodIn_of _ (by decide +kernel)) ggX6_runCards_X6_pairError
set_option maxRecDepth 20000 in
theorem ggX6_runCards_X6_outside : GoodIn wsX6_runCards wsX6_outside := goodIn_r _ [20] (by decide +kernel) (by decide +kernel)
set_option maxRecDepth 20000 in
theorem gX6_runCards_X6_outside : GoodIn wsX6_runCards (va_wsS RX6 86 yX6_outside wsX6_outside) := goodIn_app (goodIn_of _ (by decide +kernel)) ggX6_runCards_X6_outside
set_option maxRecDepth 20000 in
theorem ggX6_runCards_X5_lay : GoodIn wsX6_runCards wsX5_lay := goodIn_r _ [25, 26, 27, 28, 29, 30, 31, 32, 33, 34, 11, 35, 36, 37, 38, 13, 14, 15, 16, 17, 39, 40, 24, 41, 42, 43, 44, 45, 46, 47, 48, 128, 129, 130, 131, 127] (by decide +kernel) (by decide +kernel)
set_option maxRecDepth 20000 in
theorem gX6_runCards_X5_lay : GoodIn wsX6_runCards (wsV RX6 90 RX5 yX5_lay wsX5_lay) := goodIn_app (goodIn_of _ (by decide +kernel)) ggX6_runCards_X5_lay
set_option maxRecDepth 20000 in
theorem ggX6_runCards_X3_setting : GoodIn wsX6_runCards wsX3_setting := goodIn_r _ [52, 13, 14, 15, 11, 16, 17, 127] (by decide +kernel) (by decide +kernel)
set_option maxRecDepth 20000 in
theorem gX6_runCards_X3_setting : GoodIn wsX6_runCards (wsV RX6 94 RX3 yX3_setting wsX3_setting) := goodIn_app (goodIn_of _ (by decide +kernel)) ggX6_runCards_X3_setting
set_option maxRecDepth 20000 in
theorem ggX6_runCards_X5_meshes : GoodIn wsX6_runCards wsX5_meshes := goodIn_r _ [56, 57, 58, 59, 24, 60, 30, 61, 62, 63, 64, 31, 65, 66, 67, 68, 69, 70, 28, 71, 128, 129, 130, 131] (by decide +kernel) (by decide +kernel)
set_option maxRecDepth 20000 in
theorem gX6_runCards_X5_meshes : GoodIn wsX6_runCards (wsV RX6 97 RX5 yX5_meshes wsX5_meshes) := goodIn_app (goodIn_of _ (by decide +kernel)) ggX6_runCards_X5_meshes
set_option maxRecDepth 20000 in
theorem ggX6_runCards_X5_begin : GoodIn wsX6_runCards wsX5_begin := goodIn_r _ [75, 76, 77, 128, 129, 130, 131] (by decide +kernel) (by decide +kernel)
set_option maxRecDepth 20000 in
theorem gX6_runCards_X5_begin : GoodIn wsX6_runCards (wsV RX6 101 RX5 yX5_begin wsX5_begin) := goodIn_app (goodIn_of _ (by decide +kernel)) ggX6_runCards_X5_begin
set_option maxRecDepth 20000 in
theorem ggX6_runCards_X3_cell : GoodIn wsX6_runCards wsX3_cell := goodIn_r _ [16, 17, 127] (by decide +kernel) (by decide +kernel)
set_option maxRecDepth 20000 in
theorem gX6_runCards_X3_cell : GoodIn wsX6_runCards (wsV RX6 104 RX3 yX3_cell wsX3_cell) := goodIn_app (goodIn_of _ (by decide +kernel)) ggX6_runCards_X3_cell
set_option maxRecDepth 20000 in
theorem ggX6_runCards_X5_tears : GoodIn wsX6_runCards wsX5_tears := goodIn_r _ [82, 76, 83, 84, 28, 85, 30, 77, 69, 70, 71, 61, 62, 63, 24, 64, 31, 46, 47, 48, 128, 129, 130, 131] (by decide +kernel) (by decide +kernel)
set_option maxRecDepth 20000 in
theorem gX6_runCards_X5_tears : GoodIn wsX6_runCards (wsV RX6 107 RX5 yX5_tears wsX5_tears) := goodIn_app (goodIn_of _ (by decide +kernel)) ggX6_runCards_X5_tears
set_option maxRecDepth 20000 in
theorem ggX6_runCards_X5_taken : GoodIn wsX6_runCards wsX5_taken := goodIn_r _ [89, 77, 128, 129, 130, 131] (by decide +kernel) (by decide +kernel)
set_option maxRecDepth 20000 in
theorem gX6_runCards_X5_taken : GoodIn wsX6_runCards (wsV RX6 111 RX5 yX5_taken wsX5_taken) := goodIn_app (goodIn_of _ (by decide +kernel)) ggX6_runCards_X5_taken
set_option maxRecDepth 20000 in
theorem ggX6_runCards_X3_countRun : GoodIn wsX6_runCards wsX3_countRun := goodIn_r _ [93, 94, 95, 96, 11, 97, 13, 14, 15, 16, 17, 98, 99, 100, 101, 127] (by decide +kernel) (by decide +kernel)
set_option maxRecDepth 20000 in
theorem gX6_runCards_X3_countRun : GoodIn wsX6_runCards (wsV RX6 115 RX3 yX3_countRun wsX3_countRun) := goodIn_app (goodIn_of _ (by decide +kernel)) ggX6_runCards_X3_countRun
set_option maxRecDepth 20000 in
theorem ggX6_runCards_X3_turnRoller : GoodIn wsX6_runCards wsX3_turnRoller := goodIn_r _ [105, 36, 37, 11, 38, 94, 95, 96, 97, 13, 14, 15, 16, 17, 98, 99, 100, 101, 106, 107, 108, 109, 110, 50, 51, 52, 111, 33, 34, 35, 112, 113, 114, 115, 116, 43, 44, 45, 117, 118, 119, 120, 127] (by decide +kernel) (by decide +kernel)
set_option maxRecDepth 20000 in
theorem gX6_runCards_X3_turnRoller : GoodIn wsX6_runCards (wsV RX6 119 RX3 yX3_turnRoller wsX3_turnRoller) := goodIn_app (goodIn_of _ (by decide +kernel)) ggX6_runCards_X3_turnRoller
theorem dX6_runCards_0 : decode cX6_runCards 0 = .ok (.aload_n 0, 1) := by decide +kernel
theorem dX6_runCards_1 : decode cX6_runCards 1 = .ok (.iload_n 1, 1) := by decide +kernel
theorem dX6_runCards_2 : decode cX6_runCards 2 = .ok (.iload_n 2, 1) := by decide +kernel
theorem dX6_runCards_3 : decode cX6_runCards 3 = .ok (.iload_n 3, 1) := by decide +kernel
theorem dX6_runCards_4 : decode cX6_runCards 4 = .ok (.iload 4, 2) := by decide +kernel
theorem dX6_runCards_6 : decode cX6_runCards 6 = .ok (.invokevirtual 82, 3) := by decide +kernel
theorem dX6_runCards_9 : decode cX6_runCards 9 = .ok (.istore 7, 2) := by decide +kernel
theorem dX6_runCards_11 : decode cX6_runCards 11 = .ok (.iload 7, 2) := by decide +kernel
theorem dX6_runCards_13 : decode cX6_runCards 13 = .ok (.ifCond .eq 6, 3) := by decide +kernel
theorem dX6_runCards_16 : decode cX6_runCards 16 = .ok (.iload 7, 2) := by decide +kernel
theorem dX6_runCards_18 : decode cX6_runCards 18 = .ok (.ireturn, 1) := by decide +kernel
theorem dX6_runCards_19 : decode cX6_runCards 19 = .ok (.iload 5, 2) := by decide +kernel
theorem dX6_runCards_21 : decode cX6_runCards 21 = .ok (.iconst 1, 1) := by decide +kernel
theorem dX6_runCards_22 : decode cX6_runCards 22 = .ok (.bipush 99, 2) := by decide +kernel
theorem dX6_runCards_24 : decode cX6_runCards 24 = .ok (.invokestatic 86, 3) := by decide +kernel
theorem dX6_runCards_27 : decode cX6_runCards 27 = .ok (.ifCond .ne 14, 3) := by decide +kernel
theorem dX6_runCards_30 : decode cX6_runCards 30 = .ok (.iload 6, 2) := by decide +kernel
theorem dX6_runCards_32 : decode cX6_runCards 32 = .ok (.iconst 1, 1) := by decide +kernel
theorem dX6_runCards_33 : decode cX6_runCards 33 = .ok (.bipush 99, 2) := by decide +kernel
theorem dX6_runCards_35 : decode cX6_runCards 35 = .ok (.invokestatic 86, 3) := by decide +kernel
theorem dX6_runCards_38 : decode cX6_runCards 38 = .ok (.ifCond .eq 6, 3) := by decide +kernel
theorem dX6_runCards_41 : decode cX6_runCards 41 = .ok (.bipush (-2), 2) := by decide +kernel
theorem dX6_runCards_43 : decode cX6_runCards 43 = .ok (.ireturn, 1) := by decide +kernel
theorem dX6_runCards_44 : decode cX6_runCards 44 = .ok (.aload_n 0, 1) := by decide +kernel
theorem dX6_runCards_45 : decode cX6_runCards 45 = .ok (.getfield 49, 3) := by decide +kernel
theorem dX6_runCards_48 : decode cX6_runCards 48 = .ok (.aload_n 0, 1) := by decide +kernel
theorem dX6_runCards_49 : decode cX6_runCards 49 = .ok (.getfield 10, 3) := by decide +kernel
theorem dX6_runCards_52 : decode cX6_runCards 52 = .ok (.iload_n 1, 1) := by decide +kernel
theorem dX6_runCards_53 : decode cX6_runCards 53 = .ok (.iload_n 2, 1) := by decide +kernel
theorem dX6_runCards_54 : decode cX6_runCards 54 = .ok (.iload_n 3, 1) := by decide +kernel
theorem dX6_runCards_55 : decode cX6_runCards 55 = .ok (.iload 4, 2) := by decide +kernel
theorem dX6_runCards_57 : decode cX6_runCards 57 = .ok (.invokevirtual 90, 3) := by decide +kernel
theorem dX6_runCards_60 : decode cX6_runCards 60 = .ok (.aload_n 0, 1) := by decide +kernel
theorem dX6_runCards_61 : decode cX6_runCards 61 = .ok (.getfield 49, 3) := by decide +kernel
theorem dX6_runCards_64 : decode cX6_runCards 64 = .ok (.aload_n 0, 1) := by decide +kernel
theorem dX6_runCards_65 : decode cX6_runCards 65 = .ok (.getfield 10, 3) := by decide +kernel
theorem dX6_runCards_68 : decode cX6_runCards 68 = .ok (.iconst 0, 1) := by decide +kernel
theorem dX6_runCards_69 : decode cX6_runCards 69 = .ok (.invokevirtual 94, 3) := by decide +kernel
theorem dX6_runCards_72 : decode cX6_runCards 72 = .ok (.invokevirtual 97, 3) := by decide +kernel
theorem dX6_runCards_75 : decode cX6_runCards 75 = .ok (.ifCond .ne 6, 3) := by decide +kernel
theorem dX6_runCards_78 : decode cX6_runCards 78 = .ok (.bipush (-5), 2) := by decide +kernel
theorem dX6_runCards_80 : decode cX6_runCards 80 = .ok (.ireturn, 1) := by decide +kernel
theorem dX6_runCards_81 : decode cX6_runCards 81 = .ok (.aload_n 0, 1) := by decide +kernel
theorem dX6_runCards_82 : decode cX6_runCards 82 = .ok (.getfield 49, 3) := by decide +kernel
theorem dX6_runCards_85 : decode cX6_runCards 85 = .ok (.invokevirtual 101, 3) := by decide +kernel
theorem dX6_runCards_88 : decode cX6_runCards 88 = .ok (.iconst 0, 1) := by decide +kernel
theorem dX6_runCards_89 : decode cX6_runCards 89 = .ok (.istore 8, 2) := by decide +kernel
theorem dX6_runCards_91 : decode cX6_runCards 91 = .ok (.iconst 0, 1) := by decide +kernel
theorem dX6_runCards_92 : decode cX6_runCards 92 = .ok (.istore 9, 2) := by decide +kernel
theorem dX6_runCards_94 : decode cX6_runCards 94 = .ok (.iload 9, 2) := by decide +kernel
theorem dX6_runCards_96 : decode cX6_runCards 96 = .ok (.iload 5, 2) := by decide +kernel
theorem dX6_runCards_98 : decode cX6_runCards 98 = .ok (.if_icmp .ge 48, 3) := by decide +kernel
theorem dX6_runCards_101 : decode cX6_runCards 101 = .ok (.aload_n 0, 1) := by decide +kernel
theorem dX6_runCards_102 : decode cX6_runCards 102 = .ok (.getfield 49, 3) := by decide +kernel
theorem dX6_runCards_105 : decode cX6_runCards 105 = .ok (.iload 6, 2) := by decide +kernel
theorem dX6_runCards_107 : decode cX6_runCards 107 = .ok (.aload_n 0, 1) := by decide +kernel
theorem dX6_runCards_108 : decode cX6_runCards 108 = .ok (.getfield 10, 3) := by decide +kernel
theorem dX6_runCards_111 : decode cX6_runCards 111 = .ok (.iconst 1, 1) := by decide +kernel
theorem dX6_runCards_112 : decode cX6_runCards 112 = .ok (.invokevirtual 104, 3) := by decide +kernel
theorem dX6_runCards_115 : decode cX6_runCards 115 = .ok (.aload_n 0, 1) := by decide +kernel
theorem dX6_runCards_116 : decode cX6_runCards 116 = .ok (.getfield 10, 3) := by decide +kernel
theorem dX6_runCards_119 : decode cX6_runCards 119 = .ok (.iconst 2, 1) := by decide +kernel
theorem dX6_runCards_120 : decode cX6_runCards 120 = .ok (.invokevirtual 104, 3) := by decide +kernel
theorem dX6_runCards_123 : decode cX6_runCards 123 = .ok (.aload_n 0, 1) := by decide +kernel
theorem dX6_runCards_124 : decode cX6_runCards 124 = .ok (.getfield 10, 3) := by decide +kernel
theorem dX6_runCards_127 : decode cX6_runCards 127 = .ok (.iconst 1, 1) := by decide +kernel
theorem dX6_runCards_128 : decode cX6_runCards 128 = .ok (.invokevirtual 94, 3) := by decide +kernel
theorem dX6_runCards_131 : decode cX6_runCards 131 = .ok (.invokevirtual 107, 3) := by decide +kernel
theorem dX6_runCards_134 : decode cX6_runCards 134 = .ok (.ifCond .eq 6, 3) := by decide +kernel
theorem dX6_runCards_137 : decode cX6_runCards 137 = .ok (.iinc 8 1, 3) := by decide +kernel
theorem dX6_runCards_140 : decode cX6_runCards 140 = .ok (.iinc 9 1, 3) := by decide +kernel
theorem dX6_runCards_143 : decode cX6_runCards 143 = .ok (.goto (-49), 3) := by decide +kernel
theorem dX6_runCards_146 : decode cX6_runCards 146 = .ok (.aload_n 0, 1) := by decide +kernel
theorem dX6_runCards_147 : decode cX6_runCards 147 = .ok (.getfield 10, 3) := by decide +kernel
theorem dX6_runCards_150 : decode cX6_runCards 150 = .ok (.iload 5, 2) := by decide +kernel
theorem dX6_runCards_152 : decode cX6_runCards 152 = .ok (.iload 8, 2) := by decide +kernel
theorem dX6_runCards_154 : decode cX6_runCards 154 = .ok (.aload_n 0, 1) := by decide +kernel
theorem dX6_runCards_155 : decode cX6_runCards 155 = .ok (.getfield 49, 3) := by decide +kernel
theorem dX6_runCards_158 : decode cX6_runCards 158 = .ok (.invokevirtual 111, 3) := by decide +kernel
theorem dX6_runCards_161 : decode cX6_runCards 161 = .ok (.invokevirtual 115, 3) := by decide +kernel
theorem dX6_runCards_164 : decode cX6_runCards 164 = .ok (.aload_n 0, 1) := by decide +kernel
theorem dX6_runCards_165 : decode cX6_runCards 165 = .ok (.getfield 10, 3) := by decide +kernel
theorem dX6_runCards_168 : decode cX6_runCards 168 = .ok (.iload_n 1, 1) := by decide +kernel
theorem dX6_runCards_169 : decode cX6_runCards 169 = .ok (.aload_n 0, 1) := by decide +kernel
theorem dX6_runCards_170 : decode cX6_runCards 170 = .ok (.getfield 49, 3) := by decide +kernel
theorem dX6_runCards_173 : decode cX6_runCards 173 = .ok (.invokevirtual 111, 3) := by decide +kernel
theorem dX6_runCards_176 : decode cX6_runCards 176 = .ok (.invokevirtual 119, 3) := by decide +kernel
theorem dX6_runCards_179 : decode cX6_runCards 179 = .ok (.aload_n 0, 1) := by decide +kernel
theorem dX6_runCards_180 : decode cX6_runCards 180 = .ok (.getfield 10, 3) := by decide +kernel
theorem dX6_runCards_183 : decode cX6_runCards 183 = .ok (.iload_n 2, 1) := by decide +kernel
theorem dX6_runCards_184 : decode cX6_runCards 184 = .ok (.aload_n 0, 1) := by decide +kernel
theorem dX6_runCards_185 : decode cX6_runCards 185 = .ok (.getfield 49, 3) := by decide +kernel
theorem dX6_runCards_188 : decode cX6_runCards 188 = .ok (.invokevirtual 111, 3) := by decide +kernel
theorem dX6_runCards_191 : decode cX6_runCards 191 = .ok (.invokevirtual 119, 3) := by decide +kernel
theorem dX6_runCards_194 : decode cX6_runCards 194 = .ok (.iload 8, 2) := by decide +kernel
theorem dX6_runCards_196 : decode cX6_runCards 196 = .ok (.ireturn, 1) := by decide +kernel
set_option maxRecDepth 20000 in
theorem ggX6_of_X3_has : GoodIn wsX6_of wsX3_has := goodIn_r _ [6, 7, 8, 9, 5, 10, 11, 57] (by decide +kernel) (by decide +kernel)
set_option maxRecDepth 20000 in
theorem gX6_of_X3_has : GoodIn wsX6_of (wsV RX6 123 RX3 yX3_has wsX3_has) := goodIn_app (goodIn_of _ (by decide +kernel)) ggX6_of_X3_has
set_option maxRecDepth 20000 in
theorem ggX6_of_X3_teeth : GoodIn wsX6_of wsX3_teeth := goodIn_r _ [15, 16, 17, 5, 18, 7, 8, 9, 10, 11, 57] (by decide +kernel) (by decide +kernel)
set_option maxRecDepth 20000 in
theorem gX6_of_X3_teeth : GoodIn wsX6_of (wsV RX6 126 RX3 yX3_teeth wsX3_teeth) := goodIn_app (goodIn_of _ (by decide +kernel)) ggX6_of_X3_teeth
set_option maxRecDepth 20000 in
theorem ggX6_of_X3_teethOfSign : GoodIn wsX6_of wsX3_teethOfSign := goodIn_r _ [22, 23, 13, 14, 5, 15, 16, 17, 18, 7, 8, 9, 10, 11, 24, 25, 26, 27, 57] (by decide +kernel) (by decide +kernel)
set_option maxRecDepth 20000 in
theorem gX6_of_X3_teethOfSign : GoodIn wsX6_of (wsV RX6 129 RX3 yX3_teethOfSign wsX3_teethOfSign) := goodIn_app (goodIn_of _ (by decide +kernel)) ggX6_of_X3_teethOfSign
set_option maxRecDepth 20000 in
theorem ggX6_of_X3_greatestHeight : GoodIn wsX6_of wsX3_greatestHeight := goodIn_r _ [31, 32, 33, 34, 35, 24, 25, 26, 5, 27, 16, 17, 18, 7, 8, 9, 10, 11, 23, 13, 14, 15, 57] (by decide +kernel) (by decide +kernel)
set_option maxRecDepth 20000 in
theorem gX6_of_X3_greatestHeight : GoodIn wsX6_of (wsV RX6 132 RX3 yX3_greatestHeight wsX3_greatestHeight) := goodIn_app (goodIn_of _ (by decide +kernel)) ggX6_of_X3_greatestHeight
set_option maxRecDepth 20000 in
theorem ggX6_of_X3_leastHeight : GoodIn wsX6_of wsX3_leastHeight := goodIn_r _ [39, 40, 41, 34, 42, 24, 25, 26, 5, 27, 16, 17, 18, 7, 8, 9, 10, 11, 23, 13, 14, 15, 57] (by decide +kernel) (by decide +kernel)
set_option maxRecDepth 20000 in
theorem gX6_of_X3_leastHeight : GoodIn wsX6_of (wsV RX6 135 RX3 yX3_leastHeight wsX3_leastHeight) := goodIn_app (goodIn_of _ (by decide +kernel)) ggX6_of_X3_leastHeight
set_option maxRecDepth 20000 in
theorem ggX6_of_X3_stepsSinceWorn : GoodIn wsX6_of wsX3_stepsSinceWorn := goodIn_r _ [46, 16, 17, 5, 18, 7, 8, 9, 10, 11, 57] (by decide +kernel) (by decide +kernel)
set_option maxRecDepth 20000 in
theorem gX6_of_X3_stepsSinceWorn : GoodIn wsX6_of (wsV RX6 138 RX3 yX3_stepsSinceWorn wsX3_stepsSinceWorn) := goodIn_app (goodIn_of _ (by decide +kernel)) ggX6_of_X3_stepsSinceWorn
set_option maxRecDepth 20000 in
theorem ggX6_of_X3_timesWorn : GoodIn wsX6_of wsX3_timesWorn := goodIn_r _ [50, 16, 17, 5, 18, 7, 8, 9, 10, 11, 57] (by decide +kernel) (by decide +kernel)
set_option maxRecDepth 20000 in
theorem gX6_of_X3_timesWorn : GoodIn wsX6_of (wsV RX6 141 RX3 yX3_timesWorn wsX3_timesWorn) := goodIn_app (goodIn_of _ (by decide +kernel)) ggX6_of_X3_timesWorn
theorem dX6_of_0 : decode cX6_of 0 = .ok (.aload_n 0, 1) := by decide +kernel
theorem dX6_of_1 : decode cX6_of 1 = .ok (.getfield 10, 3) := by decide +kernel
theorem dX6_of_4 : decode cX6_of 4 = .ok (.iload_n 1, 1) := by decide +kernel
theorem dX6_of_5 : decode cX6_of 5 = .ok (.invokevirtual 123, 3) := by decide +kernel
theorem dX6_of_8 : decode cX6_of 8 = .ok (.ifCond .ne 5, 3) := by decide +kernel
theorem dX6_of_11 : decode cX6_of 11 = .ok (.iconst (-1), 1) := by decide +kernel
theorem dX6_of_12 : decode cX6_of 12 = .ok (.ireturn, 1) := by decide +kernel
theorem dX6_of_13 : decode cX6_of 13 = .ok (.iload_n 2, 1) := by decide +kernel
theorem dX6_of_14 : decode cX6_of 14 = .ok (.tableswitch 113 0 6 #[42, 51, 61, 71, 83, 95, 104], 42) := by decide +kernel
theorem dX6_of_56 : decode cX6_of 56 = .ok (.aload_n 0, 1) := by decide +kernel
theorem dX6_of_57 : decode cX6_of 57 = .ok (.getfield 10, 3) := by decide +kernel
theorem dX6_of_60 : decode cX6_of 60 = .ok (.iload_n 1, 1) := by decide +kernel
theorem dX6_of_61 : decode cX6_of 61 = .ok (.invokevirtual 126, 3) := by decide +kernel
theorem dX6_of_64 : decode cX6_of 64 = .ok (.ireturn, 1) := by decide +kernel
theorem dX6_of_65 : decode cX6_of 65 = .ok (.aload_n 0, 1) := by decide +kernel
theorem dX6_of_66 : decode cX6_of 66 = .ok (.getfield 10, 3) := by decide +kernel
theorem dX6_of_69 : decode cX6_of 69 = .ok (.iload_n 1, 1) := by decide +kernel
theorem dX6_of_70 : decode cX6_of 70 = .ok (.iconst 1, 1) := by decide +kernel
theorem dX6_of_71 : decode cX6_of 71 = .ok (.invokevirtual 129, 3) := by decide +kernel
theorem dX6_of_74 : decode cX6_of 74 = .ok (.ireturn, 1) := by decide +kernel
theorem dX6_of_75 : decode cX6_of 75 = .ok (.aload_n 0, 1) := by decide +kernel
theorem dX6_of_76 : decode cX6_of 76 = .ok (.getfield 10, 3) := by decide +kernel
theorem dX6_of_79 : decode cX6_of 79 = .ok (.iload_n 1, 1) := by decide +kernel
theorem dX6_of_80 : decode cX6_of 80 = .ok (.iconst (-1), 1) := by decide +kernel
theorem dX6_of_81 : decode cX6_of 81 = .ok (.invokevirtual 129, 3) := by decide +kernel
theorem dX6_of_84 : decode cX6_of 84 = .ok (.ireturn, 1) := by decide +kernel
theorem dX6_of_85 : decode cX6_of 85 = .ok (.aload_n 0, 1) := by decide +kernel
theorem dX6_of_86 : decode cX6_of 86 = .ok (.getfield 10, 3) := by decide +kernel
theorem dX6_of_89 : decode cX6_of 89 = .ok (.iload_n 1, 1) := by decide +kernel
theorem dX6_of_90 : decode cX6_of 90 = .ok (.invokevirtual 132, 3) := by decide +kernel
theorem dX6_of_93 : decode cX6_of 93 = .ok (.bipush 9, 2) := by decide +kernel
theorem dX6_of_95 : decode cX6_of 95 = .ok (.iadd, 1) := by decide +kernel
theorem dX6_of_96 : decode cX6_of 96 = .ok (.ireturn, 1) := by decide +kernel
theorem dX6_of_97 : decode cX6_of 97 = .ok (.aload_n 0, 1) := by decide +kernel
theorem dX6_of_98 : decode cX6_of 98 = .ok (.getfield 10, 3) := by decide +kernel
theorem dX6_of_101 : decode cX6_of 101 = .ok (.iload_n 1, 1) := by decide +kernel
theorem dX6_of_102 : decode cX6_of 102 = .ok (.invokevirtual 135, 3) := by decide +kernel
theorem dX6_of_105 : decode cX6_of 105 = .ok (.bipush 9, 2) := by decide +kernel
theorem dX6_of_107 : decode cX6_of 107 = .ok (.iadd, 1) := by decide +kernel
theorem dX6_of_108 : decode cX6_of 108 = .ok (.ireturn, 1) := by decide +kernel
theorem dX6_of_109 : decode cX6_of 109 = .ok (.aload_n 0, 1) := by decide +kernel
theorem dX6_of_110 : decode cX6_of 110 = .ok (.getfield 10, 3) := by decide +kernel
theorem dX6_of_113 : decode cX6_of 113 = .ok (.iload_n 1, 1) := by decide +kernel
theorem dX6_of_114 : decode cX6_of 114 = .ok (.invokevirtual 138, 3) := by decide +kernel
theorem dX6_of_117 : decode cX6_of 117 = .ok (.ireturn, 1) := by decide +kernel
theorem dX6_of_118 : decode cX6_of 118 = .ok (.aload_n 0, 1) := by decide +kernel
theorem dX6_of_119 : decode cX6_of 119 = .ok (.getfield 10, 3) := by decide +kernel
theorem dX6_of_122 : decode cX6_of 122 = .ok (.iload_n 1, 1) := by decide +kernel
theorem dX6_of_123 : decode cX6_of 123 = .ok (.invokevirtual 141, 3) := by decide +kernel
theorem dX6_of_126 : decode cX6_of 126 = .ok (.ireturn, 1) := by decide +kernel
theorem dX6_of_127 : decode cX6_of 127 = .ok (.bipush (-2), 2) := by decide +kernel
theorem dX6_of_129 : decode cX6_of 129 = .ok (.ireturn, 1) := by decide +kernel
set_option maxRecDepth 20000 in
theorem ggX6_tooth_X3_hasTooth : GoodIn wsX6_tooth wsX3_hasTooth := goodIn_r _ [6, 7, 8, 9, 5, 10, 11, 12, 13, 14, 15, 16, 17, 18, 19, 20, 21, 22, 33] (by decide +kernel) (by decide +kernel)
set_option maxRecDepth 20000 in
theorem gX6_tooth_X3_hasTooth : GoodIn wsX6_tooth (wsV RX6 144 RX3 yX3_hasTooth wsX3_hasTooth) := goodIn_app (goodIn_of _ (by decide +kernel)) ggX6_tooth_X3_hasTooth
set_option maxRecDepth 20000 in
theorem ggX6_tooth_X3_height : GoodIn wsX6_tooth wsX3_height := goodIn_r _ [26, 20, 21, 5, 22, 11, 12, 13, 14, 15, 33] (by decide +kernel) (by decide +kernel)
set_option maxRecDepth 20000 in
theorem gX6_tooth_X3_height : GoodIn wsX6_tooth (wsV RX6 148 RX3 yX3_height wsX3_height) := goodIn_app (goodIn_of _ (by decide +kernel)) ggX6_tooth_X3_height
theorem dX6_tooth_0 : decode cX6_tooth 0 = .ok (.aload_n 0, 1) := by decide +kernel
theorem dX6_tooth_1 : decode cX6_tooth 1 = .ok (.getfield 10, 3) := by decide +kernel
theorem dX6_tooth_4 : decode cX6_tooth 4 = .ok (.iload_n 1, 1) := by decide +kernel
theorem dX6_tooth_5 : decode cX6_tooth 5 = .ok (.iload_n 2, 1) := by decide +kernel
theorem dX6_tooth_6 : decode cX6_tooth 6 = .ok (.invokevirtual 144, 3) := by decide +kernel
theorem dX6_tooth_9 : decode cX6_tooth 9 = .ok (.ifCond .eq 18, 3) := by decide +kernel
theorem dX6_tooth_12 : decode cX6_tooth 12 = .ok (.aload_n 0, 1) := by decide +kernel
theorem dX6_tooth_13 : decode cX6_tooth 13 = .ok (.getfield 10, 3) := by decide +kernel
theorem dX6_tooth_16 : decode cX6_tooth 16 = .ok (.iload_n 1, 1) := by decide +kernel
theorem dX6_tooth_17 : decode cX6_tooth 17 = .ok (.iload_n 2, 1) := by decide +kernel
theorem dX6_tooth_18 : decode cX6_tooth 18 = .ok (.invokevirtual 148, 3) := by decide +kernel
theorem dX6_tooth_21 : decode cX6_tooth 21 = .ok (.bipush 9, 2) := by decide +kernel
theorem dX6_tooth_23 : decode cX6_tooth 23 = .ok (.iadd, 1) := by decide +kernel
theorem dX6_tooth_24 : decode cX6_tooth 24 = .ok (.goto 4, 3) := by decide +kernel
theorem dX6_tooth_27 : decode cX6_tooth 27 = .ok (.iconst (-1), 1) := by decide +kernel
theorem dX6_tooth_28 : decode cX6_tooth 28 = .ok (.ireturn, 1) := by decide +kernel
set_option maxRecDepth 20000 in
theorem ggX6_count_X6_outside : GoodIn wsX6_count wsX6_outside := goodIn_r _ [7] (by decide +kernel) (by decide +kernel)
set_option maxRecDepth 20000 in
theorem gX6_count_X6_outside : GoodIn wsX6_count (va_wsS RX6 86 yX6_outside wsX6_outside) := goodIn_app (goodIn_of _ (by decide +kernel)) ggX6_count_X6_outside
set_option maxRecDepth 20000 in
theorem ggX6_count_X1_length : GoodIn wsX6_count wsX1_length := goodIn_r _ [12, 13, 32, 33] (by decide +kernel) (by decide +kernel)
set_option maxRecDepth 20000 in
theorem gX6_count_X1_length : GoodIn wsX6_count (wsV RX6 151 RX1 yX1_length wsX1_length) := goodIn_app (goodIn_of _ (by decide +kernel)) ggX6_count_X1_length
set_option maxRecDepth 20000 in
theorem ggX6_count_X0_length : GoodIn wsX6_count wsX0_length := goodIn_r _ [18, 19, 34, 35, 36] (by decide +kernel) (by decide +kernel)
set_option maxRecDepth 20000 in
theorem gX6_count_X0_length : GoodIn wsX6_count (wsV RX6 154 RX0 yX0_length wsX0_length) := goodIn_app (goodIn_of _ (by decide +kernel)) ggX6_count_X0_length
set_option maxRecDepth 20000 in
theorem ggX6_count_X3_cell : GoodIn wsX6_count wsX3_cell := goodIn_r _ [24, 25, 37] (by decide +kernel) (by decide +kernel)
set_option maxRecDepth 20000 in
theorem gX6_count_X3_cell : GoodIn wsX6_count (wsV RX6 104 RX3 yX3_cell wsX3_cell) := goodIn_app (goodIn_of _ (by decide +kernel)) ggX6_count_X3_cell
theorem dX6_count_0 : decode cX6_count 0 = .ok (.iload_n 1, 1) := by decide +kernel
theorem dX6_count_1 : decode cX6_count 1 = .ok (.iconst 0, 1) := by decide +kernel
theorem dX6_count_2 : decode cX6_count 2 = .ok (.bipush 10, 2) := by decide +kernel
theorem dX6_count_4 : decode cX6_count 4 = .ok (.invokestatic 86, 3) := by decide +kernel
theorem dX6_count_7 : decode cX6_count 7 = .ok (.ifCond .eq 6, 3) := by decide +kernel
theorem dX6_count_10 : decode cX6_count 10 = .ok (.bipush (-2), 2) := by decide +kernel
theorem dX6_count_12 : decode cX6_count 12 = .ok (.ireturn, 1) := by decide +kernel
theorem dX6_count_13 : decode cX6_count 13 = .ok (.iload_n 1, 1) := by decide +kernel
theorem dX6_count_14 : decode cX6_count 14 = .ok (.bipush 9, 2) := by decide +kernel
theorem dX6_count_16 : decode cX6_count 16 = .ok (.if_icmp .ne 11, 3) := by decide +kernel
theorem dX6_count_19 : decode cX6_count 19 = .ok (.aload_n 0, 1) := by decide +kernel
theorem dX6_count_20 : decode cX6_count 20 = .ok (.getfield 33, 3) := by decide +kernel
theorem dX6_count_23 : decode cX6_count 23 = .ok (.invokevirtual 151, 3) := by decide +kernel
theorem dX6_count_26 : decode cX6_count 26 = .ok (.ireturn, 1) := by decide +kernel
theorem dX6_count_27 : decode cX6_count 27 = .ok (.iload_n 1, 1) := by decide +kernel
theorem dX6_count_28 : decode cX6_count 28 = .ok (.bipush 10, 2) := by decide +kernel
theorem dX6_count_30 : decode cX6_count 30 = .ok (.if_icmp .ne 13, 3) := by decide +kernel
theorem dX6_count_33 : decode cX6_count 33 = .ok (.aload_n 0, 1) := by decide +kernel
theorem dX6_count_34 : decode cX6_count 34 = .ok (.getfield 19, 3) := by decide +kernel
theorem dX6_count_37 : decode cX6_count 37 = .ok (.invokevirtual 154, 3) := by decide +kernel
theorem dX6_count_40 : decode cX6_count 40 = .ok (.goto 11, 3) := by decide +kernel
theorem dX6_count_43 : decode cX6_count 43 = .ok (.aload_n 0, 1) := by decide +kernel
theorem dX6_count_44 : decode cX6_count 44 = .ok (.getfield 10, 3) := by decide +kernel
theorem dX6_count_47 : decode cX6_count 47 = .ok (.iload_n 1, 1) := by decide +kernel
theorem dX6_count_48 : decode cX6_count 48 = .ok (.invokevirtual 104, 3) := by decide +kernel
theorem dX6_count_51 : decode cX6_count 51 = .ok (.ireturn, 1) := by decide +kernel
set_option maxRecDepth 20000 in
theorem ggX6_pair_X6_questionError : GoodIn wsX6_pair wsX6_questionError := goodIn_r _ [7, 8, 9, 10, 6, 11, 2, 12, 13, 14, 15, 16, 17, 18, 19, 20, 21, 22, 23, 24, 91, 92, 93, 94, 95, 96, 97] (by decide +kernel) (by decide +kernel)
set_option maxRecDepth 20000 in
theorem gX6_pair_X6_questionError : GoodIn wsX6_pair (wsV RX6 155 RX6 yX6_questionError wsX6_questionError) := goodIn_app (goodIn_of _ (by decide +kernel)) ggX6_pair_X6_questionError
set_option maxRecDepth 20000 in
theorem ggX6_pair_X5_lay : GoodIn wsX6_pair wsX5_lay := goodIn_r _ [29, 30, 31, 32, 33, 34, 35, 36, 37, 38, 15, 39, 40, 41, 42, 17, 18, 19, 20, 21, 43, 44, 28, 45, 46, 47, 48, 49, 50, 51, 52, 98, 99, 100, 101, 97] (by decide +kernel) (by decide +kernel)
set_option maxRecDepth 20000 in
theorem gX6_pair_X5_lay : GoodIn wsX6_pair (wsV RX6 90 RX5 yX5_lay wsX5_lay) := goodIn_app (goodIn_of _ (by decide +kernel)) ggX6_pair_X5_lay
set_option maxRecDepth 20000 in
theorem ggX6_pair_X5_length : GoodIn wsX6_pair wsX5_length := goodIn_r _ [56, 34, 98, 99, 100, 101] (by decide +kernel) (by decide +kernel)
set_option maxRecDepth 20000 in
theorem gX6_pair_X5_length : GoodIn wsX6_pair (wsV RX6 158 RX5 yX5_length wsX5_length) := goodIn_app (goodIn_of _ (by decide +kernel)) ggX6_pair_X5_length
set_option maxRecDepth 20000 in
theorem ggX6_pair_X5_leastPress : GoodIn wsX6_pair wsX5_leastPress := goodIn_r _ [60, 34, 30, 31, 32, 33, 61, 62, 63, 28, 64, 35, 98, 99, 100, 101] (by decide +kernel) (by decide +kernel)
set_option maxRecDepth 20000 in
theorem gX6_pair_X5_leastPress : GoodIn wsX6_pair (wsV RX6 159 RX5 yX5_leastPress wsX5_leastPress) := goodIn_app (goodIn_of _ (by decide +kernel)) ggX6_pair_X5_leastPress
set_option maxRecDepth 20000 in
theorem ggX6_pair_X5_greatestPress : GoodIn wsX6_pair wsX5_greatestPress := goodIn_r _ [68, 34, 69, 70, 32, 71, 61, 62, 63, 28, 64, 35, 98, 99, 100, 101] (by decide +kernel) (by decide +kernel)
set_option maxRecDepth 20000 in
theorem gX6_pair_X5_greatestPress : GoodIn wsX6_pair (wsV RX6 162 RX5 yX5_greatestPress wsX5_greatestPress) := goodIn_app (goodIn_of _ (by decide +kernel)) ggX6_pair_X5_greatestPress
set_option maxRecDepth 20000 in
theorem ggX6_pair_X3_setting : GoodIn wsX6_pair wsX3_setting := goodIn_r _ [75, 17, 18, 19, 15, 20, 21, 97] (by decide +kernel) (by decide +kernel)
set_option maxRecDepth 20000 in
theorem gX6_pair_X3_setting : GoodIn wsX6_pair (wsV RX6 94 RX3 yX3_setting wsX3_setting) := goodIn_app (goodIn_of _ (by decide +kernel)) ggX6_pair_X3_setting
set_option maxRecDepth 20000 in
theorem ggX6_pair_X5_meshes : GoodIn wsX6_pair wsX5_meshes := goodIn_r _ [79, 80, 81, 82, 28, 83, 34, 61, 62, 63, 64, 35, 84, 85, 86, 87, 88, 89, 32, 90, 98, 99, 100, 101] (by decide +kernel) (by decide +kernel)
set_option maxRecDepth 20000 in
theorem gX6_pair_X5_meshes : GoodIn wsX6_pair (wsV RX6 97 RX5 yX5_meshes wsX5_meshes) := goodIn_app (goodIn_of _ (by decide +kernel)) ggX6_pair_X5_meshes
theorem dX6_pair_0 : decode cX6_pair 0 = .ok (.aload_n 0, 1) := by decide +kernel
theorem dX6_pair_1 : decode cX6_pair 1 = .ok (.iload_n 1, 1) := by decide +kernel
theorem dX6_pair_2 : decode cX6_pair 2 = .ok (.iload_n 2, 1) := by decide +kernel
theorem dX6_pair_3 : decode cX6_pair 3 = .ok (.iload_n 3, 1) := by decide +kernel
theorem dX6_pair_4 : decode cX6_pair 4 = .ok (.iload 4, 2) := by decide +kernel
theorem dX6_pair_6 : decode cX6_pair 6 = .ok (.iload 5, 2) := by decide +kernel
theorem dX6_pair_8 : decode cX6_pair 8 = .ok (.iconst 3, 1) := by decide +kernel
theorem dX6_pair_9 : decode cX6_pair 9 = .ok (.invokevirtual 155, 3) := by decide +kernel
theorem dX6_pair_12 : decode cX6_pair 12 = .ok (.istore 6, 2) := by decide +kernel
theorem dX6_pair_14 : decode cX6_pair 14 = .ok (.iload 6, 2) := by decide +kernel
theorem dX6_pair_16 : decode cX6_pair 16 = .ok (.ifCond .eq 6, 3) := by decide +kernel
theorem dX6_pair_19 : decode cX6_pair 19 = .ok (.iload 6, 2) := by decide +kernel
theorem dX6_pair_21 : decode cX6_pair 21 = .ok (.ireturn, 1) := by decide +kernel
theorem dX6_pair_22 : decode cX6_pair 22 = .ok (.aload_n 0, 1) := by decide +kernel
theorem dX6_pair_23 : decode cX6_pair 23 = .ok (.getfield 49, 3) := by decide +kernel
theorem dX6_pair_26 : decode cX6_pair 26 = .ok (.aload_n 0, 1) := by decide +kernel
theorem dX6_pair_27 : decode cX6_pair 27 = .ok (.getfield 10, 3) := by decide +kernel
theorem dX6_pair_30 : decode cX6_pair 30 = .ok (.iload_n 1, 1) := by decide +kernel
theorem dX6_pair_31 : decode cX6_pair 31 = .ok (.iload_n 2, 1) := by decide +kernel
theorem dX6_pair_32 : decode cX6_pair 32 = .ok (.iload_n 3, 1) := by decide +kernel
theorem dX6_pair_33 : decode cX6_pair 33 = .ok (.iload 4, 2) := by decide +kernel
theorem dX6_pair_35 : decode cX6_pair 35 = .ok (.invokevirtual 90, 3) := by decide +kernel
theorem dX6_pair_38 : decode cX6_pair 38 = .ok (.iload 5, 2) := by decide +kernel
theorem dX6_pair_40 : decode cX6_pair 40 = .ok (.tableswitch 58 0 2 #[28, 36, 47], 28) := by decide +kernel
theorem dX6_pair_68 : decode cX6_pair 68 = .ok (.aload_n 0, 1) := by decide +kernel
theorem dX6_pair_69 : decode cX6_pair 69 = .ok (.getfield 49, 3) := by decide +kernel
theorem dX6_pair_72 : decode cX6_pair 72 = .ok (.invokevirtual 158, 3) := by decide +kernel
theorem dX6_pair_75 : decode cX6_pair 75 = .ok (.ireturn, 1) := by decide +kernel
theorem dX6_pair_76 : decode cX6_pair 76 = .ok (.aload_n 0, 1) := by decide +kernel
theorem dX6_pair_77 : decode cX6_pair 77 = .ok (.getfield 49, 3) := by decide +kernel
theorem dX6_pair_80 : decode cX6_pair 80 = .ok (.invokevirtual 159, 3) := by decide +kernel
theorem dX6_pair_83 : decode cX6_pair 83 = .ok (.bipush 100, 2) := by decide +kernel
theorem dX6_pair_85 : decode cX6_pair 85 = .ok (.iadd, 1) := by decide +kernel
theorem dX6_pair_86 : decode cX6_pair 86 = .ok (.ireturn, 1) := by decide +kernel
theorem dX6_pair_87 : decode cX6_pair 87 = .ok (.aload_n 0, 1) := by decide +kernel
theorem dX6_pair_88 : decode cX6_pair 88 = .ok (.getfield 49, 3) := by decide +kernel
theorem dX6_pair_91 : decode cX6_pair 91 = .ok (.invokevirtual 162, 3) := by decide +kernel
theorem dX6_pair_94 : decode cX6_pair 94 = .ok (.bipush 100, 2) := by decide +kernel
theorem dX6_pair_96 : decode cX6_pair 96 = .ok (.iadd, 1) := by decide +kernel
theorem dX6_pair_97 : decode cX6_pair 97 = .ok (.ireturn, 1) := by decide +kernel
theorem dX6_pair_98 : decode cX6_pair 98 = .ok (.aload_n 0, 1) := by decide +kernel
theorem dX6_pair_99 : decode cX6_pair 99 = .ok (.getfield 49, 3) := by decide +kernel
theorem dX6_pair_102 : decode cX6_pair 102 = .ok (.aload_n 0, 1) := by decide +kernel
theorem dX6_pair_103 : decode cX6_pair 103 = .ok (.getfield 10, 3) := by decide +kernel
theorem dX6_pair_106 : decode cX6_pair 106 = .ok (.iconst 0, 1) := by decide +kernel
theorem dX6_pair_107 : decode cX6_pair 107 = .ok (.invokevirtual 94, 3) := by decide +kernel
theorem dX6_pair_110 : decode cX6_pair 110 = .ok (.invokevirtual 97, 3) := by decide +kernel
theorem dX6_pair_113 : decode cX6_pair 113 = .ok (.ifCond .eq 7, 3) := by decide +kernel
theorem dX6_pair_116 : decode cX6_pair 116 = .ok (.iconst 1, 1) := by decide +kernel
theorem dX6_pair_117 : decode cX6_pair 117 = .ok (.goto 4, 3) := by decide +kernel
theorem dX6_pair_120 : decode cX6_pair 120 = .ok (.iconst 0, 1) := by decide +kernel
theorem dX6_pair_121 : decode cX6_pair 121 = .ok (.ireturn, 1) := by decide +kernel
set_option maxRecDepth 20000 in
theorem ggX6_why_X6_questionError : GoodIn wsX6_why wsX6_questionError := goodIn_r _ [7, 8, 9, 10, 6, 11, 2, 12, 13, 14, 15, 16, 17, 18, 19, 20, 21, 22, 23, 24, 73, 74, 75, 76, 77, 78, 79] (by decide +kernel) (by decide +kernel)
set_option maxRecDepth 20000 in
theorem gX6_why_X6_questionError : GoodIn wsX6_why (wsV RX6 155 RX6 yX6_questionError wsX6_questionError) := goodIn_app (goodIn_of _ (by decide +kernel)) ggX6_why_X6_questionError
set_option maxRecDepth 20000 in
theorem ggX6_why_X5_lay : GoodIn wsX6_why wsX5_lay := goodIn_r _ [29, 30, 31, 32, 33, 34, 35, 36, 37, 38, 15, 39, 40, 41, 42, 17, 18, 19, 20, 21, 43, 44, 28, 45, 46, 47, 48, 49, 50, 51, 52, 80, 81, 82, 83, 79] (by decide +kernel) (by decide +kernel)
set_option maxRecDepth 20000 in
theorem gX6_why_X5_lay : GoodIn wsX6_why (wsV RX6 90 RX5 yX5_lay wsX5_lay) := goodIn_app (goodIn_of _ (by decide +kernel)) ggX6_why_X5_lay
set_option maxRecDepth 20000 in
theorem ggX6_why_X3_setting : GoodIn wsX6_why wsX3_setting := goodIn_r _ [56, 17, 18, 19, 15, 20, 21, 79] (by decide +kernel) (by decide +kernel)
set_option maxRecDepth 20000 in
theorem gX6_why_X3_setting : GoodIn wsX6_why (wsV RX6 94 RX3 yX3_setting wsX3_setting) := goodIn_app (goodIn_of _ (by decide +kernel)) ggX6_why_X3_setting
set_option maxRecDepth 20000 in
theorem ggX6_why_X5_firstBadStep : GoodIn wsX6_why wsX5_firstBadStep := goodIn_r _ [60, 34, 61, 62, 63, 28, 64, 35, 65, 66, 67, 68, 69, 70, 32, 71, 80, 81, 82, 83] (by decide +kernel) (by decide +kernel)
set_option maxRecDepth 20000 in
theorem gX6_why_X5_firstBadStep : GoodIn wsX6_why (wsV RX6 165 RX5 yX5_firstBadStep wsX5_firstBadStep) := goodIn_app (goodIn_of _ (by decide +kernel)) ggX6_why_X5_firstBadStep
set_option maxRecDepth 20000 in
theorem ggX6_why_X5_press : GoodIn wsX6_why wsX5_press := goodIn_r _ [64, 35, 80, 81, 82, 83] (by decide +kernel) (by decide +kernel)
set_option maxRecDepth 20000 in
theorem gX6_why_X5_press : GoodIn wsX6_why (wsV RX6 168 RX5 yX5_press wsX5_press) := goodIn_app (goodIn_of _ (by decide +kernel)) ggX6_why_X5_press
theorem dX6_why_0 : decode cX6_why 0 = .ok (.aload_n 0, 1) := by decide +kernel
theorem dX6_why_1 : decode cX6_why 1 = .ok (.iload_n 1, 1) := by decide +kernel
theorem dX6_why_2 : decode cX6_why 2 = .ok (.iload_n 2, 1) := by decide +kernel
theorem dX6_why_3 : decode cX6_why 3 = .ok (.iload_n 3, 1) := by decide +kernel
theorem dX6_why_4 : decode cX6_why 4 = .ok (.iload 4, 2) := by decide +kernel
theorem dX6_why_6 : decode cX6_why 6 = .ok (.iload 5, 2) := by decide +kernel
theorem dX6_why_8 : decode cX6_why 8 = .ok (.iconst 1, 1) := by decide +kernel
theorem dX6_why_9 : decode cX6_why 9 = .ok (.invokevirtual 155, 3) := by decide +kernel
theorem dX6_why_12 : decode cX6_why 12 = .ok (.istore 6, 2) := by decide +kernel
theorem dX6_why_14 : decode cX6_why 14 = .ok (.iload 6, 2) := by decide +kernel
theorem dX6_why_16 : decode cX6_why 16 = .ok (.ifCond .eq 6, 3) := by decide +kernel
theorem dX6_why_19 : decode cX6_why 19 = .ok (.iload 6, 2) := by decide +kernel
theorem dX6_why_21 : decode cX6_why 21 = .ok (.ireturn, 1) := by decide +kernel
theorem dX6_why_22 : decode cX6_why 22 = .ok (.aload_n 0, 1) := by decide +kernel
theorem dX6_why_23 : decode cX6_why 23 = .ok (.getfield 49, 3) := by decide +kernel
theorem dX6_why_26 : decode cX6_why 26 = .ok (.aload_n 0, 1) := by decide +kernel
theorem dX6_why_27 : decode cX6_why 27 = .ok (.getfield 10, 3) := by decide +kernel
theorem dX6_why_30 : decode cX6_why 30 = .ok (.iload_n 1, 1) := by decide +kernel
theorem dX6_why_31 : decode cX6_why 31 = .ok (.iload_n 2, 1) := by decide +kernel
theorem dX6_why_32 : decode cX6_why 32 = .ok (.iload_n 3, 1) := by decide +kernel
theorem dX6_why_33 : decode cX6_why 33 = .ok (.iload 4, 2) := by decide +kernel
theorem dX6_why_35 : decode cX6_why 35 = .ok (.invokevirtual 90, 3) := by decide +kernel
theorem dX6_why_38 : decode cX6_why 38 = .ok (.aload_n 0, 1) := by decide +kernel
theorem dX6_why_39 : decode cX6_why 39 = .ok (.getfield 49, 3) := by decide +kernel
theorem dX6_why_42 : decode cX6_why 42 = .ok (.aload_n 0, 1) := by decide +kernel
theorem dX6_why_43 : decode cX6_why 43 = .ok (.getfield 10, 3) := by decide +kernel
theorem dX6_why_46 : decode cX6_why 46 = .ok (.iconst 0, 1) := by decide +kernel
theorem dX6_why_47 : decode cX6_why 47 = .ok (.invokevirtual 94, 3) := by decide +kernel
theorem dX6_why_50 : decode cX6_why 50 = .ok (.invokevirtual 165, 3) := by decide +kernel
theorem dX6_why_53 : decode cX6_why 53 = .ok (.istore 7, 2) := by decide +kernel
theorem dX6_why_55 : decode cX6_why 55 = .ok (.iload 5, 2) := by decide +kernel
theorem dX6_why_57 : decode cX6_why 57 = .ok (.iconst 1, 1) := by decide +kernel
theorem dX6_why_58 : decode cX6_why 58 = .ok (.if_icmp .ne 6, 3) := by decide +kernel
theorem dX6_why_61 : decode cX6_why 61 = .ok (.iload 7, 2) := by decide +kernel
theorem dX6_why_63 : decode cX6_why 63 = .ok (.ireturn, 1) := by decide +kernel
theorem dX6_why_64 : decode cX6_why 64 = .ok (.iload 7, 2) := by decide +kernel
theorem dX6_why_66 : decode cX6_why 66 = .ok (.bipush (-6), 2) := by decide +kernel
theorem dX6_why_68 : decode cX6_why 68 = .ok (.if_icmp .ne 5, 3) := by decide +kernel
theorem dX6_why_71 : decode cX6_why 71 = .ok (.iconst 0, 1) := by decide +kernel
theorem dX6_why_72 : decode cX6_why 72 = .ok (.ireturn, 1) := by decide +kernel
theorem dX6_why_73 : decode cX6_why 73 = .ok (.aload_n 0, 1) := by decide +kernel
theorem dX6_why_74 : decode cX6_why 74 = .ok (.getfield 49, 3) := by decide +kernel
theorem dX6_why_77 : decode cX6_why 77 = .ok (.iload 7, 2) := by decide +kernel
theorem dX6_why_79 : decode cX6_why 79 = .ok (.invokevirtual 168, 3) := by decide +kernel
theorem dX6_why_82 : decode cX6_why 82 = .ok (.iconst 1, 1) := by decide +kernel
theorem dX6_why_83 : decode cX6_why 83 = .ok (.if_icmp .ge 7, 3) := by decide +kernel
theorem dX6_why_86 : decode cX6_why 86 = .ok (.iconst 1, 1) := by decide +kernel
theorem dX6_why_87 : decode cX6_why 87 = .ok (.goto 4, 3) := by decide +kernel
theorem dX6_why_90 : decode cX6_why 90 = .ok (.iconst 2, 1) := by decide +kernel
theorem dX6_why_91 : decode cX6_why 91 = .ok (.ireturn, 1) := by decide +kernel
set_option maxRecDepth 20000 in
theorem ggX6_leastGap_X6_pairError : GoodIn wsX6_leastGap wsX6_pairError := goodIn_r _ [5, 6, 7, 8, 9, 10, 11, 12, 13, 14, 15, 16, 17, 18, 4, 19, 79, 80, 81, 82, 83, 84, 85] (by decide +kernel) (by decide +kernel)
set_option maxRecDepth 20000 in
theorem gX6_leastGap_X6_pairError : GoodIn wsX6_leastGap (wsV RX6 82 RX6 yX6_pairError wsX6_pairError) := goodIn_app (goodIn_of _ (by decide +kernel)) ggX6_leastGap_X6_pairError
set_option maxRecDepth 20000 in
theorem ggX6_leastGap_X6_gapToMesh : GoodIn wsX6_leastGap wsX6_gapToMesh := goodIn_r _ [23, 24, 6, 25, 26, 27, 28, 29, 30, 31, 32, 33, 34, 35, 36, 37, 38, 39, 40, 41, 10, 42, 43, 44, 45, 12, 13, 14, 15, 16, 46, 47, 48, 49, 50, 51, 52, 53, 54, 55, 56, 57, 58, 59, 60, 61, 62, 63, 64, 65, 66, 67, 68, 69, 70, 71, 72, 73, 74, 75, 76, 77, 78, 79, 80, 81, 82, 83, 84, 86, 87, 88, 89, 85] (by decide +kernel) (by decide +kernel)
set_option maxRecDepth 20000 in
theorem gX6_leastGap_X6_gapToMesh : GoodIn wsX6_leastGap (wsV RX6 171 RX6 yX6_gapToMesh wsX6_gapToMesh) := goodIn_app (goodIn_of _ (by decide +kernel)) ggX6_leastGap_X6_gapToMesh
theorem dX6_leastGap_0 : decode cX6_leastGap 0 = .ok (.aload_n 0, 1) := by decide +kernel
theorem dX6_leastGap_1 : decode cX6_leastGap 1 = .ok (.iload_n 1, 1) := by decide +kernel
theorem dX6_leastGap_2 : decode cX6_leastGap 2 = .ok (.iload_n 2, 1) := by decide +kernel
theorem dX6_leastGap_3 : decode cX6_leastGap 3 = .ok (.iload_n 3, 1) := by decide +kernel
theorem dX6_leastGap_4 : decode cX6_leastGap 4 = .ok (.iconst 0, 1) := by decide +kernel
theorem dX6_leastGap_5 : decode cX6_leastGap 5 = .ok (.invokevirtual 82, 3) := by decide +kernel
theorem dX6_leastGap_8 : decode cX6_leastGap 8 = .ok (.istore 4, 2) := by decide +kernel
theorem dX6_leastGap_10 : decode cX6_leastGap 10 = .ok (.iload 4, 2) := by decide +kernel
theorem dX6_leastGap_12 : decode cX6_leastGap 12 = .ok (.ifCond .eq 8, 3) := by decide +kernel
theorem dX6_leastGap_15 : decode cX6_leastGap 15 = .ok (.iload 4, 2) := by decide +kernel
theorem dX6_leastGap_17 : decode cX6_leastGap 17 = .ok (.goto 10, 3) := by decide +kernel
theorem dX6_leastGap_20 : decode cX6_leastGap 20 = .ok (.aload_n 0, 1) := by decide +kernel
theorem dX6_leastGap_21 : decode cX6_leastGap 21 = .ok (.iload_n 1, 1) := by decide +kernel
theorem dX6_leastGap_22 : decode cX6_leastGap 22 = .ok (.iload_n 2, 1) := by decide +kernel
theorem dX6_leastGap_23 : decode cX6_leastGap 23 = .ok (.iload_n 3, 1) := by decide +kernel
theorem dX6_leastGap_24 : decode cX6_leastGap 24 = .ok (.invokevirtual 171, 3) := by decide +kernel
theorem dX6_leastGap_27 : decode cX6_leastGap 27 = .ok (.ireturn, 1) := by decide +kernel
set_option maxRecDepth 20000 in
theorem ggX6_bestOffset_X6_questionError : GoodIn wsX6_bestOffset wsX6_questionError := goodIn_r _ [10, 11, 12, 13, 9, 14, 1, 15, 16, 17, 18, 19, 20, 21, 22, 23, 24, 25, 26, 27, 85, 86, 87, 88, 89, 90, 91] (by decide +kernel) (by decide +kernel)
set_option maxRecDepth 20000 in
theorem gX6_bestOffset_X6_questionError : GoodIn wsX6_bestOffset (wsV RX6 155 RX6 yX6_questionError wsX6_questionError) := goodIn_app (goodIn_of _ (by decide +kernel)) ggX6_bestOffset_X6_questionError
set_option maxRecDepth 20000 in
theorem ggX6_bestOffset_X3_teeth : GoodIn wsX6_bestOffset wsX3_teeth := goodIn_r _ [31, 32, 33, 18, 34, 20, 21, 22, 23, 24, 91] (by decide +kernel) (by decide +kernel)
set_option maxRecDepth 20000 in
theorem gX6_bestOffset_X3_teeth : GoodIn wsX6_bestOffset (wsV RX6 126 RX3 yX3_teeth wsX3_teeth) := goodIn_app (goodIn_of _ (by decide +kernel)) ggX6_bestOffset_X3_teeth
set_option maxRecDepth 20000 in
theorem ggX6_bestOffset_X6_gapToMesh : GoodIn wsX6_bestOffset wsX6_gapToMesh := goodIn_r _ [38, 39, 1, 40, 41, 4, 42, 43, 44, 45, 46, 47, 48, 3, 5, 49, 50, 51, 29, 30, 18, 31, 32, 33, 34, 20, 21, 22, 23, 24, 52, 53, 54, 55, 56, 57, 58, 59, 60, 61, 62, 63, 64, 65, 66, 67, 68, 69, 70, 71, 72, 73, 74, 75, 76, 77, 78, 79, 80, 81, 82, 83, 84, 85, 86, 87, 88, 89, 90, 92, 93, 94, 95, 91] (by decide +kernel) (by decide +kernel)
set_option maxRecDepth 20000 in
theorem gX6_bestOffset_X6_gapToMesh : GoodIn wsX6_bestOffset (wsV RX6 171 RX6 yX6_gapToMesh wsX6_gapToMesh) := goodIn_app (goodIn_of _ (by decide +kernel)) ggX6_bestOffset_X6_gapToMesh
theorem dX6_bestOffset_0 : decode cX6_bestOffset 0 = .ok (.aload_n 0, 1) := by decide +kernel
theorem dX6_bestOffset_1 : decode cX6_bestOffset 1 = .ok (.iload_n 1, 1) := by decide +kernel
theorem dX6_bestOffset_2 : decode cX6_bestOffset 2 = .ok (.iload_n 2, 1) := by decide +kernel
theorem dX6_bestOffset_3 : decode cX6_bestOffset 3 = .ok (.iconst 0, 1) := by decide +kernel
theorem dX6_bestOffset_4 : decode cX6_bestOffset 4 = .ok (.iconst 0, 1) := by decide +kernel
theorem dX6_bestOffset_5 : decode cX6_bestOffset 5 = .ok (.iload_n 3, 1) := by decide +kernel
theorem dX6_bestOffset_6 : decode cX6_bestOffset 6 = .ok (.iconst 1, 1) := by decide +kernel
theorem dX6_bestOffset_7 : decode cX6_bestOffset 7 = .ok (.invokevirtual 155, 3) := by decide +kernel
theorem dX6_bestOffset_10 : decode cX6_bestOffset 10 = .ok (.istore 4, 2) := by decide +kernel
theorem dX6_bestOffset_12 : decode cX6_bestOffset 12 = .ok (.iload 4, 2) := by decide +kernel
theorem dX6_bestOffset_14 : decode cX6_bestOffset 14 = .ok (.ifCond .eq 6, 3) := by decide +kernel
theorem dX6_bestOffset_17 : decode cX6_bestOffset 17 = .ok (.iload 4, 2) := by decide +kernel
theorem dX6_bestOffset_19 : decode cX6_bestOffset 19 = .ok (.ireturn, 1) := by decide +kernel
theorem dX6_bestOffset_20 : decode cX6_bestOffset 20 = .ok (.bipush (-6), 2) := by decide +kernel
theorem dX6_bestOffset_22 : decode cX6_bestOffset 22 = .ok (.istore 5, 2) := by decide +kernel
theorem dX6_bestOffset_24 : decode cX6_bestOffset 24 = .ok (.bipush (-6), 2) := by decide +kernel
theorem dX6_bestOffset_26 : decode cX6_bestOffset 26 = .ok (.istore 6, 2) := by decide +kernel
theorem dX6_bestOffset_28 : decode cX6_bestOffset 28 = .ok (.aload_n 0, 1) := by decide +kernel
theorem dX6_bestOffset_29 : decode cX6_bestOffset 29 = .ok (.getfield 10, 3) := by decide +kernel
theorem dX6_bestOffset_32 : decode cX6_bestOffset 32 = .ok (.iload_n 2, 1) := by decide +kernel
theorem dX6_bestOffset_33 : decode cX6_bestOffset 33 = .ok (.invokevirtual 126, 3) := by decide +kernel
theorem dX6_bestOffset_36 : decode cX6_bestOffset 36 = .ok (.bipush 24, 2) := by decide +kernel
theorem dX6_bestOffset_38 : decode cX6_bestOffset 38 = .ok (.invokestatic 174, 3) := by decide +kernel
theorem dX6_bestOffset_41 : decode cX6_bestOffset 41 = .ok (.istore 7, 2) := by decide +kernel
theorem dX6_bestOffset_43 : decode cX6_bestOffset 43 = .ok (.iconst 0, 1) := by decide +kernel
theorem dX6_bestOffset_44 : decode cX6_bestOffset 44 = .ok (.istore 8, 2) := by decide +kernel
theorem dX6_bestOffset_46 : decode cX6_bestOffset 46 = .ok (.iload 8, 2) := by decide +kernel
theorem dX6_bestOffset_48 : decode cX6_bestOffset 48 = .ok (.iload 7, 2) := by decide +kernel
theorem dX6_bestOffset_50 : decode cX6_bestOffset 50 = .ok (.if_icmp .ge 48, 3) := by decide +kernel
theorem dX6_bestOffset_53 : decode cX6_bestOffset 53 = .ok (.aload_n 0, 1) := by decide +kernel
theorem dX6_bestOffset_54 : decode cX6_bestOffset 54 = .ok (.iload_n 1, 1) := by decide +kernel
theorem dX6_bestOffset_55 : decode cX6_bestOffset 55 = .ok (.iload_n 2, 1) := by decide +kernel
theorem dX6_bestOffset_56 : decode cX6_bestOffset 56 = .ok (.iload 8, 2) := by decide +kernel
theorem dX6_bestOffset_58 : decode cX6_bestOffset 58 = .ok (.invokevirtual 171, 3) := by decide +kernel
theorem dX6_bestOffset_61 : decode cX6_bestOffset 61 = .ok (.istore 9, 2) := by decide +kernel
theorem dX6_bestOffset_63 : decode cX6_bestOffset 63 = .ok (.iload 9, 2) := by decide +kernel
theorem dX6_bestOffset_65 : decode cX6_bestOffset 65 = .ok (.bipush (-6), 2) := by decide +kernel
theorem dX6_bestOffset_67 : decode cX6_bestOffset 67 = .ok (.if_icmp .eq 25, 3) := by decide +kernel
theorem dX6_bestOffset_70 : decode cX6_bestOffset 70 = .ok (.iload 6, 2) := by decide +kernel
theorem dX6_bestOffset_72 : decode cX6_bestOffset 72 = .ok (.bipush (-6), 2) := by decide +kernel
theorem dX6_bestOffset_74 : decode cX6_bestOffset 74 = .ok (.if_icmp .eq 10, 3) := by decide +kernel
theorem dX6_bestOffset_77 : decode cX6_bestOffset 77 = .ok (.iload 9, 2) := by decide +kernel
theorem dX6_bestOffset_79 : decode cX6_bestOffset 79 = .ok (.iload 6, 2) := by decide +kernel
theorem dX6_bestOffset_81 : decode cX6_bestOffset 81 = .ok (.if_icmp .ge 11, 3) := by decide +kernel
theorem dX6_bestOffset_84 : decode cX6_bestOffset 84 = .ok (.iload 8, 2) := by decide +kernel
theorem dX6_bestOffset_86 : decode cX6_bestOffset 86 = .ok (.istore 5, 2) := by decide +kernel
theorem dX6_bestOffset_88 : decode cX6_bestOffset 88 = .ok (.iload 9, 2) := by decide +kernel
theorem dX6_bestOffset_90 : decode cX6_bestOffset 90 = .ok (.istore 6, 2) := by decide +kernel
theorem dX6_bestOffset_92 : decode cX6_bestOffset 92 = .ok (.iinc 8 1, 3) := by decide +kernel
theorem dX6_bestOffset_95 : decode cX6_bestOffset 95 = .ok (.goto (-49), 3) := by decide +kernel
theorem dX6_bestOffset_98 : decode cX6_bestOffset 98 = .ok (.iload_n 3, 1) := by decide +kernel
theorem dX6_bestOffset_99 : decode cX6_bestOffset 99 = .ok (.ifCond .ne 8, 3) := by decide +kernel
theorem dX6_bestOffset_102 : decode cX6_bestOffset 102 = .ok (.iload 5, 2) := by decide +kernel
theorem dX6_bestOffset_104 : decode cX6_bestOffset 104 = .ok (.goto 5, 3) := by decide +kernel
theorem dX6_bestOffset_107 : decode cX6_bestOffset 107 = .ok (.iload 6, 2) := by decide +kernel
theorem dX6_bestOffset_109 : decode cX6_bestOffset 109 = .ok (.ireturn, 1) := by decide +kernel
set_option maxRecDepth 20000 in
theorem ggX6_thickest_X6_pairError : GoodIn wsX6_thickest wsX6_pairError := goodIn_r _ [7, 2, 8, 9, 10, 11, 12, 13, 14, 15, 16, 17, 18, 19, 6, 20, 90, 91, 92, 93, 94, 95, 96] (by decide +kernel) (by decide +kernel)
set_option maxRecDepth 20000 in
theorem gX6_thickest_X6_pairError : GoodIn wsX6_thickest (wsV RX6 82 RX6 yX6_pairError wsX6_pairError) := goodIn_app (goodIn_of _ (by decide +kernel)) ggX6_thickest_X6_pairError
set_option maxRecDepth 20000 in
theorem ggX6_thickest_X5_lay : GoodIn wsX6_thickest wsX5_lay := goodIn_r _ [25, 26, 27, 28, 29, 30, 31, 32, 33, 34, 11, 35, 36, 37, 38, 13, 14, 15, 16, 17, 39, 40, 24, 41, 42, 43, 44, 45, 46, 47, 48, 97, 98, 99, 100, 96] (by decide +kernel) (by decide +kernel)
set_option maxRecDepth 20000 in
theorem gX6_thickest_X5_lay : GoodIn wsX6_thickest (wsV RX6 90 RX5 yX5_lay wsX5_lay) := goodIn_app (goodIn_of _ (by decide +kernel)) ggX6_thickest_X5_lay
set_option maxRecDepth 20000 in
theorem ggX6_thickest_X3_setting : GoodIn wsX6_thickest wsX3_setting := goodIn_r _ [52, 13, 14, 15, 11, 16, 17, 96] (by decide +kernel) (by decide +kernel)
set_option maxRecDepth 20000 in
theorem gX6_thickest_X3_setting : GoodIn wsX6_thickest (wsV RX6 94 RX3 yX3_setting wsX3_setting) := goodIn_app (goodIn_of _ (by decide +kernel)) ggX6_thickest_X3_setting
set_option maxRecDepth 20000 in
theorem ggX6_thickest_X5_meshes : GoodIn wsX6_thickest wsX5_meshes := goodIn_r _ [56, 57, 58, 59, 24, 60, 30, 61, 62, 63, 64, 31, 65, 66, 67, 68, 69, 70, 28, 71, 97, 98, 99, 100] (by decide +kernel) (by decide +kernel)
set_option maxRecDepth 20000 in
theorem gX6_thickest_X5_meshes : GoodIn wsX6_thickest (wsV RX6 97 RX5 yX5_meshes wsX5_meshes) := goodIn_app (goodIn_of _ (by decide +kernel)) ggX6_thickest_X5_meshes
set_option maxRecDepth 20000 in
theorem ggX6_thickest_X5_begin : GoodIn wsX6_thickest wsX5_begin := goodIn_r _ [75, 76, 77, 97, 98, 99, 100] (by decide +kernel) (by decide +kernel)
set_option maxRecDepth 20000 in
theorem gX6_thickest_X5_begin : GoodIn wsX6_thickest (wsV RX6 101 RX5 yX5_begin wsX5_begin) := goodIn_app (goodIn_of _ (by decide +kernel)) ggX6_thickest_X5_begin
set_option maxRecDepth 20000 in
theorem ggX6_thickest_X5_length : GoodIn wsX6_thickest wsX5_length := goodIn_r _ [81, 30, 97, 98, 99, 100] (by decide +kernel) (by decide +kernel)
set_option maxRecDepth 20000 in
theorem gX6_thickest_X5_length : GoodIn wsX6_thickest (wsV RX6 158 RX5 yX5_length wsX5_length) := goodIn_app (goodIn_of _ (by decide +kernel)) ggX6_thickest_X5_length
set_option maxRecDepth 20000 in
theorem ggX6_thickest_X3_cell : GoodIn wsX6_thickest wsX3_cell := goodIn_r _ [16, 17, 96] (by decide +kernel) (by decide +kernel)
set_option maxRecDepth 20000 in
theorem gX6_thickest_X3_cell : GoodIn wsX6_thickest (wsV RX6 104 RX3 yX3_cell wsX3_cell) := goodIn_app (goodIn_of _ (by decide +kernel)) ggX6_thickest_X3_cell
set_option maxRecDepth 20000 in
theorem ggX6_thickest_X5_tears : GoodIn wsX6_thickest wsX5_tears := goodIn_r _ [86, 76, 87, 88, 28, 89, 30, 77, 69, 70, 71, 61, 62, 63, 24, 64, 31, 46, 47, 48, 97, 98, 99, 100] (by decide +kernel) (by decide +kernel)
set_option maxRecDepth 20000 in
theorem gX6_thickest_X5_tears : GoodIn wsX6_thickest (wsV RX6 107 RX5 yX5_tears wsX5_tears) := goodIn_app (goodIn_of _ (by decide +kernel)) ggX6_thickest_X5_tears
theorem dX6_thickest_0 : decode cX6_thickest 0 = .ok (.aload_n 0, 1) := by decide +kernel
theorem dX6_thickest_1 : decode cX6_thickest 1 = .ok (.iload_n 1, 1) := by decide +kernel
theorem dX6_thickest_2 : decode cX6_thickest 2 = .ok (.iload_n 2, 1) := by decide +kernel
theorem dX6_thickest_3 : decode cX6_thickest 3 = .ok (.iload_n 3, 1) := by decide +kernel
theorem dX6_thickest_4 : decode cX6_thickest 4 = .ok (.iload 4, 2) := by decide +kernel
theorem dX6_thickest_6 : decode cX6_thickest 6 = .ok (.invokevirtual 82, 3) := by decide +kernel
theorem dX6_thickest_9 : decode cX6_thickest 9 = .ok (.istore 5, 2) := by decide +kernel
theorem dX6_thickest_11 : decode cX6_thickest 11 = .ok (.iload 5, 2) := by decide +kernel
theorem dX6_thickest_13 : decode cX6_thickest 13 = .ok (.ifCond .eq 6, 3) := by decide +kernel
theorem dX6_thickest_16 : decode cX6_thickest 16 = .ok (.iload 5, 2) := by decide +kernel
theorem dX6_thickest_18 : decode cX6_thickest 18 = .ok (.ireturn, 1) := by decide +kernel
theorem dX6_thickest_19 : decode cX6_thickest 19 = .ok (.aload_n 0, 1) := by decide +kernel
theorem dX6_thickest_20 : decode cX6_thickest 20 = .ok (.getfield 49, 3) := by decide +kernel
theorem dX6_thickest_23 : decode cX6_thickest 23 = .ok (.aload_n 0, 1) := by decide +kernel
theorem dX6_thickest_24 : decode cX6_thickest 24 = .ok (.getfield 10, 3) := by decide +kernel
theorem dX6_thickest_27 : decode cX6_thickest 27 = .ok (.iload_n 1, 1) := by decide +kernel
theorem dX6_thickest_28 : decode cX6_thickest 28 = .ok (.iload_n 2, 1) := by decide +kernel
theorem dX6_thickest_29 : decode cX6_thickest 29 = .ok (.iload_n 3, 1) := by decide +kernel
theorem dX6_thickest_30 : decode cX6_thickest 30 = .ok (.iload 4, 2) := by decide +kernel
theorem dX6_thickest_32 : decode cX6_thickest 32 = .ok (.invokevirtual 90, 3) := by decide +kernel
theorem dX6_thickest_35 : decode cX6_thickest 35 = .ok (.aload_n 0, 1) := by decide +kernel
theorem dX6_thickest_36 : decode cX6_thickest 36 = .ok (.getfield 49, 3) := by decide +kernel
theorem dX6_thickest_39 : decode cX6_thickest 39 = .ok (.aload_n 0, 1) := by decide +kernel
theorem dX6_thickest_40 : decode cX6_thickest 40 = .ok (.getfield 10, 3) := by decide +kernel
theorem dX6_thickest_43 : decode cX6_thickest 43 = .ok (.iconst 0, 1) := by decide +kernel
theorem dX6_thickest_44 : decode cX6_thickest 44 = .ok (.invokevirtual 94, 3) := by decide +kernel
theorem dX6_thickest_47 : decode cX6_thickest 47 = .ok (.invokevirtual 97, 3) := by decide +kernel
theorem dX6_thickest_50 : decode cX6_thickest 50 = .ok (.ifCond .ne 6, 3) := by decide +kernel
theorem dX6_thickest_53 : decode cX6_thickest 53 = .ok (.bipush (-6), 2) := by decide +kernel
theorem dX6_thickest_55 : decode cX6_thickest 55 = .ok (.ireturn, 1) := by decide +kernel
theorem dX6_thickest_56 : decode cX6_thickest 56 = .ok (.bipush 30, 2) := by decide +kernel
theorem dX6_thickest_58 : decode cX6_thickest 58 = .ok (.istore 6, 2) := by decide +kernel
theorem dX6_thickest_60 : decode cX6_thickest 60 = .ok (.iload 6, 2) := by decide +kernel
theorem dX6_thickest_62 : decode cX6_thickest 62 = .ok (.iconst 1, 1) := by decide +kernel
theorem dX6_thickest_63 : decode cX6_thickest 63 = .ok (.if_icmp .lt 54, 3) := by decide +kernel
theorem dX6_thickest_66 : decode cX6_thickest 66 = .ok (.aload_n 0, 1) := by decide +kernel
theorem dX6_thickest_67 : decode cX6_thickest 67 = .ok (.getfield 49, 3) := by decide +kernel
theorem dX6_thickest_70 : decode cX6_thickest 70 = .ok (.invokevirtual 101, 3) := by decide +kernel
theorem dX6_thickest_73 : decode cX6_thickest 73 = .ok (.aload_n 0, 1) := by decide +kernel
theorem dX6_thickest_74 : decode cX6_thickest 74 = .ok (.getfield 49, 3) := by decide +kernel
theorem dX6_thickest_77 : decode cX6_thickest 77 = .ok (.aload_n 0, 1) := by decide +kernel
theorem dX6_thickest_78 : decode cX6_thickest 78 = .ok (.getfield 49, 3) := by decide +kernel
theorem dX6_thickest_81 : decode cX6_thickest 81 = .ok (.invokevirtual 158, 3) := by decide +kernel
theorem dX6_thickest_84 : decode cX6_thickest 84 = .ok (.iload 6, 2) := by decide +kernel
theorem dX6_thickest_86 : decode cX6_thickest 86 = .ok (.aload_n 0, 1) := by decide +kernel
theorem dX6_thickest_87 : decode cX6_thickest 87 = .ok (.getfield 10, 3) := by decide +kernel
theorem dX6_thickest_90 : decode cX6_thickest 90 = .ok (.iconst 2, 1) := by decide +kernel
theorem dX6_thickest_91 : decode cX6_thickest 91 = .ok (.invokevirtual 104, 3) := by decide +kernel
theorem dX6_thickest_94 : decode cX6_thickest 94 = .ok (.aload_n 0, 1) := by decide +kernel
theorem dX6_thickest_95 : decode cX6_thickest 95 = .ok (.getfield 10, 3) := by decide +kernel
theorem dX6_thickest_98 : decode cX6_thickest 98 = .ok (.iconst 1, 1) := by decide +kernel
theorem dX6_thickest_99 : decode cX6_thickest 99 = .ok (.invokevirtual 94, 3) := by decide +kernel
theorem dX6_thickest_102 : decode cX6_thickest 102 = .ok (.invokevirtual 107, 3) := by decide +kernel
theorem dX6_thickest_105 : decode cX6_thickest 105 = .ok (.ifCond .ne 6, 3) := by decide +kernel
theorem dX6_thickest_108 : decode cX6_thickest 108 = .ok (.iload 6, 2) := by decide +kernel
theorem dX6_thickest_110 : decode cX6_thickest 110 = .ok (.ireturn, 1) := by decide +kernel
theorem dX6_thickest_111 : decode cX6_thickest 111 = .ok (.iinc 6 (-1), 3) := by decide +kernel
theorem dX6_thickest_114 : decode cX6_thickest 114 = .ok (.goto (-54), 3) := by decide +kernel
theorem dX6_thickest_117 : decode cX6_thickest 117 = .ok (.bipush (-6), 2) := by decide +kernel
theorem dX6_thickest_119 : decode cX6_thickest 119 = .ok (.ireturn, 1) := by decide +kernel
set_option maxRecDepth 20000 in
theorem ggX6_gapToMesh_X5_lay : GoodIn wsX6_gapToMesh wsX5_lay := goodIn_r _ [11, 12, 13, 5, 14, 15, 16, 17, 18, 19, 20, 21, 22, 23, 24, 25, 26, 27, 28, 29, 30, 31, 10, 32, 33, 34, 35, 36, 37, 38, 39, 69, 70, 71, 72, 73] (by decide +kernel) (by decide +kernel)
set_option maxRecDepth 20000 in
theorem gX6_gapToMesh_X5_lay : GoodIn wsX6_gapToMesh (wsV RX6 90 RX5 yX5_lay wsX5_lay) := goodIn_app (goodIn_of _ (by decide +kernel)) ggX6_gapToMesh_X5_lay
set_option maxRecDepth 20000 in
theorem ggX6_gapToMesh_X3_setting : GoodIn wsX6_gapToMesh wsX3_setting := goodIn_r _ [43, 25, 26, 27, 20, 28, 29, 73] (by decide +kernel) (by decide +kernel)
set_option maxRecDepth 20000 in
theorem gX6_gapToMesh_X3_setting : GoodIn wsX6_gapToMesh (wsV RX6 94 RX3 yX3_setting wsX3_setting) := goodIn_app (goodIn_of _ (by decide +kernel)) ggX6_gapToMesh_X3_setting
set_option maxRecDepth 20000 in
theorem ggX6_gapToMesh_X5_isSmooth : GoodIn wsX6_gapToMesh wsX5_isSmooth := goodIn_r _ [47, 15, 48, 49, 50, 10, 51, 52, 53, 5, 54, 55, 56, 57, 58, 16, 69, 70, 71, 72] (by decide +kernel) (by decide +kernel)
set_option maxRecDepth 20000 in
theorem gX6_gapToMesh_X5_isSmooth : GoodIn wsX6_gapToMesh (wsV RX6 179 RX5 yX5_isSmooth wsX5_isSmooth) := goodIn_app (goodIn_of _ (by decide +kernel)) ggX6_gapToMesh_X5_isSmooth
set_option maxRecDepth 20000 in
theorem ggX6_gapToMesh_X5_leastPress : GoodIn wsX6_gapToMesh wsX5_leastPress := goodIn_r _ [62, 15, 12, 13, 5, 14, 55, 56, 57, 10, 58, 16, 69, 70, 71, 72] (by decide +kernel) (by decide +kernel)
set_option maxRecDepth 20000 in
theorem gX6_gapToMesh_X5_leastPress : GoodIn wsX6_gapToMesh (wsV RX6 159 RX5 yX5_leastPress wsX5_leastPress) := goodIn_app (goodIn_of _ (by decide +kernel)) ggX6_gapToMesh_X5_leastPress
theorem dX6_gapToMesh_0 : decode cX6_gapToMesh 0 = .ok (.aload_n 0, 1) := by decide +kernel
theorem dX6_gapToMesh_1 : decode cX6_gapToMesh 1 = .ok (.getfield 49, 3) := by decide +kernel
theorem dX6_gapToMesh_4 : decode cX6_gapToMesh 4 = .ok (.aload_n 0, 1) := by decide +kernel
theorem dX6_gapToMesh_5 : decode cX6_gapToMesh 5 = .ok (.getfield 10, 3) := by decide +kernel
theorem dX6_gapToMesh_8 : decode cX6_gapToMesh 8 = .ok (.iload_n 1, 1) := by decide +kernel
theorem dX6_gapToMesh_9 : decode cX6_gapToMesh 9 = .ok (.iload_n 2, 1) := by decide +kernel
theorem dX6_gapToMesh_10 : decode cX6_gapToMesh 10 = .ok (.iload_n 3, 1) := by decide +kernel
theorem dX6_gapToMesh_11 : decode cX6_gapToMesh 11 = .ok (.iconst 0, 1) := by decide +kernel
theorem dX6_gapToMesh_12 : decode cX6_gapToMesh 12 = .ok (.invokevirtual 90, 3) := by decide +kernel
theorem dX6_gapToMesh_15 : decode cX6_gapToMesh 15 = .ok (.aload_n 0, 1) := by decide +kernel
theorem dX6_gapToMesh_16 : decode cX6_gapToMesh 16 = .ok (.getfield 49, 3) := by decide +kernel
theorem dX6_gapToMesh_19 : decode cX6_gapToMesh 19 = .ok (.aload_n 0, 1) := by decide +kernel
theorem dX6_gapToMesh_20 : decode cX6_gapToMesh 20 = .ok (.getfield 10, 3) := by decide +kernel
theorem dX6_gapToMesh_23 : decode cX6_gapToMesh 23 = .ok (.iconst 0, 1) := by decide +kernel
theorem dX6_gapToMesh_24 : decode cX6_gapToMesh 24 = .ok (.invokevirtual 94, 3) := by decide +kernel
theorem dX6_gapToMesh_27 : decode cX6_gapToMesh 27 = .ok (.invokevirtual 179, 3) := by decide +kernel
theorem dX6_gapToMesh_30 : decode cX6_gapToMesh 30 = .ok (.ifCond .ne 6, 3) := by decide +kernel
theorem dX6_gapToMesh_33 : decode cX6_gapToMesh 33 = .ok (.bipush (-6), 2) := by decide +kernel
theorem dX6_gapToMesh_35 : decode cX6_gapToMesh 35 = .ok (.ireturn, 1) := by decide +kernel
theorem dX6_gapToMesh_36 : decode cX6_gapToMesh 36 = .ok (.iconst 0, 1) := by decide +kernel
theorem dX6_gapToMesh_37 : decode cX6_gapToMesh 37 = .ok (.iconst 1, 1) := by decide +kernel
theorem dX6_gapToMesh_38 : decode cX6_gapToMesh 38 = .ok (.aload_n 0, 1) := by decide +kernel
theorem dX6_gapToMesh_39 : decode cX6_gapToMesh 39 = .ok (.getfield 49, 3) := by decide +kernel
theorem dX6_gapToMesh_42 : decode cX6_gapToMesh 42 = .ok (.invokevirtual 159, 3) := by decide +kernel
theorem dX6_gapToMesh_45 : decode cX6_gapToMesh 45 = .ok (.isub, 1) := by decide +kernel
theorem dX6_gapToMesh_46 : decode cX6_gapToMesh 46 = .ok (.invokestatic 182, 3) := by decide +kernel
theorem dX6_gapToMesh_49 : decode cX6_gapToMesh 49 = .ok (.istore 4, 2) := by decide +kernel
theorem dX6_gapToMesh_51 : decode cX6_gapToMesh 51 = .ok (.iload 4, 2) := by decide +kernel
theorem dX6_gapToMesh_53 : decode cX6_gapToMesh 53 = .ok (.bipush 30, 2) := by decide +kernel
theorem dX6_gapToMesh_55 : decode cX6_gapToMesh 55 = .ok (.if_icmp .gt 8, 3) := by decide +kernel
theorem dX6_gapToMesh_58 : decode cX6_gapToMesh 58 = .ok (.iload 4, 2) := by decide +kernel
theorem dX6_gapToMesh_60 : decode cX6_gapToMesh 60 = .ok (.goto 5, 3) := by decide +kernel
theorem dX6_gapToMesh_63 : decode cX6_gapToMesh 63 = .ok (.bipush (-6), 2) := by decide +kernel
theorem dX6_gapToMesh_65 : decode cX6_gapToMesh 65 = .ok (.ireturn, 1) := by decide +kernel
set_option maxRecDepth 20000 in
theorem ggX6_questionError_X6_pairError : GoodIn wsX6_questionError wsX6_pairError := goodIn_r _ [5, 6, 7, 8, 9, 10, 11, 12, 13, 14, 15, 16, 17, 18, 4, 19, 20, 21, 22, 23, 24, 25, 26] (by decide +kernel) (by decide +kernel)
set_option maxRecDepth 20000 in
theorem gX6_questionError_X6_pairError : GoodIn wsX6_questionError (wsV RX6 82 RX6 yX6_pairError wsX6_pairError) := goodIn_app (goodIn_of _ (by decide +kernel)) ggX6_questionError_X6_pairError
set_option maxRecDepth 20000 in
theorem ggX6_questionError_X6_outside : GoodIn wsX6_questionError wsX6_outside := goodIn_r _ [19] (by decide +kernel) (by decide +kernel)
set_option maxRecDepth 20000 in
theorem gX6_questionError_X6_outside : GoodIn wsX6_questionError (va_wsS RX6 86 yX6_outside wsX6_outside) := goodIn_app (goodIn_of _ (by decide +kernel)) ggX6_questionError_X6_outside
theorem dX6_questionError_0 : decode cX6_questionError 0 = .ok (.aload_n 0, 1) := by decide +kernel
theorem dX6_questionError_1 : decode cX6_questionError 1 = .ok (.iload_n 1, 1) := by decide +kernel
theorem dX6_questionError_2 : decode cX6_questionError 2 = .ok (.iload_n 2, 1) := by decide +kernel
