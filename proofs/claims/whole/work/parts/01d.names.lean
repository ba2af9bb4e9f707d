theorem dX7_isSetting_43 : decode cX7_isSetting 43 = .ok (.ireturn, 1) := by decide +kernel
theorem dX7_isSetting_44 : decode cX7_isSetting 44 = .ok (.iconst 0, 1) := by decide +kernel
theorem dX7_isSetting_45 : decode cX7_isSetting 45 = .ok (.ireturn, 1) := by decide +kernel
set_option maxRecDepth 20000 in
theorem ggX7_set_X7_isSetting : GoodIn wsX7_set wsX7_isSetting := goodIn_r _ [5, 6, 7, 4, 8] (by decide +kernel) (by decide +kernel)
set_option maxRecDepth 20000 in
theorem gX7_set_X7_isSetting : GoodIn wsX7_set (va_wsS RX7 76 yX7_isSetting wsX7_isSetting) := goodIn_app (goodIn_of _ (by decide +kernel)) ggX7_set_X7_isSetting
set_option maxRecDepth 20000 in
theorem ggX7_set_X7_records : GoodIn wsX7_set wsX7_records := goodIn_r _ [12, 13, 14, 1, 15, 16, 4, 17, 18, 19, 20, 21, 22, 23, 24, 25, 26, 27, 28] (by decide +kernel) (by decide +kernel)
set_option maxRecDepth 20000 in
theorem gX7_set_X7_records : GoodIn wsX7_set (wsV RX7 79 RX7 yX7_records wsX7_records) := goodIn_app (goodIn_of _ (by decide +kernel)) ggX7_set_X7_records
theorem dX7_set_0 : decode cX7_set 0 = .ok (.iload_n 1, 1) := by decide +kernel
theorem dX7_set_1 : decode cX7_set 1 = .ok (.iload_n 2, 1) := by decide +kernel
theorem dX7_set_2 : decode cX7_set 2 = .ok (.invokestatic 76, 3) := by decide +kernel
theorem dX7_set_5 : decode cX7_set 5 = .ok (.ifCond .ne 6, 3) := by decide +kernel
theorem dX7_set_8 : decode cX7_set 8 = .ok (.bipush (-2), 2) := by decide +kernel
theorem dX7_set_10 : decode cX7_set 10 = .ok (.ireturn, 1) := by decide +kernel
theorem dX7_set_11 : decode cX7_set 11 = .ok (.aload_n 0, 1) := by decide +kernel
theorem dX7_set_12 : decode cX7_set 12 = .ok (.invokevirtual 79, 3) := by decide +kernel
theorem dX7_set_15 : decode cX7_set 15 = .ok (.aload_n 0, 1) := by decide +kernel
theorem dX7_set_16 : decode cX7_set 16 = .ok (.getfield 7, 3) := by decide +kernel
theorem dX7_set_19 : decode cX7_set 19 = .ok (.iconst 0, 1) := by decide +kernel
theorem dX7_set_20 : decode cX7_set 20 = .ok (.iload_n 1, 1) := by decide +kernel
theorem dX7_set_21 : decode cX7_set 21 = .ok (.iadd, 1) := by decide +kernel
theorem dX7_set_22 : decode cX7_set 22 = .ok (.iaload, 1) := by decide +kernel
theorem dX7_set_23 : decode cX7_set 23 = .ok (.istore_n 3, 1) := by decide +kernel
theorem dX7_set_24 : decode cX7_set 24 = .ok (.aload_n 0, 1) := by decide +kernel
theorem dX7_set_25 : decode cX7_set 25 = .ok (.getfield 7, 3) := by decide +kernel
theorem dX7_set_28 : decode cX7_set 28 = .ok (.iconst 0, 1) := by decide +kernel
theorem dX7_set_29 : decode cX7_set 29 = .ok (.iload_n 1, 1) := by decide +kernel
theorem dX7_set_30 : decode cX7_set 30 = .ok (.iadd, 1) := by decide +kernel
theorem dX7_set_31 : decode cX7_set 31 = .ok (.iload_n 2, 1) := by decide +kernel
theorem dX7_set_32 : decode cX7_set 32 = .ok (.iastore, 1) := by decide +kernel
theorem dX7_set_33 : decode cX7_set 33 = .ok (.iload_n 3, 1) := by decide +kernel
theorem dX7_set_34 : decode cX7_set 34 = .ok (.ireturn, 1) := by decide +kernel
theorem dX7_comes_0 : decode cX7_comes 0 = .ok (.bipush 9, 2) := by decide +kernel
theorem dX7_comes_2 : decode cX7_comes 2 = .ok (.bipush 27, 2) := by decide +kernel
theorem dX7_comes_4 : decode cX7_comes 4 = .ok (.aload_n 0, 1) := by decide +kernel
theorem dX7_comes_5 : decode cX7_comes 5 = .ok (.getfield 7, 3) := by decide +kernel
theorem dX7_comes_8 : decode cX7_comes 8 = .ok (.iconst 3, 1) := by decide +kernel
theorem dX7_comes_9 : decode cX7_comes 9 = .ok (.iaload, 1) := by decide +kernel
theorem dX7_comes_10 : decode cX7_comes 10 = .ok (.imul, 1) := by decide +kernel
theorem dX7_comes_11 : decode cX7_comes 11 = .ok (.iadd, 1) := by decide +kernel
theorem dX7_comes_12 : decode cX7_comes 12 = .ok (.istore_n 2, 1) := by decide +kernel
theorem dX7_comes_13 : decode cX7_comes 13 = .ok (.iconst 0, 1) := by decide +kernel
theorem dX7_comes_14 : decode cX7_comes 14 = .ok (.istore_n 3, 1) := by decide +kernel
theorem dX7_comes_15 : decode cX7_comes 15 = .ok (.iload_n 3, 1) := by decide +kernel
theorem dX7_comes_16 : decode cX7_comes 16 = .ok (.bipush 27, 2) := by decide +kernel
theorem dX7_comes_18 : decode cX7_comes 18 = .ok (.if_icmp .ge 18, 3) := by decide +kernel
theorem dX7_comes_21 : decode cX7_comes 21 = .ok (.aload_n 0, 1) := by decide +kernel
theorem dX7_comes_22 : decode cX7_comes 22 = .ok (.getfield 7, 3) := by decide +kernel
theorem dX7_comes_25 : decode cX7_comes 25 = .ok (.iload_n 2, 1) := by decide +kernel
theorem dX7_comes_26 : decode cX7_comes 26 = .ok (.iload_n 3, 1) := by decide +kernel
theorem dX7_comes_27 : decode cX7_comes 27 = .ok (.iadd, 1) := by decide +kernel
theorem dX7_comes_28 : decode cX7_comes 28 = .ok (.iconst 0, 1) := by decide +kernel
theorem dX7_comes_29 : decode cX7_comes 29 = .ok (.iastore, 1) := by decide +kernel
theorem dX7_comes_30 : decode cX7_comes 30 = .ok (.iinc 3 1, 3) := by decide +kernel
theorem dX7_comes_33 : decode cX7_comes 33 = .ok (.goto (-18), 3) := by decide +kernel
theorem dX7_comes_36 : decode cX7_comes 36 = .ok (.aload_n 0, 1) := by decide +kernel
theorem dX7_comes_37 : decode cX7_comes 37 = .ok (.getfield 7, 3) := by decide +kernel
theorem dX7_comes_40 : decode cX7_comes 40 = .ok (.iload_n 2, 1) := by decide +kernel
theorem dX7_comes_41 : decode cX7_comes 41 = .ok (.iconst 0, 1) := by decide +kernel
theorem dX7_comes_42 : decode cX7_comes 42 = .ok (.iadd, 1) := by decide +kernel
theorem dX7_comes_43 : decode cX7_comes 43 = .ok (.iload_n 1, 1) := by decide +kernel
theorem dX7_comes_44 : decode cX7_comes 44 = .ok (.iastore, 1) := by decide +kernel
theorem dX7_comes_45 : decode cX7_comes 45 = .ok (.aload_n 0, 1) := by decide +kernel
theorem dX7_comes_46 : decode cX7_comes 46 = .ok (.getfield 7, 3) := by decide +kernel
theorem dX7_comes_49 : decode cX7_comes 49 = .ok (.iconst 3, 1) := by decide +kernel
theorem dX7_comes_50 : decode cX7_comes 50 = .ok (.dup2, 1) := by decide +kernel
theorem dX7_comes_51 : decode cX7_comes 51 = .ok (.iaload, 1) := by decide +kernel
theorem dX7_comes_52 : decode cX7_comes 52 = .ok (.iconst 1, 1) := by decide +kernel
theorem dX7_comes_53 : decode cX7_comes 53 = .ok (.iadd, 1) := by decide +kernel
theorem dX7_comes_54 : decode cX7_comes 54 = .ok (.iastore, 1) := by decide +kernel
theorem dX7_comes_55 : decode cX7_comes 55 = .ok (.aload_n 0, 1) := by decide +kernel
theorem dX7_comes_56 : decode cX7_comes 56 = .ok (.getfield 7, 3) := by decide +kernel
theorem dX7_comes_59 : decode cX7_comes 59 = .ok (.iconst 3, 1) := by decide +kernel
theorem dX7_comes_60 : decode cX7_comes 60 = .ok (.iaload, 1) := by decide +kernel
theorem dX7_comes_61 : decode cX7_comes 61 = .ok (.iconst 1, 1) := by decide +kernel
theorem dX7_comes_62 : decode cX7_comes 62 = .ok (.isub, 1) := by decide +kernel
theorem dX7_comes_63 : decode cX7_comes 63 = .ok (.ireturn, 1) := by decide +kernel
set_option maxRecDepth 20000 in
theorem ggX7_roller_X7_in : GoodIn wsX7_roller wsX7_in := goodIn_r _ [5] (by decide +kernel) (by decide +kernel)
set_option maxRecDepth 20000 in
theorem gX7_roller_X7_in : GoodIn wsX7_roller (va_wsS RX7 37 yX7_in wsX7_in) := goodIn_app (goodIn_of _ (by decide +kernel)) ggX7_roller_X7_in
set_option maxRecDepth 20000 in
theorem ggX7_roller_X7_isHeight : GoodIn wsX7_roller wsX7_isHeight := goodIn_r _ [8, 2, 3, 4, 5] (by decide +kernel) (by decide +kernel)
set_option maxRecDepth 20000 in
theorem gX7_roller_X7_isHeight : GoodIn wsX7_roller (va_wsS RX7 82 yX7_isHeight wsX7_isHeight) := goodIn_app (goodIn_of _ (by decide +kernel)) ggX7_roller_X7_isHeight
set_option maxRecDepth 20000 in
theorem ggX7_roller_X7_records : GoodIn wsX7_roller wsX7_records := goodIn_r _ [12, 13, 14, 1, 15, 16, 4, 17, 22, 23, 24, 25, 26, 27, 28, 29, 30, 31, 32] (by decide +kernel) (by decide +kernel)
set_option maxRecDepth 20000 in
theorem gX7_roller_X7_records : GoodIn wsX7_roller (wsV RX7 79 RX7 yX7_records wsX7_records) := goodIn_app (goodIn_of _ (by decide +kernel)) ggX7_roller_X7_records
set_option maxRecDepth 20000 in
theorem ggX7_roller_X7_comes : GoodIn wsX7_roller wsX7_comes := goodIn_r _ [21, 1, 22, 23, 24, 25, 26, 27, 28, 29, 30, 31, 32] (by decide +kernel) (by decide +kernel)
set_option maxRecDepth 20000 in
theorem gX7_roller_X7_comes : GoodIn wsX7_roller (wsV RX7 85 RX7 yX7_comes wsX7_comes) := goodIn_app (goodIn_of _ (by decide +kernel)) ggX7_roller_X7_comes
theorem dX7_roller_0 : decode cX7_roller 0 = .ok (.iload_n 1, 1) := by decide +kernel
theorem dX7_roller_1 : decode cX7_roller 1 = .ok (.iconst 2, 1) := by decide +kernel
theorem dX7_roller_2 : decode cX7_roller 2 = .ok (.bipush 24, 2) := by decide +kernel
theorem dX7_roller_4 : decode cX7_roller 4 = .ok (.invokestatic 37, 3) := by decide +kernel
theorem dX7_roller_7 : decode cX7_roller 7 = .ok (.ifCond .eq 10, 3) := by decide +kernel
theorem dX7_roller_10 : decode cX7_roller 10 = .ok (.iload_n 2, 1) := by decide +kernel
theorem dX7_roller_11 : decode cX7_roller 11 = .ok (.invokestatic 82, 3) := by decide +kernel
theorem dX7_roller_14 : decode cX7_roller 14 = .ok (.ifCond .ne 6, 3) := by decide +kernel
theorem dX7_roller_17 : decode cX7_roller 17 = .ok (.bipush (-2), 2) := by decide +kernel
theorem dX7_roller_19 : decode cX7_roller 19 = .ok (.ireturn, 1) := by decide +kernel
theorem dX7_roller_20 : decode cX7_roller 20 = .ok (.aload_n 0, 1) := by decide +kernel
theorem dX7_roller_21 : decode cX7_roller 21 = .ok (.getfield 7, 3) := by decide +kernel
theorem dX7_roller_24 : decode cX7_roller 24 = .ok (.iconst 3, 1) := by decide +kernel
theorem dX7_roller_25 : decode cX7_roller 25 = .ok (.iaload, 1) := by decide +kernel
theorem dX7_roller_26 : decode cX7_roller 26 = .ok (.bipush 8, 2) := by decide +kernel
theorem dX7_roller_28 : decode cX7_roller 28 = .ok (.if_icmp .ne 6, 3) := by decide +kernel
theorem dX7_roller_31 : decode cX7_roller 31 = .ok (.bipush (-4), 2) := by decide +kernel
theorem dX7_roller_33 : decode cX7_roller 33 = .ok (.ireturn, 1) := by decide +kernel
theorem dX7_roller_34 : decode cX7_roller 34 = .ok (.aload_n 0, 1) := by decide +kernel
theorem dX7_roller_35 : decode cX7_roller 35 = .ok (.invokevirtual 79, 3) := by decide +kernel
theorem dX7_roller_38 : decode cX7_roller 38 = .ok (.aload_n 0, 1) := by decide +kernel
theorem dX7_roller_39 : decode cX7_roller 39 = .ok (.iload_n 1, 1) := by decide +kernel
theorem dX7_roller_40 : decode cX7_roller 40 = .ok (.invokevirtual 85, 3) := by decide +kernel
theorem dX7_roller_43 : decode cX7_roller 43 = .ok (.istore_n 3, 1) := by decide +kernel
theorem dX7_roller_44 : decode cX7_roller 44 = .ok (.iconst 0, 1) := by decide +kernel
theorem dX7_roller_45 : decode cX7_roller 45 = .ok (.istore 4, 2) := by decide +kernel
theorem dX7_roller_47 : decode cX7_roller 47 = .ok (.iload 4, 2) := by decide +kernel
theorem dX7_roller_49 : decode cX7_roller 49 = .ok (.iload_n 1, 1) := by decide +kernel
theorem dX7_roller_50 : decode cX7_roller 50 = .ok (.if_icmp .ge 27, 3) := by decide +kernel
theorem dX7_roller_53 : decode cX7_roller 53 = .ok (.aload_n 0, 1) := by decide +kernel
theorem dX7_roller_54 : decode cX7_roller 54 = .ok (.getfield 7, 3) := by decide +kernel
theorem dX7_roller_57 : decode cX7_roller 57 = .ok (.bipush 9, 2) := by decide +kernel
theorem dX7_roller_59 : decode cX7_roller 59 = .ok (.bipush 27, 2) := by decide +kernel
theorem dX7_roller_61 : decode cX7_roller 61 = .ok (.iload_n 3, 1) := by decide +kernel
theorem dX7_roller_62 : decode cX7_roller 62 = .ok (.imul, 1) := by decide +kernel
theorem dX7_roller_63 : decode cX7_roller 63 = .ok (.iadd, 1) := by decide +kernel
theorem dX7_roller_64 : decode cX7_roller 64 = .ok (.iconst 3, 1) := by decide +kernel
theorem dX7_roller_65 : decode cX7_roller 65 = .ok (.iadd, 1) := by decide +kernel
theorem dX7_roller_66 : decode cX7_roller 66 = .ok (.iload 4, 2) := by decide +kernel
theorem dX7_roller_68 : decode cX7_roller 68 = .ok (.iadd, 1) := by decide +kernel
theorem dX7_roller_69 : decode cX7_roller 69 = .ok (.iload_n 2, 1) := by decide +kernel
theorem dX7_roller_70 : decode cX7_roller 70 = .ok (.iastore, 1) := by decide +kernel
theorem dX7_roller_71 : decode cX7_roller 71 = .ok (.iinc 4 1, 3) := by decide +kernel
theorem dX7_roller_74 : decode cX7_roller 74 = .ok (.goto (-27), 3) := by decide +kernel
theorem dX7_roller_77 : decode cX7_roller 77 = .ok (.iload_n 3, 1) := by decide +kernel
theorem dX7_roller_78 : decode cX7_roller 78 = .ok (.ireturn, 1) := by decide +kernel
set_option maxRecDepth 20000 in
theorem ggX7_isTooth_X7_isRoller : GoodIn wsX7_isTooth wsX7_isRoller := goodIn_r _ [5, 6, 7, 8, 4, 9, 14, 15, 16, 17, 18, 19, 20, 21, 22, 23, 24] (by decide +kernel) (by decide +kernel)
set_option maxRecDepth 20000 in
theorem gX7_isTooth_X7_isRoller : GoodIn wsX7_isTooth (wsV RX7 41 RX7 yX7_isRoller wsX7_isRoller) := goodIn_app (goodIn_of _ (by decide +kernel)) ggX7_isTooth_X7_isRoller
set_option maxRecDepth 20000 in
theorem ggX7_isTooth_X7_ofR : GoodIn wsX7_isTooth wsX7_ofR := goodIn_r _ [13, 6, 14, 15, 16, 17, 18, 19, 20, 21, 22, 23, 24] (by decide +kernel) (by decide +kernel)
set_option maxRecDepth 20000 in
theorem gX7_isTooth_X7_ofR : GoodIn wsX7_isTooth (wsV RX7 45 RX7 yX7_ofR wsX7_ofR) := goodIn_app (goodIn_of _ (by decide +kernel)) ggX7_isTooth_X7_ofR
set_option maxRecDepth 20000 in
theorem ggX7_isTooth_X7_in : GoodIn wsX7_isTooth wsX7_in := goodIn_r _ [9] (by decide +kernel) (by decide +kernel)
set_option maxRecDepth 20000 in
theorem gX7_isTooth_X7_in : GoodIn wsX7_isTooth (va_wsS RX7 37 yX7_in wsX7_in) := goodIn_app (goodIn_of _ (by decide +kernel)) ggX7_isTooth_X7_in
theorem dX7_isTooth_0 : decode cX7_isTooth 0 = .ok (.aload_n 0, 1) := by decide +kernel
theorem dX7_isTooth_1 : decode cX7_isTooth 1 = .ok (.iload_n 1, 1) := by decide +kernel
theorem dX7_isTooth_2 : decode cX7_isTooth 2 = .ok (.invokevirtual 41, 3) := by decide +kernel
theorem dX7_isTooth_5 : decode cX7_isTooth 5 = .ok (.ifCond .eq 23, 3) := by decide +kernel
theorem dX7_isTooth_8 : decode cX7_isTooth 8 = .ok (.iload_n 2, 1) := by decide +kernel
theorem dX7_isTooth_9 : decode cX7_isTooth 9 = .ok (.iconst 0, 1) := by decide +kernel
theorem dX7_isTooth_10 : decode cX7_isTooth 10 = .ok (.aload_n 0, 1) := by decide +kernel
theorem dX7_isTooth_11 : decode cX7_isTooth 11 = .ok (.iload_n 1, 1) := by decide +kernel
theorem dX7_isTooth_12 : decode cX7_isTooth 12 = .ok (.iconst 0, 1) := by decide +kernel
theorem dX7_isTooth_13 : decode cX7_isTooth 13 = .ok (.invokevirtual 45, 3) := by decide +kernel
theorem dX7_isTooth_16 : decode cX7_isTooth 16 = .ok (.iconst 1, 1) := by decide +kernel
theorem dX7_isTooth_17 : decode cX7_isTooth 17 = .ok (.isub, 1) := by decide +kernel
theorem dX7_isTooth_18 : decode cX7_isTooth 18 = .ok (.invokestatic 37, 3) := by decide +kernel
theorem dX7_isTooth_21 : decode cX7_isTooth 21 = .ok (.ifCond .eq 7, 3) := by decide +kernel
theorem dX7_isTooth_24 : decode cX7_isTooth 24 = .ok (.iconst 1, 1) := by decide +kernel
theorem dX7_isTooth_25 : decode cX7_isTooth 25 = .ok (.goto 4, 3) := by decide +kernel
theorem dX7_isTooth_28 : decode cX7_isTooth 28 = .ok (.iconst 0, 1) := by decide +kernel
theorem dX7_isTooth_29 : decode cX7_isTooth 29 = .ok (.ireturn, 1) := by decide +kernel
theorem dX7_files_0 : decode cX7_files 0 = .ok (.bipush 9, 2) := by decide +kernel
theorem dX7_files_2 : decode cX7_files 2 = .ok (.bipush 27, 2) := by decide +kernel
theorem dX7_files_4 : decode cX7_files 4 = .ok (.iload_n 1, 1) := by decide +kernel
theorem dX7_files_5 : decode cX7_files 5 = .ok (.imul, 1) := by decide +kernel
theorem dX7_files_6 : decode cX7_files 6 = .ok (.iadd, 1) := by decide +kernel
theorem dX7_files_7 : decode cX7_files 7 = .ok (.iconst 3, 1) := by decide +kernel
theorem dX7_files_8 : decode cX7_files 8 = .ok (.iadd, 1) := by decide +kernel
theorem dX7_files_9 : decode cX7_files 9 = .ok (.iload_n 2, 1) := by decide +kernel
theorem dX7_files_10 : decode cX7_files 10 = .ok (.iadd, 1) := by decide +kernel
theorem dX7_files_11 : decode cX7_files 11 = .ok (.istore 4, 2) := by decide +kernel
theorem dX7_files_13 : decode cX7_files 13 = .ok (.aload_n 0, 1) := by decide +kernel
theorem dX7_files_14 : decode cX7_files 14 = .ok (.getfield 7, 3) := by decide +kernel
theorem dX7_files_17 : decode cX7_files 17 = .ok (.iload 4, 2) := by decide +kernel
theorem dX7_files_19 : decode cX7_files 19 = .ok (.iaload, 1) := by decide +kernel
theorem dX7_files_20 : decode cX7_files 20 = .ok (.istore 5, 2) := by decide +kernel
theorem dX7_files_22 : decode cX7_files 22 = .ok (.aload_n 0, 1) := by decide +kernel
theorem dX7_files_23 : decode cX7_files 23 = .ok (.getfield 7, 3) := by decide +kernel
theorem dX7_files_26 : decode cX7_files 26 = .ok (.iload 4, 2) := by decide +kernel
theorem dX7_files_28 : decode cX7_files 28 = .ok (.iload_n 3, 1) := by decide +kernel
theorem dX7_files_29 : decode cX7_files 29 = .ok (.iastore, 1) := by decide +kernel
theorem dX7_files_30 : decode cX7_files 30 = .ok (.iload 5, 2) := by decide +kernel
theorem dX7_files_32 : decode cX7_files 32 = .ok (.bipush 9, 2) := by decide +kernel
theorem dX7_files_34 : decode cX7_files 34 = .ok (.iadd, 1) := by decide +kernel
theorem dX7_files_35 : decode cX7_files 35 = .ok (.ireturn, 1) := by decide +kernel
set_option maxRecDepth 20000 in
theorem ggX7_fileError_X7_isTooth : GoodIn wsX7_fileError wsX7_isTooth := goodIn_r _ [5, 6, 7, 8, 4, 9, 10, 11, 12, 13, 14, 15, 16, 17, 21, 22, 23, 24, 25, 26, 27, 28, 29, 30, 31] (by decide +kernel) (by decide +kernel)
set_option maxRecDepth 20000 in
theorem gX7_fileError_X7_isTooth : GoodIn wsX7_fileError (wsV RX7 89 RX7 yX7_isTooth wsX7_isTooth) := goodIn_app (goodIn_of _ (by decide +kernel)) ggX7_fileError_X7_isTooth
set_option maxRecDepth 20000 in
theorem ggX7_fileError_X7_isHeight : GoodIn wsX7_fileError wsX7_isHeight := goodIn_r _ [20, 11, 12, 4, 13] (by decide +kernel) (by decide +kernel)
set_option maxRecDepth 20000 in
theorem gX7_fileError_X7_isHeight : GoodIn wsX7_fileError (va_wsS RX7 82 yX7_isHeight wsX7_isHeight) := goodIn_app (goodIn_of _ (by decide +kernel)) ggX7_fileError_X7_isHeight
theorem dX7_fileError_0 : decode cX7_fileError 0 = .ok (.aload_n 0, 1) := by decide +kernel
theorem dX7_fileError_1 : decode cX7_fileError 1 = .ok (.iload_n 1, 1) := by decide +kernel
theorem dX7_fileError_2 : decode cX7_fileError 2 = .ok (.iload_n 2, 1) := by decide +kernel
theorem dX7_fileError_3 : decode cX7_fileError 3 = .ok (.invokevirtual 89, 3) := by decide +kernel
theorem dX7_fileError_6 : decode cX7_fileError 6 = .ok (.ifCond .ne 7, 3) := by decide +kernel
theorem dX7_fileError_9 : decode cX7_fileError 9 = .ok (.iconst (-1), 1) := by decide +kernel
theorem dX7_fileError_10 : decode cX7_fileError 10 = .ok (.goto 16, 3) := by decide +kernel
theorem dX7_fileError_13 : decode cX7_fileError 13 = .ok (.iload_n 3, 1) := by decide +kernel
theorem dX7_fileError_14 : decode cX7_fileError 14 = .ok (.invokestatic 82, 3) := by decide +kernel
theorem dX7_fileError_17 : decode cX7_fileError 17 = .ok (.ifCond .eq 7, 3) := by decide +kernel
theorem dX7_fileError_20 : decode cX7_fileError 20 = .ok (.iconst 0, 1) := by decide +kernel
theorem dX7_fileError_21 : decode cX7_fileError 21 = .ok (.goto 5, 3) := by decide +kernel
theorem dX7_fileError_24 : decode cX7_fileError 24 = .ok (.bipush (-2), 2) := by decide +kernel
theorem dX7_fileError_26 : decode cX7_fileError 26 = .ok (.ireturn, 1) := by decide +kernel
set_option maxRecDepth 20000 in
theorem ggX7_file_X7_fileError : GoodIn wsX7_file wsX7_fileError := goodIn_r _ [5, 6, 7, 8, 4, 9, 10, 11, 12, 13, 14, 15, 16, 17, 18, 19, 20, 21, 22, 23, 24, 38, 39, 40, 41, 42, 43, 44, 45, 46, 47, 48] (by decide +kernel) (by decide +kernel)
set_option maxRecDepth 20000 in
theorem gX7_file_X7_fileError : GoodIn wsX7_file (wsV RX7 92 RX7 yX7_fileError wsX7_fileError) := goodIn_app (goodIn_of _ (by decide +kernel)) ggX7_file_X7_fileError
set_option maxRecDepth 20000 in
theorem ggX7_file_X7_records : GoodIn wsX7_file wsX7_records := goodIn_r _ [28, 29, 30, 14, 31, 32, 4, 33, 38, 39, 40, 41, 42, 43, 44, 45, 46, 47, 48] (by decide +kernel) (by decide +kernel)
set_option maxRecDepth 20000 in
theorem gX7_file_X7_records : GoodIn wsX7_file (wsV RX7 79 RX7 yX7_records wsX7_records) := goodIn_app (goodIn_of _ (by decide +kernel)) ggX7_file_X7_records
set_option maxRecDepth 20000 in
theorem ggX7_file_X7_files : GoodIn wsX7_file wsX7_files := goodIn_r _ [37, 14, 38, 39, 40, 41, 42, 43, 44, 45, 46, 47, 48] (by decide +kernel) (by decide +kernel)
set_option maxRecDepth 20000 in
theorem gX7_file_X7_files : GoodIn wsX7_file (wsV RX7 96 RX7 yX7_files wsX7_files) := goodIn_app (goodIn_of _ (by decide +kernel)) ggX7_file_X7_files
theorem dX7_file_0 : decode cX7_file 0 = .ok (.aload_n 0, 1) := by decide +kernel
theorem dX7_file_1 : decode cX7_file 1 = .ok (.iload_n 1, 1) := by decide +kernel
theorem dX7_file_2 : decode cX7_file 2 = .ok (.iload_n 2, 1) := by decide +kernel
theorem dX7_file_3 : decode cX7_file 3 = .ok (.iload_n 3, 1) := by decide +kernel
theorem dX7_file_4 : decode cX7_file 4 = .ok (.invokevirtual 92, 3) := by decide +kernel
theorem dX7_file_7 : decode cX7_file 7 = .ok (.istore 4, 2) := by decide +kernel
theorem dX7_file_9 : decode cX7_file 9 = .ok (.iload 4, 2) := by decide +kernel
theorem dX7_file_11 : decode cX7_file 11 = .ok (.ifCond .ge 6, 3) := by decide +kernel
theorem dX7_file_14 : decode cX7_file 14 = .ok (.iload 4, 2) := by decide +kernel
theorem dX7_file_16 : decode cX7_file 16 = .ok (.ireturn, 1) := by decide +kernel
theorem dX7_file_17 : decode cX7_file 17 = .ok (.aload_n 0, 1) := by decide +kernel
theorem dX7_file_18 : decode cX7_file 18 = .ok (.invokevirtual 79, 3) := by decide +kernel
theorem dX7_file_21 : decode cX7_file 21 = .ok (.aload_n 0, 1) := by decide +kernel
theorem dX7_file_22 : decode cX7_file 22 = .ok (.iload_n 1, 1) := by decide +kernel
theorem dX7_file_23 : decode cX7_file 23 = .ok (.iload_n 2, 1) := by decide +kernel
theorem dX7_file_24 : decode cX7_file 24 = .ok (.iload_n 3, 1) := by decide +kernel
theorem dX7_file_25 : decode cX7_file 25 = .ok (.invokevirtual 96, 3) := by decide +kernel
theorem dX7_file_28 : decode cX7_file 28 = .ok (.ireturn, 1) := by decide +kernel
theorem dX7_melts_0 : decode cX7_melts 0 = .ok (.aload_n 0, 1) := by decide +kernel
theorem dX7_melts_1 : decode cX7_melts 1 = .ok (.getfield 7, 3) := by decide +kernel
theorem dX7_melts_4 : decode cX7_melts 4 = .ok (.iconst 3, 1) := by decide +kernel
theorem dX7_melts_5 : decode cX7_melts 5 = .ok (.dup2, 1) := by decide +kernel
theorem dX7_melts_6 : decode cX7_melts 6 = .ok (.iaload, 1) := by decide +kernel
theorem dX7_melts_7 : decode cX7_melts 7 = .ok (.iconst 1, 1) := by decide +kernel
theorem dX7_melts_8 : decode cX7_melts 8 = .ok (.isub, 1) := by decide +kernel
theorem dX7_melts_9 : decode cX7_melts 9 = .ok (.iastore, 1) := by decide +kernel
theorem dX7_melts_10 : decode cX7_melts 10 = .ok (.bipush 9, 2) := by decide +kernel
theorem dX7_melts_12 : decode cX7_melts 12 = .ok (.bipush 27, 2) := by decide +kernel
theorem dX7_melts_14 : decode cX7_melts 14 = .ok (.iload_n 1, 1) := by decide +kernel
theorem dX7_melts_15 : decode cX7_melts 15 = .ok (.imul, 1) := by decide +kernel
theorem dX7_melts_16 : decode cX7_melts 16 = .ok (.iadd, 1) := by decide +kernel
theorem dX7_melts_17 : decode cX7_melts 17 = .ok (.istore_n 2, 1) := by decide +kernel
theorem dX7_melts_18 : decode cX7_melts 18 = .ok (.iload_n 2, 1) := by decide +kernel
theorem dX7_melts_19 : decode cX7_melts 19 = .ok (.bipush 9, 2) := by decide +kernel
theorem dX7_melts_21 : decode cX7_melts 21 = .ok (.bipush 27, 2) := by decide +kernel
theorem dX7_melts_23 : decode cX7_melts 23 = .ok (.aload_n 0, 1) := by decide +kernel
theorem dX7_melts_24 : decode cX7_melts 24 = .ok (.getfield 7, 3) := by decide +kernel
theorem dX7_melts_27 : decode cX7_melts 27 = .ok (.iconst 3, 1) := by decide +kernel
theorem dX7_melts_28 : decode cX7_melts 28 = .ok (.iaload, 1) := by decide +kernel
theorem dX7_melts_29 : decode cX7_melts 29 = .ok (.imul, 1) := by decide +kernel
theorem dX7_melts_30 : decode cX7_melts 30 = .ok (.iadd, 1) := by decide +kernel
theorem dX7_melts_31 : decode cX7_melts 31 = .ok (.if_icmp .ge 24, 3) := by decide +kernel
theorem dX7_melts_34 : decode cX7_melts 34 = .ok (.aload_n 0, 1) := by decide +kernel
theorem dX7_melts_35 : decode cX7_melts 35 = .ok (.getfield 7, 3) := by decide +kernel
theorem dX7_melts_38 : decode cX7_melts 38 = .ok (.iload_n 2, 1) := by decide +kernel
theorem dX7_melts_39 : decode cX7_melts 39 = .ok (.aload_n 0, 1) := by decide +kernel
theorem dX7_melts_40 : decode cX7_melts 40 = .ok (.getfield 7, 3) := by decide +kernel
theorem dX7_melts_43 : decode cX7_melts 43 = .ok (.iload_n 2, 1) := by decide +kernel
theorem dX7_melts_44 : decode cX7_melts 44 = .ok (.bipush 27, 2) := by decide +kernel
theorem dX7_melts_46 : decode cX7_melts 46 = .ok (.iadd, 1) := by decide +kernel
theorem dX7_melts_47 : decode cX7_melts 47 = .ok (.iaload, 1) := by decide +kernel
theorem dX7_melts_48 : decode cX7_melts 48 = .ok (.iastore, 1) := by decide +kernel
theorem dX7_melts_49 : decode cX7_melts 49 = .ok (.iinc 2 1, 3) := by decide +kernel
theorem dX7_melts_52 : decode cX7_melts 52 = .ok (.goto (-34), 3) := by decide +kernel
theorem dX7_melts_55 : decode cX7_melts 55 = .ok (.aload_n 0, 1) := by decide +kernel
theorem dX7_melts_56 : decode cX7_melts 56 = .ok (.getfield 7, 3) := by decide +kernel
theorem dX7_melts_59 : decode cX7_melts 59 = .ok (.iconst 3, 1) := by decide +kernel
theorem dX7_melts_60 : decode cX7_melts 60 = .ok (.iaload, 1) := by decide +kernel
theorem dX7_melts_61 : decode cX7_melts 61 = .ok (.ireturn, 1) := by decide +kernel
set_option maxRecDepth 20000 in
theorem ggX7_melt_X7_isRoller : GoodIn wsX7_melt wsX7_isRoller := goodIn_r _ [5, 6, 7, 8, 4, 9, 23, 24, 25, 26, 27, 28, 29, 30, 31, 32, 33] (by decide +kernel) (by decide +kernel)
set_option maxRecDepth 20000 in
theorem gX7_melt_X7_isRoller : GoodIn wsX7_melt (wsV RX7 41 RX7 yX7_isRoller wsX7_isRoller) := goodIn_app (goodIn_of _ (by decide +kernel)) ggX7_melt_X7_isRoller
set_option maxRecDepth 20000 in
theorem ggX7_melt_X7_records : GoodIn wsX7_melt wsX7_records := goodIn_r _ [13, 14, 15, 6, 16, 17, 4, 18, 23, 24, 25, 26, 27, 28, 29, 30, 31, 32, 33] (by decide +kernel) (by decide +kernel)
set_option maxRecDepth 20000 in
theorem gX7_melt_X7_records : GoodIn wsX7_melt (wsV RX7 79 RX7 yX7_records wsX7_records) := goodIn_app (goodIn_of _ (by decide +kernel)) ggX7_melt_X7_records
set_option maxRecDepth 20000 in
theorem ggX7_melt_X7_melts : GoodIn wsX7_melt wsX7_melts := goodIn_r _ [22, 6, 23, 24, 25, 26, 27, 28, 29, 30, 31, 32, 33] (by decide +kernel) (by decide +kernel)
set_option maxRecDepth 20000 in
theorem gX7_melt_X7_melts : GoodIn wsX7_melt (wsV RX7 99 RX7 yX7_melts wsX7_melts) := goodIn_app (goodIn_of _ (by decide +kernel)) ggX7_melt_X7_melts
theorem dX7_melt_0 : decode cX7_melt 0 = .ok (.aload_n 0, 1) := by decide +kernel
theorem dX7_melt_1 : decode cX7_melt 1 = .ok (.iload_n 1, 1) := by decide +kernel
theorem dX7_melt_2 : decode cX7_melt 2 = .ok (.invokevirtual 41, 3) := by decide +kernel
theorem dX7_melt_5 : decode cX7_melt 5 = .ok (.ifCond .ne 5, 3) := by decide +kernel
theorem dX7_melt_8 : decode cX7_melt 8 = .ok (.iconst (-1), 1) := by decide +kernel
theorem dX7_melt_9 : decode cX7_melt 9 = .ok (.ireturn, 1) := by decide +kernel
theorem dX7_melt_10 : decode cX7_melt 10 = .ok (.aload_n 0, 1) := by decide +kernel
theorem dX7_melt_11 : decode cX7_melt 11 = .ok (.invokevirtual 79, 3) := by decide +kernel
theorem dX7_melt_14 : decode cX7_melt 14 = .ok (.aload_n 0, 1) := by decide +kernel
theorem dX7_melt_15 : decode cX7_melt 15 = .ok (.iload_n 1, 1) := by decide +kernel
theorem dX7_melt_16 : decode cX7_melt 16 = .ok (.invokevirtual 99, 3) := by decide +kernel
theorem dX7_melt_19 : decode cX7_melt 19 = .ok (.ireturn, 1) := by decide +kernel
set_option maxRecDepth 20000 in
theorem ggX7_card_X7_in : GoodIn wsX7_card wsX7_in := goodIn_r _ [5] (by decide +kernel) (by decide +kernel)
set_option maxRecDepth 20000 in
theorem gX7_card_X7_in : GoodIn wsX7_card (va_wsS RX7 37 yX7_in wsX7_in) := goodIn_app (goodIn_of _ (by decide +kernel)) ggX7_card_X7_in
set_option maxRecDepth 20000 in
theorem ggX7_card_X7_records : GoodIn wsX7_card wsX7_records := goodIn_r _ [9, 10, 11, 1, 12, 13, 4, 14, 15, 16, 17, 18, 19, 20, 21, 22, 23, 24, 25] (by decide +kernel) (by decide +kernel)
set_option maxRecDepth 20000 in
theorem gX7_card_X7_records : GoodIn wsX7_card (wsV RX7 79 RX7 yX7_records wsX7_records) := goodIn_app (goodIn_of _ (by decide +kernel)) ggX7_card_X7_records
theorem dX7_card_0 : decode cX7_card 0 = .ok (.iload_n 1, 1) := by decide +kernel
theorem dX7_card_1 : decode cX7_card 1 = .ok (.iconst 1, 1) := by decide +kernel
theorem dX7_card_2 : decode cX7_card 2 = .ok (.bipush 30, 2) := by decide +kernel
theorem dX7_card_4 : decode cX7_card 4 = .ok (.invokestatic 37, 3) := by decide +kernel
theorem dX7_card_7 : decode cX7_card 7 = .ok (.ifCond .eq 13, 3) := by decide +kernel
theorem dX7_card_10 : decode cX7_card 10 = .ok (.iload_n 2, 1) := by decide +kernel
theorem dX7_card_11 : decode cX7_card 11 = .ok (.iconst 0, 1) := by decide +kernel
theorem dX7_card_12 : decode cX7_card 12 = .ok (.bipush 30, 2) := by decide +kernel
theorem dX7_card_14 : decode cX7_card 14 = .ok (.invokestatic 37, 3) := by decide +kernel
theorem dX7_card_17 : decode cX7_card 17 = .ok (.ifCond .ne 6, 3) := by decide +kernel
theorem dX7_card_20 : decode cX7_card 20 = .ok (.bipush (-2), 2) := by decide +kernel
theorem dX7_card_22 : decode cX7_card 22 = .ok (.ireturn, 1) := by decide +kernel
theorem dX7_card_23 : decode cX7_card 23 = .ok (.aload_n 0, 1) := by decide +kernel
theorem dX7_card_24 : decode cX7_card 24 = .ok (.invokevirtual 79, 3) := by decide +kernel
theorem dX7_card_27 : decode cX7_card 27 = .ok (.aload_n 0, 1) := by decide +kernel
theorem dX7_card_28 : decode cX7_card 28 = .ok (.getfield 7, 3) := by decide +kernel
theorem dX7_card_31 : decode cX7_card 31 = .ok (.iconst 4, 1) := by decide +kernel
theorem dX7_card_32 : decode cX7_card 32 = .ok (.iaload, 1) := by decide +kernel
theorem dX7_card_33 : decode cX7_card 33 = .ok (.istore_n 3, 1) := by decide +kernel
theorem dX7_card_34 : decode cX7_card 34 = .ok (.aload_n 0, 1) := by decide +kernel
theorem dX7_card_35 : decode cX7_card 35 = .ok (.getfield 7, 3) := by decide +kernel
theorem dX7_card_38 : decode cX7_card 38 = .ok (.iconst 4, 1) := by decide +kernel
theorem dX7_card_39 : decode cX7_card 39 = .ok (.iload_n 1, 1) := by decide +kernel
theorem dX7_card_40 : decode cX7_card 40 = .ok (.iastore, 1) := by decide +kernel
theorem dX7_card_41 : decode cX7_card 41 = .ok (.aload_n 0, 1) := by decide +kernel
theorem dX7_card_42 : decode cX7_card 42 = .ok (.getfield 7, 3) := by decide +kernel
theorem dX7_card_45 : decode cX7_card 45 = .ok (.iconst 5, 1) := by decide +kernel
theorem dX7_card_46 : decode cX7_card 46 = .ok (.iload_n 2, 1) := by decide +kernel
theorem dX7_card_47 : decode cX7_card 47 = .ok (.iastore, 1) := by decide +kernel
theorem dX7_card_48 : decode cX7_card 48 = .ok (.iload_n 3, 1) := by decide +kernel
theorem dX7_card_49 : decode cX7_card 49 = .ok (.ireturn, 1) := by decide +kernel
set_option maxRecDepth 20000 in
theorem ggX7_run_X7_runError : GoodIn wsX7_run wsX7_runError := goodIn_r _ [5, 6, 7, 8, 4, 9, 10, 11, 12, 13, 14, 15, 16, 17, 18, 19, 20, 21, 22, 23, 24, 25, 26, 27, 28, 29, 30, 31, 32, 33, 34, 35, 36, 59, 60, 61, 62, 63, 64, 65, 66, 67, 68, 69] (by decide +kernel) (by decide +kernel)
set_option maxRecDepth 20000 in
theorem gX7_run_X7_runError : GoodIn wsX7_run (wsV RX7 102 RX7 yX7_runError wsX7_runError) := goodIn_app (goodIn_of _ (by decide +kernel)) ggX7_run_X7_runError
set_option maxRecDepth 20000 in
theorem ggX7_run_X7_records : GoodIn wsX7_run wsX7_records := goodIn_r _ [40, 41, 42, 14, 43, 44, 4, 45, 59, 60, 61, 62, 63, 64, 65, 66, 67, 68, 69] (by decide +kernel) (by decide +kernel)
set_option maxRecDepth 20000 in
theorem gX7_run_X7_records : GoodIn wsX7_run (wsV RX7 79 RX7 yX7_records wsX7_records) := goodIn_app (goodIn_of _ (by decide +kernel)) ggX7_run_X7_records
set_option maxRecDepth 20000 in
theorem ggX7_run_X7_runs : GoodIn wsX7_run wsX7_runs := goodIn_r _ [49, 50, 14, 30, 31, 32, 4, 33, 26, 27, 28, 29, 51, 52, 53, 54, 34, 35, 36, 55, 56, 57, 58, 59, 60, 61, 62, 63, 64, 65, 66, 67, 68, 69] (by decide +kernel) (by decide +kernel)
set_option maxRecDepth 20000 in
theorem gX7_run_X7_runs : GoodIn wsX7_run (wsV RX7 106 RX7 yX7_runs wsX7_runs) := goodIn_app (goodIn_of _ (by decide +kernel)) ggX7_run_X7_runs
theorem dX7_run_0 : decode cX7_run 0 = .ok (.aload_n 0, 1) := by decide +kernel
theorem dX7_run_1 : decode cX7_run 1 = .ok (.iload_n 1, 1) := by decide +kernel
theorem dX7_run_2 : decode cX7_run 2 = .ok (.iload_n 2, 1) := by decide +kernel
theorem dX7_run_3 : decode cX7_run 3 = .ok (.iload_n 3, 1) := by decide +kernel
theorem dX7_run_4 : decode cX7_run 4 = .ok (.iload 4, 2) := by decide +kernel
theorem dX7_run_6 : decode cX7_run 6 = .ok (.iload 5, 2) := by decide +kernel
theorem dX7_run_8 : decode cX7_run 8 = .ok (.iload 6, 2) := by decide +kernel
theorem dX7_run_10 : decode cX7_run 10 = .ok (.invokevirtual 102, 3) := by decide +kernel
theorem dX7_run_13 : decode cX7_run 13 = .ok (.istore 7, 2) := by decide +kernel
theorem dX7_run_15 : decode cX7_run 15 = .ok (.iload 7, 2) := by decide +kernel
theorem dX7_run_17 : decode cX7_run 17 = .ok (.ifCond .ge 6, 3) := by decide +kernel
theorem dX7_run_20 : decode cX7_run 20 = .ok (.iload 7, 2) := by decide +kernel
theorem dX7_run_22 : decode cX7_run 22 = .ok (.ireturn, 1) := by decide +kernel
theorem dX7_run_23 : decode cX7_run 23 = .ok (.aload_n 0, 1) := by decide +kernel
theorem dX7_run_24 : decode cX7_run 24 = .ok (.invokevirtual 79, 3) := by decide +kernel
theorem dX7_run_27 : decode cX7_run 27 = .ok (.aload_n 0, 1) := by decide +kernel
theorem dX7_run_28 : decode cX7_run 28 = .ok (.iload_n 1, 1) := by decide +kernel
theorem dX7_run_29 : decode cX7_run 29 = .ok (.iload_n 2, 1) := by decide +kernel
theorem dX7_run_30 : decode cX7_run 30 = .ok (.iload_n 3, 1) := by decide +kernel
theorem dX7_run_31 : decode cX7_run 31 = .ok (.iload 4, 2) := by decide +kernel
theorem dX7_run_33 : decode cX7_run 33 = .ok (.iload 5, 2) := by decide +kernel
theorem dX7_run_35 : decode cX7_run 35 = .ok (.iload 6, 2) := by decide +kernel
theorem dX7_run_37 : decode cX7_run 37 = .ok (.invokevirtual 106, 3) := by decide +kernel
theorem dX7_run_40 : decode cX7_run 40 = .ok (.ireturn, 1) := by decide +kernel
set_option maxRecDepth 20000 in
theorem ggX7_teeth_X7_ofR : GoodIn wsX7_teeth wsX7_ofR := goodIn_r _ [5, 6, 7, 8, 9, 10, 11, 12, 13, 14, 15, 16, 17] (by decide +kernel) (by decide +kernel)
set_option maxRecDepth 20000 in
theorem gX7_teeth_X7_ofR : GoodIn wsX7_teeth (wsV RX7 45 RX7 yX7_ofR wsX7_ofR) := goodIn_app (goodIn_of _ (by decide +kernel)) ggX7_teeth_X7_ofR
theorem dX7_teeth_0 : decode cX7_teeth 0 = .ok (.iconst 0, 1) := by decide +kernel
theorem dX7_teeth_1 : decode cX7_teeth 1 = .ok (.istore_n 3, 1) := by decide +kernel
theorem dX7_teeth_2 : decode cX7_teeth 2 = .ok (.iconst 0, 1) := by decide +kernel
theorem dX7_teeth_3 : decode cX7_teeth 3 = .ok (.istore 4, 2) := by decide +kernel
theorem dX7_teeth_5 : decode cX7_teeth 5 = .ok (.iload 4, 2) := by decide +kernel
theorem dX7_teeth_7 : decode cX7_teeth 7 = .ok (.aload_n 0, 1) := by decide +kernel
theorem dX7_teeth_8 : decode cX7_teeth 8 = .ok (.iload_n 1, 1) := by decide +kernel
theorem dX7_teeth_9 : decode cX7_teeth 9 = .ok (.iconst 0, 1) := by decide +kernel
theorem dX7_teeth_10 : decode cX7_teeth 10 = .ok (.invokevirtual 45, 3) := by decide +kernel
theorem dX7_teeth_13 : decode cX7_teeth 13 = .ok (.if_icmp .ge 34, 3) := by decide +kernel
theorem dX7_teeth_16 : decode cX7_teeth 16 = .ok (.iload_n 3, 1) := by decide +kernel
theorem dX7_teeth_17 : decode cX7_teeth 17 = .ok (.iload_n 2, 1) := by decide +kernel
theorem dX7_teeth_18 : decode cX7_teeth 18 = .ok (.aload_n 0, 1) := by decide +kernel
theorem dX7_teeth_19 : decode cX7_teeth 19 = .ok (.iload_n 1, 1) := by decide +kernel
theorem dX7_teeth_20 : decode cX7_teeth 20 = .ok (.iconst 3, 1) := by decide +kernel
theorem dX7_teeth_21 : decode cX7_teeth 21 = .ok (.iload 4, 2) := by decide +kernel
theorem dX7_teeth_23 : decode cX7_teeth 23 = .ok (.iadd, 1) := by decide +kernel
theorem dX7_teeth_24 : decode cX7_teeth 24 = .ok (.invokevirtual 45, 3) := by decide +kernel
theorem dX7_teeth_27 : decode cX7_teeth 27 = .ok (.imul, 1) := by decide +kernel
theorem dX7_teeth_28 : decode cX7_teeth 28 = .ok (.ifCond .le 10, 3) := by decide +kernel
theorem dX7_teeth_31 : decode cX7_teeth 31 = .ok (.iconst 1, 1) := by decide +kernel
theorem dX7_teeth_32 : decode cX7_teeth 32 = .ok (.iload 4, 2) := by decide +kernel
theorem dX7_teeth_34 : decode cX7_teeth 34 = .ok (.ishl, 1) := by decide +kernel
theorem dX7_teeth_35 : decode cX7_teeth 35 = .ok (.goto 4, 3) := by decide +kernel
theorem dX7_teeth_38 : decode cX7_teeth 38 = .ok (.iconst 0, 1) := by decide +kernel
theorem dX7_teeth_39 : decode cX7_teeth 39 = .ok (.ior, 1) := by decide +kernel
theorem dX7_teeth_40 : decode cX7_teeth 40 = .ok (.istore_n 3, 1) := by decide +kernel
theorem dX7_teeth_41 : decode cX7_teeth 41 = .ok (.iinc 4 1, 3) := by decide +kernel
theorem dX7_teeth_44 : decode cX7_teeth 44 = .ok (.goto (-39), 3) := by decide +kernel
theorem dX7_teeth_47 : decode cX7_teeth 47 = .ok (.iload_n 3, 1) := by decide +kernel
theorem dX7_teeth_48 : decode cX7_teeth 48 = .ok (.ireturn, 1) := by decide +kernel
set_option maxRecDepth 20000 in
theorem ggX7_height_X7_ofR : GoodIn wsX7_height wsX7_ofR := goodIn_r _ [5, 6, 7, 8, 9, 10, 11, 12, 13, 14, 15, 16, 17] (by decide +kernel) (by decide +kernel)
set_option maxRecDepth 20000 in
theorem gX7_height_X7_ofR : GoodIn wsX7_height (wsV RX7 45 RX7 yX7_ofR wsX7_ofR) := goodIn_app (goodIn_of _ (by decide +kernel)) ggX7_height_X7_ofR
theorem dX7_height_0 : decode cX7_height 0 = .ok (.aload_n 0, 1) := by decide +kernel
theorem dX7_height_1 : decode cX7_height 1 = .ok (.iload_n 1, 1) := by decide +kernel
theorem dX7_height_2 : decode cX7_height 2 = .ok (.iconst 3, 1) := by decide +kernel
theorem dX7_height_3 : decode cX7_height 3 = .ok (.invokevirtual 45, 3) := by decide +kernel
theorem dX7_height_6 : decode cX7_height 6 = .ok (.istore_n 3, 1) := by decide +kernel
theorem dX7_height_7 : decode cX7_height 7 = .ok (.iconst 1, 1) := by decide +kernel
theorem dX7_height_8 : decode cX7_height 8 = .ok (.istore 4, 2) := by decide +kernel
theorem dX7_height_10 : decode cX7_height 10 = .ok (.iload 4, 2) := by decide +kernel
theorem dX7_height_12 : decode cX7_height 12 = .ok (.aload_n 0, 1) := by decide +kernel
theorem dX7_height_13 : decode cX7_height 13 = .ok (.iload_n 1, 1) := by decide +kernel
theorem dX7_height_14 : decode cX7_height 14 = .ok (.iconst 0, 1) := by decide +kernel
theorem dX7_height_15 : decode cX7_height 15 = .ok (.invokevirtual 45, 3) := by decide +kernel
theorem dX7_height_18 : decode cX7_height 18 = .ok (.if_icmp .ge 37, 3) := by decide +kernel
theorem dX7_height_21 : decode cX7_height 21 = .ok (.aload_n 0, 1) := by decide +kernel
theorem dX7_height_22 : decode cX7_height 22 = .ok (.iload_n 1, 1) := by decide +kernel
theorem dX7_height_23 : decode cX7_height 23 = .ok (.iconst 3, 1) := by decide +kernel
theorem dX7_height_24 : decode cX7_height 24 = .ok (.iload 4, 2) := by decide +kernel
theorem dX7_height_26 : decode cX7_height 26 = .ok (.iadd, 1) := by decide +kernel
theorem dX7_height_27 : decode cX7_height 27 = .ok (.invokevirtual 45, 3) := by decide +kernel
theorem dX7_height_30 : decode cX7_height 30 = .ok (.istore 5, 2) := by decide +kernel
theorem dX7_height_32 : decode cX7_height 32 = .ok (.iload_n 2, 1) := by decide +kernel
theorem dX7_height_33 : decode cX7_height 33 = .ok (.iload 5, 2) := by decide +kernel
theorem dX7_height_35 : decode cX7_height 35 = .ok (.imul, 1) := by decide +kernel
theorem dX7_height_36 : decode cX7_height 36 = .ok (.iload_n 2, 1) := by decide +kernel
theorem dX7_height_37 : decode cX7_height 37 = .ok (.iload_n 3, 1) := by decide +kernel
theorem dX7_height_38 : decode cX7_height 38 = .ok (.imul, 1) := by decide +kernel
theorem dX7_height_39 : decode cX7_height 39 = .ok (.if_icmp .le 8, 3) := by decide +kernel
theorem dX7_height_42 : decode cX7_height 42 = .ok (.iload 5, 2) := by decide +kernel
theorem dX7_height_44 : decode cX7_height 44 = .ok (.goto 4, 3) := by decide +kernel
theorem dX7_height_47 : decode cX7_height 47 = .ok (.iload_n 3, 1) := by decide +kernel
theorem dX7_height_48 : decode cX7_height 48 = .ok (.istore_n 3, 1) := by decide +kernel
theorem dX7_height_49 : decode cX7_height 49 = .ok (.iinc 4 1, 3) := by decide +kernel
theorem dX7_height_52 : decode cX7_height 52 = .ok (.goto (-42), 3) := by decide +kernel
theorem dX7_height_55 : decode cX7_height 55 = .ok (.iload_n 3, 1) := by decide +kernel
theorem dX7_height_56 : decode cX7_height 56 = .ok (.ireturn, 1) := by decide +kernel
set_option maxRecDepth 20000 in
theorem ggX7_of_X7_isRoller : GoodIn wsX7_of wsX7_isRoller := goodIn_r _ [5, 6, 7, 8, 4, 9, 22, 23, 24, 25, 26, 27, 28, 29, 30, 31, 32] (by decide +kernel) (by decide +kernel)
set_option maxRecDepth 20000 in
theorem gX7_of_X7_isRoller : GoodIn wsX7_of (wsV RX7 41 RX7 yX7_isRoller wsX7_isRoller) := goodIn_app (goodIn_of _ (by decide +kernel)) ggX7_of_X7_isRoller
set_option maxRecDepth 20000 in
theorem ggX7_of_X7_ofR : GoodIn wsX7_of wsX7_ofR := goodIn_r _ [13, 6, 22, 23, 24, 25, 26, 27, 28, 29, 30, 31, 32] (by decide +kernel) (by decide +kernel)
set_option maxRecDepth 20000 in
theorem gX7_of_X7_ofR : GoodIn wsX7_of (wsV RX7 45 RX7 yX7_ofR wsX7_ofR) := goodIn_app (goodIn_of _ (by decide +kernel)) ggX7_of_X7_ofR
set_option maxRecDepth 20000 in
theorem ggX7_of_X7_teeth : GoodIn wsX7_of wsX7_teeth := goodIn_r _ [17, 10, 11, 12, 4, 13, 6, 22, 23, 24, 25, 26, 27, 28, 29, 30, 31, 32] (by decide +kernel) (by decide +kernel)
set_option maxRecDepth 20000 in
theorem gX7_of_X7_teeth : GoodIn wsX7_of (wsV RX7 109 RX7 yX7_teeth wsX7_teeth) := goodIn_app (goodIn_of _ (by decide +kernel)) ggX7_of_X7_teeth
set_option maxRecDepth 20000 in
theorem ggX7_of_X7_height : GoodIn wsX7_of wsX7_height := goodIn_r _ [21, 10, 11, 12, 4, 13, 6, 22, 23, 24, 25, 26, 27, 28, 29, 30, 31, 32] (by decide +kernel) (by decide +kernel)
set_option maxRecDepth 20000 in
theorem gX7_of_X7_height : GoodIn wsX7_of (wsV RX7 112 RX7 yX7_height wsX7_height) := goodIn_app (goodIn_of _ (by decide +kernel)) ggX7_of_X7_height
theorem dX7_of_0 : decode cX7_of 0 = .ok (.aload_n 0, 1) := by decide +kernel
theorem dX7_of_1 : decode cX7_of 1 = .ok (.iload_n 1, 1) := by decide +kernel
theorem dX7_of_2 : decode cX7_of 2 = .ok (.invokevirtual 41, 3) := by decide +kernel
theorem dX7_of_5 : decode cX7_of 5 = .ok (.ifCond .ne 5, 3) := by decide +kernel
theorem dX7_of_8 : decode cX7_of 8 = .ok (.iconst (-1), 1) := by decide +kernel
theorem dX7_of_9 : decode cX7_of 9 = .ok (.ireturn, 1) := by decide +kernel
theorem dX7_of_10 : decode cX7_of 10 = .ok (.iload_n 2, 1) := by decide +kernel
theorem dX7_of_11 : decode cX7_of 11 = .ok (.tableswitch 96 0 6 #[41, 48, 55, 62, 72, 82, 89], 41) := by decide +kernel
theorem dX7_of_52 : decode cX7_of 52 = .ok (.aload_n 0, 1) := by decide +kernel
theorem dX7_of_53 : decode cX7_of 53 = .ok (.iload_n 1, 1) := by decide +kernel
theorem dX7_of_54 : decode cX7_of 54 = .ok (.iconst 0, 1) := by decide +kernel
theorem dX7_of_55 : decode cX7_of 55 = .ok (.invokevirtual 45, 3) := by decide +kernel
theorem dX7_of_58 : decode cX7_of 58 = .ok (.ireturn, 1) := by decide +kernel
theorem dX7_of_59 : decode cX7_of 59 = .ok (.aload_n 0, 1) := by decide +kernel
theorem dX7_of_60 : decode cX7_of 60 = .ok (.iload_n 1, 1) := by decide +kernel
theorem dX7_of_61 : decode cX7_of 61 = .ok (.iconst 1, 1) := by decide +kernel
theorem dX7_of_62 : decode cX7_of 62 = .ok (.invokevirtual 109, 3) := by decide +kernel
theorem dX7_of_65 : decode cX7_of 65 = .ok (.ireturn, 1) := by decide +kernel
theorem dX7_of_66 : decode cX7_of 66 = .ok (.aload_n 0, 1) := by decide +kernel
theorem dX7_of_67 : decode cX7_of 67 = .ok (.iload_n 1, 1) := by decide +kernel
theorem dX7_of_68 : decode cX7_of 68 = .ok (.iconst (-1), 1) := by decide +kernel
theorem dX7_of_69 : decode cX7_of 69 = .ok (.invokevirtual 109, 3) := by decide +kernel
theorem dX7_of_72 : decode cX7_of 72 = .ok (.ireturn, 1) := by decide +kernel
theorem dX7_of_73 : decode cX7_of 73 = .ok (.aload_n 0, 1) := by decide +kernel
theorem dX7_of_74 : decode cX7_of 74 = .ok (.iload_n 1, 1) := by decide +kernel
theorem dX7_of_75 : decode cX7_of 75 = .ok (.iconst 1, 1) := by decide +kernel
theorem dX7_of_76 : decode cX7_of 76 = .ok (.invokevirtual 112, 3) := by decide +kernel
theorem dX7_of_79 : decode cX7_of 79 = .ok (.bipush 9, 2) := by decide +kernel
theorem dX7_of_81 : decode cX7_of 81 = .ok (.iadd, 1) := by decide +kernel
theorem dX7_of_82 : decode cX7_of 82 = .ok (.ireturn, 1) := by decide +kernel
theorem dX7_of_83 : decode cX7_of 83 = .ok (.aload_n 0, 1) := by decide +kernel
theorem dX7_of_84 : decode cX7_of 84 = .ok (.iload_n 1, 1) := by decide +kernel
theorem dX7_of_85 : decode cX7_of 85 = .ok (.iconst (-1), 1) := by decide +kernel
theorem dX7_of_86 : decode cX7_of 86 = .ok (.invokevirtual 112, 3) := by decide +kernel
theorem dX7_of_89 : decode cX7_of 89 = .ok (.bipush 9, 2) := by decide +kernel
theorem dX7_of_91 : decode cX7_of 91 = .ok (.iadd, 1) := by decide +kernel
theorem dX7_of_92 : decode cX7_of 92 = .ok (.ireturn, 1) := by decide +kernel
theorem dX7_of_93 : decode cX7_of 93 = .ok (.aload_n 0, 1) := by decide +kernel
theorem dX7_of_94 : decode cX7_of 94 = .ok (.iload_n 1, 1) := by decide +kernel
theorem dX7_of_95 : decode cX7_of 95 = .ok (.iconst 1, 1) := by decide +kernel
theorem dX7_of_96 : decode cX7_of 96 = .ok (.invokevirtual 45, 3) := by decide +kernel
theorem dX7_of_99 : decode cX7_of 99 = .ok (.ireturn, 1) := by decide +kernel
theorem dX7_of_100 : decode cX7_of 100 = .ok (.aload_n 0, 1) := by decide +kernel
theorem dX7_of_101 : decode cX7_of 101 = .ok (.iload_n 1, 1) := by decide +kernel
theorem dX7_of_102 : decode cX7_of 102 = .ok (.iconst 2, 1) := by decide +kernel
theorem dX7_of_103 : decode cX7_of 103 = .ok (.invokevirtual 45, 3) := by decide +kernel
theorem dX7_of_106 : decode cX7_of 106 = .ok (.ireturn, 1) := by decide +kernel
theorem dX7_of_107 : decode cX7_of 107 = .ok (.bipush (-2), 2) := by decide +kernel
theorem dX7_of_109 : decode cX7_of 109 = .ok (.ireturn, 1) := by decide +kernel
set_option maxRecDepth 20000 in
theorem ggX7_tooth_X7_isTooth : GoodIn wsX7_tooth wsX7_isTooth := goodIn_r _ [5, 6, 7, 8, 4, 9, 10, 11, 12, 13, 14, 15, 16, 17, 18, 19, 20, 21, 22, 23, 24, 25, 26, 27, 28] (by decide +kernel) (by decide +kernel)
set_option maxRecDepth 20000 in
theorem gX7_tooth_X7_isTooth : GoodIn wsX7_tooth (wsV RX7 89 RX7 yX7_isTooth wsX7_isTooth) := goodIn_app (goodIn_of _ (by decide +kernel)) ggX7_tooth_X7_isTooth
set_option maxRecDepth 20000 in
theorem ggX7_tooth_X7_ofR : GoodIn wsX7_tooth wsX7_ofR := goodIn_r _ [17, 10, 18, 19, 20, 21, 22, 23, 24, 25, 26, 27, 28] (by decide +kernel) (by decide +kernel)
set_option maxRecDepth 20000 in
theorem gX7_tooth_X7_ofR : GoodIn wsX7_tooth (wsV RX7 45 RX7 yX7_ofR wsX7_ofR) := goodIn_app (goodIn_of _ (by decide +kernel)) ggX7_tooth_X7_ofR
theorem dX7_tooth_0 : decode cX7_tooth 0 = .ok (.aload_n 0, 1) := by decide +kernel
theorem dX7_tooth_1 : decode cX7_tooth 1 = .ok (.iload_n 1, 1) := by decide +kernel
theorem dX7_tooth_2 : decode cX7_tooth 2 = .ok (.iload_n 2, 1) := by decide +kernel
theorem dX7_tooth_3 : decode cX7_tooth 3 = .ok (.invokevirtual 89, 3) := by decide +kernel
theorem dX7_tooth_6 : decode cX7_tooth 6 = .ok (.ifCond .eq 17, 3) := by decide +kernel
theorem dX7_tooth_9 : decode cX7_tooth 9 = .ok (.aload_n 0, 1) := by decide +kernel
theorem dX7_tooth_10 : decode cX7_tooth 10 = .ok (.iload_n 1, 1) := by decide +kernel
theorem dX7_tooth_11 : decode cX7_tooth 11 = .ok (.iconst 3, 1) := by decide +kernel
theorem dX7_tooth_12 : decode cX7_tooth 12 = .ok (.iload_n 2, 1) := by decide +kernel
theorem dX7_tooth_13 : decode cX7_tooth 13 = .ok (.iadd, 1) := by decide +kernel
theorem dX7_tooth_14 : decode cX7_tooth 14 = .ok (.invokevirtual 45, 3) := by decide +kernel
theorem dX7_tooth_17 : decode cX7_tooth 17 = .ok (.bipush 9, 2) := by decide +kernel
theorem dX7_tooth_19 : decode cX7_tooth 19 = .ok (.iadd, 1) := by decide +kernel
theorem dX7_tooth_20 : decode cX7_tooth 20 = .ok (.goto 4, 3) := by decide +kernel
theorem dX7_tooth_23 : decode cX7_tooth 23 = .ok (.iconst (-1), 1) := by decide +kernel
theorem dX7_tooth_24 : decode cX7_tooth 24 = .ok (.ireturn, 1) := by decide +kernel
theorem dX7_count_0 : decode cX7_count 0 = .ok (.iload_n 1, 1) := by decide +kernel
theorem dX7_count_1 : decode cX7_count 1 = .ok (.tableswitch 90 0 10 #[59, 59, 59, 59, 59, 59, 68, 68, 68, 80, 85], 59) := by decide +kernel
theorem dX7_count_60 : decode cX7_count 60 = .ok (.aload_n 0, 1) := by decide +kernel
theorem dX7_count_61 : decode cX7_count 61 = .ok (.getfield 7, 3) := by decide +kernel
theorem dX7_count_64 : decode cX7_count 64 = .ok (.iconst 3, 1) := by decide +kernel
theorem dX7_count_65 : decode cX7_count 65 = .ok (.iload_n 1, 1) := by decide +kernel
theorem dX7_count_66 : decode cX7_count 66 = .ok (.iadd, 1) := by decide +kernel
theorem dX7_count_67 : decode cX7_count 67 = .ok (.iaload, 1) := by decide +kernel
theorem dX7_count_68 : decode cX7_count 68 = .ok (.ireturn, 1) := by decide +kernel
theorem dX7_count_69 : decode cX7_count 69 = .ok (.aload_n 0, 1) := by decide +kernel
theorem dX7_count_70 : decode cX7_count 70 = .ok (.getfield 7, 3) := by decide +kernel
theorem dX7_count_73 : decode cX7_count 73 = .ok (.iconst 0, 1) := by decide +kernel
theorem dX7_count_74 : decode cX7_count 74 = .ok (.iload_n 1, 1) := by decide +kernel
theorem dX7_count_75 : decode cX7_count 75 = .ok (.iadd, 1) := by decide +kernel
theorem dX7_count_76 : decode cX7_count 76 = .ok (.bipush 6, 2) := by decide +kernel
theorem dX7_count_78 : decode cX7_count 78 = .ok (.isub, 1) := by decide +kernel
theorem dX7_count_79 : decode cX7_count 79 = .ok (.iaload, 1) := by decide +kernel
theorem dX7_count_80 : decode cX7_count 80 = .ok (.ireturn, 1) := by decide +kernel
theorem dX7_count_81 : decode cX7_count 81 = .ok (.aload_n 0, 1) := by decide +kernel
theorem dX7_count_82 : decode cX7_count 82 = .ok (.getfield 115, 3) := by decide +kernel
theorem dX7_count_85 : decode cX7_count 85 = .ok (.ireturn, 1) := by decide +kernel
theorem dX7_count_86 : decode cX7_count 86 = .ok (.aload_n 0, 1) := by decide +kernel
theorem dX7_count_87 : decode cX7_count 87 = .ok (.getfield 29, 3) := by decide +kernel
theorem dX7_count_90 : decode cX7_count 90 = .ok (.ireturn, 1) := by decide +kernel
theorem dX7_count_91 : decode cX7_count 91 = .ok (.bipush (-2), 2) := by decide +kernel
theorem dX7_count_93 : decode cX7_count 93 = .ok (.ireturn, 1) := by decide +kernel
set_option maxRecDepth 20000 in
theorem ggX7_pair_X7_pairError : GoodIn wsX7_pair wsX7_pairError := goodIn_r _ [5, 6, 7, 8, 4, 9, 10, 11, 12, 13, 37, 38, 39, 40, 41, 42, 43, 44, 45, 46, 47] (by decide +kernel) (by decide +kernel)
set_option maxRecDepth 20000 in
theorem gX7_pair_X7_pairError : GoodIn wsX7_pair (wsV RX7 65 RX7 yX7_pairError wsX7_pairError) := goodIn_app (goodIn_of _ (by decide +kernel)) ggX7_pair_X7_pairError
set_option maxRecDepth 20000 in
theorem ggX7_pair_X7_turn : GoodIn wsX7_pair wsX7_turn := goodIn_r _ [17, 18, 19, 20, 4, 21, 10, 37, 38, 39, 40, 41, 42, 43, 44, 45, 46, 47] (by decide +kernel) (by decide +kernel)
set_option maxRecDepth 20000 in
theorem gX7_pair_X7_turn : GoodIn wsX7_pair (wsV RX7 49 RX7 yX7_turn wsX7_turn) := goodIn_app (goodIn_of _ (by decide +kernel)) ggX7_pair_X7_turn
set_option maxRecDepth 20000 in
theorem ggX7_pair_X7_extreme : GoodIn wsX7_pair wsX7_extreme := goodIn_r _ [25, 14, 15, 16, 4, 17, 18, 19, 20, 21, 10, 26, 27, 28, 29, 37, 38, 39, 40, 41, 42, 43, 44, 45, 46, 47] (by decide +kernel) (by decide +kernel)
set_option maxRecDepth 20000 in
theorem gX7_pair_X7_extreme : GoodIn wsX7_pair (wsV RX7 118 RX7 yX7_extreme wsX7_extreme) := goodIn_app (goodIn_of _ (by decide +kernel)) ggX7_pair_X7_extreme
set_option maxRecDepth 20000 in
theorem ggX7_pair_X7_against : GoodIn wsX7_pair wsX7_against := goodIn_r _ [33, 10, 14, 15, 16, 4, 17, 18, 19, 20, 21, 26, 27, 28, 29, 34, 35, 36, 37, 38, 39, 40, 41, 42, 43, 44, 45, 46, 47] (by decide +kernel) (by decide +kernel)
set_option maxRecDepth 20000 in
theorem gX7_pair_X7_against : GoodIn wsX7_pair (wsV RX7 59 RX7 yX7_against wsX7_against) := goodIn_app (goodIn_of _ (by decide +kernel)) ggX7_pair_X7_against
theorem dX7_pair_0 : decode cX7_pair 0 = .ok (.aload_n 0, 1) := by decide +kernel
theorem dX7_pair_1 : decode cX7_pair 1 = .ok (.iload_n 1, 1) := by decide +kernel
theorem dX7_pair_2 : decode cX7_pair 2 = .ok (.iload_n 2, 1) := by decide +kernel
theorem dX7_pair_3 : decode cX7_pair 3 = .ok (.iload_n 3, 1) := by decide +kernel
theorem dX7_pair_4 : decode cX7_pair 4 = .ok (.iload 4, 2) := by decide +kernel
theorem dX7_pair_6 : decode cX7_pair 6 = .ok (.invokevirtual 65, 3) := by decide +kernel
theorem dX7_pair_9 : decode cX7_pair 9 = .ok (.istore 6, 2) := by decide +kernel
theorem dX7_pair_11 : decode cX7_pair 11 = .ok (.iload 6, 2) := by decide +kernel
theorem dX7_pair_13 : decode cX7_pair 13 = .ok (.ifCond .ge 6, 3) := by decide +kernel
theorem dX7_pair_16 : decode cX7_pair 16 = .ok (.iload 6, 2) := by decide +kernel
theorem dX7_pair_18 : decode cX7_pair 18 = .ok (.ireturn, 1) := by decide +kernel
theorem dX7_pair_19 : decode cX7_pair 19 = .ok (.iload 5, 2) := by decide +kernel
theorem dX7_pair_21 : decode cX7_pair 21 = .ok (.tableswitch 83 0 3 #[31, 38, 38, 63], 31) := by decide +kernel
theorem dX7_pair_52 : decode cX7_pair 52 = .ok (.aload_n 0, 1) := by decide +kernel
theorem dX7_pair_53 : decode cX7_pair 53 = .ok (.iload_n 1, 1) := by decide +kernel
theorem dX7_pair_54 : decode cX7_pair 54 = .ok (.iload_n 2, 1) := by decide +kernel
theorem dX7_pair_55 : decode cX7_pair 55 = .ok (.invokevirtual 49, 3) := by decide +kernel
theorem dX7_pair_58 : decode cX7_pair 58 = .ok (.ireturn, 1) := by decide +kernel
theorem dX7_pair_59 : decode cX7_pair 59 = .ok (.aload_n 0, 1) := by decide +kernel
theorem dX7_pair_60 : decode cX7_pair 60 = .ok (.iload_n 1, 1) := by decide +kernel
theorem dX7_pair_61 : decode cX7_pair 61 = .ok (.iload_n 2, 1) := by decide +kernel
theorem dX7_pair_62 : decode cX7_pair 62 = .ok (.iload_n 3, 1) := by decide +kernel
theorem dX7_pair_63 : decode cX7_pair 63 = .ok (.iload 5, 2) := by decide +kernel
theorem dX7_pair_65 : decode cX7_pair 65 = .ok (.iconst 1, 1) := by decide +kernel
theorem dX7_pair_66 : decode cX7_pair 66 = .ok (.if_icmp .ne 7, 3) := by decide +kernel
theorem dX7_pair_69 : decode cX7_pair 69 = .ok (.iconst 1, 1) := by decide +kernel
theorem dX7_pair_70 : decode cX7_pair 70 = .ok (.goto 4, 3) := by decide +kernel
theorem dX7_pair_73 : decode cX7_pair 73 = .ok (.iconst 0, 1) := by decide +kernel
theorem dX7_pair_74 : decode cX7_pair 74 = .ok (.invokevirtual 118, 3) := by decide +kernel
theorem dX7_pair_77 : decode cX7_pair 77 = .ok (.iload 4, 2) := by decide +kernel
theorem dX7_pair_79 : decode cX7_pair 79 = .ok (.iadd, 1) := by decide +kernel
theorem dX7_pair_80 : decode cX7_pair 80 = .ok (.bipush 100, 2) := by decide +kernel
theorem dX7_pair_82 : decode cX7_pair 82 = .ok (.iadd, 1) := by decide +kernel
theorem dX7_pair_83 : decode cX7_pair 83 = .ok (.ireturn, 1) := by decide +kernel
theorem dX7_pair_84 : decode cX7_pair 84 = .ok (.aload_n 0, 1) := by decide +kernel
theorem dX7_pair_85 : decode cX7_pair 85 = .ok (.iload_n 1, 1) := by decide +kernel
theorem dX7_pair_86 : decode cX7_pair 86 = .ok (.iload_n 2, 1) := by decide +kernel
theorem dX7_pair_87 : decode cX7_pair 87 = .ok (.iload_n 3, 1) := by decide +kernel
theorem dX7_pair_88 : decode cX7_pair 88 = .ok (.iload 4, 2) := by decide +kernel
theorem dX7_pair_90 : decode cX7_pair 90 = .ok (.invokevirtual 59, 3) := by decide +kernel
theorem dX7_pair_93 : decode cX7_pair 93 = .ok (.bipush (-6), 2) := by decide +kernel
theorem dX7_pair_95 : decode cX7_pair 95 = .ok (.if_icmp .ne 7, 3) := by decide +kernel
theorem dX7_pair_98 : decode cX7_pair 98 = .ok (.iconst 1, 1) := by decide +kernel
theorem dX7_pair_99 : decode cX7_pair 99 = .ok (.goto 4, 3) := by decide +kernel
theorem dX7_pair_102 : decode cX7_pair 102 = .ok (.iconst 0, 1) := by decide +kernel
theorem dX7_pair_103 : decode cX7_pair 103 = .ok (.ireturn, 1) := by decide +kernel
theorem dX7_pair_104 : decode cX7_pair 104 = .ok (.bipush (-2), 2) := by decide +kernel
theorem dX7_pair_106 : decode cX7_pair 106 = .ok (.ireturn, 1) := by decide +kernel
set_option maxRecDepth 20000 in
theorem ggX7_why_X7_pairError : GoodIn wsX7_why wsX7_pairError := goodIn_r _ [5, 6, 7, 8, 4, 9, 10, 11, 12, 13, 33, 34, 35, 36, 37, 38, 39, 40, 41, 42, 43] (by decide +kernel) (by decide +kernel)
set_option maxRecDepth 20000 in
theorem gX7_why_X7_pairError : GoodIn wsX7_why (wsV RX7 65 RX7 yX7_pairError wsX7_pairError) := goodIn_app (goodIn_of _ (by decide +kernel)) ggX7_why_X7_pairError
set_option maxRecDepth 20000 in
theorem ggX7_why_X7_in : GoodIn wsX7_why wsX7_in := goodIn_r _ [13] (by decide +kernel) (by decide +kernel)
set_option maxRecDepth 20000 in
theorem gX7_why_X7_in : GoodIn wsX7_why (va_wsS RX7 37 yX7_in wsX7_in) := goodIn_app (goodIn_of _ (by decide +kernel)) ggX7_why_X7_in
set_option maxRecDepth 20000 in
theorem ggX7_why_X7_against : GoodIn wsX7_why wsX7_against := goodIn_r _ [17, 10, 18, 19, 20, 4, 21, 22, 23, 24, 25, 26, 27, 28, 29, 30, 31, 32, 33, 34, 35, 36, 37, 38, 39, 40, 41, 42, 43] (by decide +kernel) (by decide +kernel)
set_option maxRecDepth 20000 in
theorem gX7_why_X7_against : GoodIn wsX7_why (wsV RX7 59 RX7 yX7_against wsX7_against) := goodIn_app (goodIn_of _ (by decide +kernel)) ggX7_why_X7_against
theorem dX7_why_0 : decode cX7_why 0 = .ok (.aload_n 0, 1) := by decide +kernel
theorem dX7_why_1 : decode cX7_why 1 = .ok (.iload_n 1, 1) := by decide +kernel
theorem dX7_why_2 : decode cX7_why 2 = .ok (.iload_n 2, 1) := by decide +kernel
theorem dX7_why_3 : decode cX7_why 3 = .ok (.iload_n 3, 1) := by decide +kernel
theorem dX7_why_4 : decode cX7_why 4 = .ok (.iload 4, 2) := by decide +kernel
theorem dX7_why_6 : decode cX7_why 6 = .ok (.invokevirtual 65, 3) := by decide +kernel
theorem dX7_why_9 : decode cX7_why 9 = .ok (.istore 6, 2) := by decide +kernel
theorem dX7_why_11 : decode cX7_why 11 = .ok (.iload 6, 2) := by decide +kernel
theorem dX7_why_13 : decode cX7_why 13 = .ok (.ifCond .ge 6, 3) := by decide +kernel
theorem dX7_why_16 : decode cX7_why 16 = .ok (.iload 6, 2) := by decide +kernel
theorem dX7_why_18 : decode cX7_why 18 = .ok (.ireturn, 1) := by decide +kernel
theorem dX7_why_19 : decode cX7_why 19 = .ok (.iload 5, 2) := by decide +kernel
theorem dX7_why_21 : decode cX7_why 21 = .ok (.iconst 0, 1) := by decide +kernel
theorem dX7_why_22 : decode cX7_why 22 = .ok (.iconst 1, 1) := by decide +kernel
theorem dX7_why_23 : decode cX7_why 23 = .ok (.invokestatic 37, 3) := by decide +kernel
theorem dX7_why_26 : decode cX7_why 26 = .ok (.ifCond .ne 6, 3) := by decide +kernel
theorem dX7_why_29 : decode cX7_why 29 = .ok (.bipush (-2), 2) := by decide +kernel
theorem dX7_why_31 : decode cX7_why 31 = .ok (.ireturn, 1) := by decide +kernel
theorem dX7_why_32 : decode cX7_why 32 = .ok (.aload_n 0, 1) := by decide +kernel
theorem dX7_why_33 : decode cX7_why 33 = .ok (.iload_n 1, 1) := by decide +kernel
theorem dX7_why_34 : decode cX7_why 34 = .ok (.iload_n 2, 1) := by decide +kernel
theorem dX7_why_35 : decode cX7_why 35 = .ok (.iload_n 3, 1) := by decide +kernel
theorem dX7_why_36 : decode cX7_why 36 = .ok (.iload 4, 2) := by decide +kernel
theorem dX7_why_38 : decode cX7_why 38 = .ok (.invokevirtual 59, 3) := by decide +kernel
theorem dX7_why_41 : decode cX7_why 41 = .ok (.istore 7, 2) := by decide +kernel
theorem dX7_why_43 : decode cX7_why 43 = .ok (.iload 7, 2) := by decide +kernel
theorem dX7_why_45 : decode cX7_why 45 = .ok (.bipush (-6), 2) := by decide +kernel
theorem dX7_why_47 : decode cX7_why 47 = .ok (.if_icmp .ne 15, 3) := by decide +kernel
theorem dX7_why_50 : decode cX7_why 50 = .ok (.iload 5, 2) := by decide +kernel
theorem dX7_why_52 : decode cX7_why 52 = .ok (.ifCond .ne 7, 3) := by decide +kernel
theorem dX7_why_55 : decode cX7_why 55 = .ok (.iconst 0, 1) := by decide +kernel
theorem dX7_why_56 : decode cX7_why 56 = .ok (.goto 5, 3) := by decide +kernel
theorem dX7_why_59 : decode cX7_why 59 = .ok (.bipush (-6), 2) := by decide +kernel
theorem dX7_why_61 : decode cX7_why 61 = .ok (.ireturn, 1) := by decide +kernel
theorem dX7_why_62 : decode cX7_why 62 = .ok (.iload 5, 2) := by decide +kernel
theorem dX7_why_64 : decode cX7_why 64 = .ok (.ifCond .ne 10, 3) := by decide +kernel
theorem dX7_why_67 : decode cX7_why 67 = .ok (.iload 7, 2) := by decide +kernel
theorem dX7_why_69 : decode cX7_why 69 = .ok (.iconst 4, 1) := by decide +kernel
theorem dX7_why_70 : decode cX7_why 70 = .ok (.irem, 1) := by decide +kernel
theorem dX7_why_71 : decode cX7_why 71 = .ok (.goto 7, 3) := by decide +kernel
theorem dX7_why_74 : decode cX7_why 74 = .ok (.iload 7, 2) := by decide +kernel
theorem dX7_why_76 : decode cX7_why 76 = .ok (.iconst 4, 1) := by decide +kernel
theorem dX7_why_77 : decode cX7_why 77 = .ok (.idiv, 1) := by decide +kernel
theorem dX7_why_78 : decode cX7_why 78 = .ok (.ireturn, 1) := by decide +kernel
set_option maxRecDepth 20000 in
theorem ggX7_leastGap_X7_pairError : GoodIn wsX7_leastGap wsX7_pairError := goodIn_r _ [5, 6, 7, 8, 4, 9, 10, 11, 12, 13, 37, 38, 39, 40, 41, 42, 43, 44, 45, 46, 47] (by decide +kernel) (by decide +kernel)
set_option maxRecDepth 20000 in
theorem gX7_leastGap_X7_pairError : GoodIn wsX7_leastGap (wsV RX7 65 RX7 yX7_pairError wsX7_pairError) := goodIn_app (goodIn_of _ (by decide +kernel)) ggX7_leastGap_X7_pairError
set_option maxRecDepth 20000 in
theorem ggX7_leastGap_X7_least : GoodIn wsX7_leastGap wsX7_least := goodIn_r _ [17, 18, 19, 20, 4, 21, 10, 22, 23, 24, 25, 26, 27, 28, 29, 30, 31, 32, 33, 34, 35, 36, 37, 38, 39, 40, 41, 42, 43, 44, 45, 46, 47] (by decide +kernel) (by decide +kernel)
set_option maxRecDepth 20000 in
theorem gX7_leastGap_X7_least : GoodIn wsX7_leastGap (wsV RX7 122 RX7 yX7_least wsX7_least) := goodIn_app (goodIn_of _ (by decide +kernel)) ggX7_leastGap_X7_least
theorem dX7_leastGap_0 : decode cX7_leastGap 0 = .ok (.aload_n 0, 1) := by decide +kernel
theorem dX7_leastGap_1 : decode cX7_leastGap 1 = .ok (.iload_n 1, 1) := by decide +kernel
theorem dX7_leastGap_2 : decode cX7_leastGap 2 = .ok (.iload_n 2, 1) := by decide +kernel
theorem dX7_leastGap_3 : decode cX7_leastGap 3 = .ok (.iload_n 3, 1) := by decide +kernel
theorem dX7_leastGap_4 : decode cX7_leastGap 4 = .ok (.iconst 0, 1) := by decide +kernel
theorem dX7_leastGap_5 : decode cX7_leastGap 5 = .ok (.invokevirtual 65, 3) := by decide +kernel
theorem dX7_leastGap_8 : decode cX7_leastGap 8 = .ok (.istore 4, 2) := by decide +kernel
theorem dX7_leastGap_10 : decode cX7_leastGap 10 = .ok (.iload 4, 2) := by decide +kernel
theorem dX7_leastGap_12 : decode cX7_leastGap 12 = .ok (.ifCond .ge 8, 3) := by decide +kernel
theorem dX7_leastGap_15 : decode cX7_leastGap 15 = .ok (.iload 4, 2) := by decide +kernel
theorem dX7_leastGap_17 : decode cX7_leastGap 17 = .ok (.goto 10, 3) := by decide +kernel
theorem dX7_leastGap_20 : decode cX7_leastGap 20 = .ok (.aload_n 0, 1) := by decide +kernel
theorem dX7_leastGap_21 : decode cX7_leastGap 21 = .ok (.iload_n 1, 1) := by decide +kernel
theorem dX7_leastGap_22 : decode cX7_leastGap 22 = .ok (.iload_n 2, 1) := by decide +kernel
theorem dX7_leastGap_23 : decode cX7_leastGap 23 = .ok (.iload_n 3, 1) := by decide +kernel
theorem dX7_leastGap_24 : decode cX7_leastGap 24 = .ok (.invokevirtual 122, 3) := by decide +kernel
theorem dX7_leastGap_27 : decode cX7_leastGap 27 = .ok (.ireturn, 1) := by decide +kernel
set_option maxRecDepth 20000 in
theorem ggX7_bestOffset_X7_pairError : GoodIn wsX7_bestOffset wsX7_pairError := goodIn_r _ [5, 6, 7, 8, 4, 9, 10, 11, 12, 13, 37, 38, 39, 40, 41, 42, 43, 44, 45, 46, 47] (by decide +kernel) (by decide +kernel)
set_option maxRecDepth 20000 in
theorem gX7_bestOffset_X7_pairError : GoodIn wsX7_bestOffset (wsV RX7 65 RX7 yX7_pairError wsX7_pairError) := goodIn_app (goodIn_of _ (by decide +kernel)) ggX7_bestOffset_X7_pairError
set_option maxRecDepth 20000 in
theorem ggX7_bestOffset_X7_in : GoodIn wsX7_bestOffset wsX7_in := goodIn_r _ [13] (by decide +kernel) (by decide +kernel)
set_option maxRecDepth 20000 in
theorem gX7_bestOffset_X7_in : GoodIn wsX7_bestOffset (va_wsS RX7 37 yX7_in wsX7_in) := goodIn_app (goodIn_of _ (by decide +kernel)) ggX7_bestOffset_X7_in
set_option maxRecDepth 20000 in
theorem ggX7_bestOffset_X7_least : GoodIn wsX7_bestOffset wsX7_least := goodIn_r _ [17, 18, 19, 20, 4, 21, 10, 22, 23, 24, 25, 26, 27, 28, 29, 30, 31, 32, 33, 34, 35, 36, 37, 38, 39, 40, 41, 42, 43, 44, 45, 46, 47] (by decide +kernel) (by decide +kernel)
set_option maxRecDepth 20000 in
theorem gX7_bestOffset_X7_least : GoodIn wsX7_bestOffset (wsV RX7 122 RX7 yX7_least wsX7_least) := goodIn_app (goodIn_of _ (by decide +kernel)) ggX7_bestOffset_X7_least
theorem dX7_bestOffset_0 : decode cX7_bestOffset 0 = .ok (.aload_n 0, 1) := by decide +kernel
theorem dX7_bestOffset_1 : decode cX7_bestOffset 1 = .ok (.iload_n 1, 1) := by decide +kernel
theorem dX7_bestOffset_2 : decode cX7_bestOffset 2 = .ok (.iload_n 2, 1) := by decide +kernel
theorem dX7_bestOffset_3 : decode cX7_bestOffset 3 = .ok (.iconst 0, 1) := by decide +kernel
theorem dX7_bestOffset_4 : decode cX7_bestOffset 4 = .ok (.iconst 0, 1) := by decide +kernel
theorem dX7_bestOffset_5 : decode cX7_bestOffset 5 = .ok (.invokevirtual 65, 3) := by decide +kernel
theorem dX7_bestOffset_8 : decode cX7_bestOffset 8 = .ok (.istore 4, 2) := by decide +kernel
theorem dX7_bestOffset_10 : decode cX7_bestOffset 10 = .ok (.iload 4, 2) := by decide +kernel
theorem dX7_bestOffset_12 : decode cX7_bestOffset 12 = .ok (.ifCond .ge 6, 3) := by decide +kernel
theorem dX7_bestOffset_15 : decode cX7_bestOffset 15 = .ok (.iload 4, 2) := by decide +kernel
theorem dX7_bestOffset_17 : decode cX7_bestOffset 17 = .ok (.ireturn, 1) := by decide +kernel
theorem dX7_bestOffset_18 : decode cX7_bestOffset 18 = .ok (.iload_n 3, 1) := by decide +kernel
theorem dX7_bestOffset_19 : decode cX7_bestOffset 19 = .ok (.iconst 0, 1) := by decide +kernel
theorem dX7_bestOffset_20 : decode cX7_bestOffset 20 = .ok (.iconst 1, 1) := by decide +kernel
theorem dX7_bestOffset_21 : decode cX7_bestOffset 21 = .ok (.invokestatic 37, 3) := by decide +kernel
theorem dX7_bestOffset_24 : decode cX7_bestOffset 24 = .ok (.ifCond .ne 6, 3) := by decide +kernel
theorem dX7_bestOffset_27 : decode cX7_bestOffset 27 = .ok (.bipush (-2), 2) := by decide +kernel
theorem dX7_bestOffset_29 : decode cX7_bestOffset 29 = .ok (.ireturn, 1) := by decide +kernel
theorem dX7_bestOffset_30 : decode cX7_bestOffset 30 = .ok (.bipush (-6), 2) := by decide +kernel
theorem dX7_bestOffset_32 : decode cX7_bestOffset 32 = .ok (.istore 5, 2) := by decide +kernel
theorem dX7_bestOffset_34 : decode cX7_bestOffset 34 = .ok (.bipush (-6), 2) := by decide +kernel
theorem dX7_bestOffset_36 : decode cX7_bestOffset 36 = .ok (.istore 6, 2) := by decide +kernel
theorem dX7_bestOffset_38 : decode cX7_bestOffset 38 = .ok (.iconst 0, 1) := by decide +kernel
theorem dX7_bestOffset_39 : decode cX7_bestOffset 39 = .ok (.istore 7, 2) := by decide +kernel
theorem dX7_bestOffset_41 : decode cX7_bestOffset 41 = .ok (.iload 7, 2) := by decide +kernel
theorem dX7_bestOffset_43 : decode cX7_bestOffset 43 = .ok (.bipush 24, 2) := by decide +kernel
theorem dX7_bestOffset_45 : decode cX7_bestOffset 45 = .ok (.if_icmp .ge 75, 3) := by decide +kernel
theorem dX7_bestOffset_48 : decode cX7_bestOffset 48 = .ok (.aload_n 0, 1) := by decide +kernel
theorem dX7_bestOffset_49 : decode cX7_bestOffset 49 = .ok (.iload_n 1, 1) := by decide +kernel
theorem dX7_bestOffset_50 : decode cX7_bestOffset 50 = .ok (.iload_n 2, 1) := by decide +kernel
theorem dX7_bestOffset_51 : decode cX7_bestOffset 51 = .ok (.iload 7, 2) := by decide +kernel
theorem dX7_bestOffset_53 : decode cX7_bestOffset 53 = .ok (.invokevirtual 122, 3) := by decide +kernel
theorem dX7_bestOffset_56 : decode cX7_bestOffset 56 = .ok (.istore 8, 2) := by decide +kernel
theorem dX7_bestOffset_58 : decode cX7_bestOffset 58 = .ok (.iload 8, 2) := by decide +kernel
theorem dX7_bestOffset_60 : decode cX7_bestOffset 60 = .ok (.bipush (-6), 2) := by decide +kernel
theorem dX7_bestOffset_62 : decode cX7_bestOffset 62 = .ok (.if_icmp .eq 21, 3) := by decide +kernel
theorem dX7_bestOffset_65 : decode cX7_bestOffset 65 = .ok (.iload 5, 2) := by decide +kernel
theorem dX7_bestOffset_67 : decode cX7_bestOffset 67 = .ok (.bipush (-6), 2) := by decide +kernel
theorem dX7_bestOffset_69 : decode cX7_bestOffset 69 = .ok (.if_icmp .eq 10, 3) := by decide +kernel
theorem dX7_bestOffset_72 : decode cX7_bestOffset 72 = .ok (.iload 8, 2) := by decide +kernel
theorem dX7_bestOffset_74 : decode cX7_bestOffset 74 = .ok (.iload 6, 2) := by decide +kernel
theorem dX7_bestOffset_76 : decode cX7_bestOffset 76 = .ok (.if_icmp .ge 7, 3) := by decide +kernel
theorem dX7_bestOffset_79 : decode cX7_bestOffset 79 = .ok (.iconst 1, 1) := by decide +kernel
theorem dX7_bestOffset_80 : decode cX7_bestOffset 80 = .ok (.goto 4, 3) := by decide +kernel
theorem dX7_bestOffset_83 : decode cX7_bestOffset 83 = .ok (.iconst 0, 1) := by decide +kernel
theorem dX7_bestOffset_84 : decode cX7_bestOffset 84 = .ok (.istore 9, 2) := by decide +kernel
theorem dX7_bestOffset_86 : decode cX7_bestOffset 86 = .ok (.iload 9, 2) := by decide +kernel
theorem dX7_bestOffset_88 : decode cX7_bestOffset 88 = .ok (.ifCond .eq 8, 3) := by decide +kernel
theorem dX7_bestOffset_91 : decode cX7_bestOffset 91 = .ok (.iload 7, 2) := by decide +kernel
theorem dX7_bestOffset_93 : decode cX7_bestOffset 93 = .ok (.goto 5, 3) := by decide +kernel
theorem dX7_bestOffset_96 : decode cX7_bestOffset 96 = .ok (.iload 5, 2) := by decide +kernel
theorem dX7_bestOffset_98 : decode cX7_bestOffset 98 = .ok (.istore 5, 2) := by decide +kernel
theorem dX7_bestOffset_100 : decode cX7_bestOffset 100 = .ok (.iload 9, 2) := by decide +kernel
theorem dX7_bestOffset_102 : decode cX7_bestOffset 102 = .ok (.ifCond .eq 8, 3) := by decide +kernel
theorem dX7_bestOffset_105 : decode cX7_bestOffset 105 = .ok (.iload 8, 2) := by decide +kernel
theorem dX7_bestOffset_107 : decode cX7_bestOffset 107 = .ok (.goto 5, 3) := by decide +kernel
theorem dX7_bestOffset_110 : decode cX7_bestOffset 110 = .ok (.iload 6, 2) := by decide +kernel
theorem dX7_bestOffset_112 : decode cX7_bestOffset 112 = .ok (.istore 6, 2) := by decide +kernel
theorem dX7_bestOffset_114 : decode cX7_bestOffset 114 = .ok (.iinc 7 1, 3) := by decide +kernel
theorem dX7_bestOffset_117 : decode cX7_bestOffset 117 = .ok (.goto (-76), 3) := by decide +kernel
theorem dX7_bestOffset_120 : decode cX7_bestOffset 120 = .ok (.iload_n 3, 1) := by decide +kernel
theorem dX7_bestOffset_121 : decode cX7_bestOffset 121 = .ok (.ifCond .ne 8, 3) := by decide +kernel
theorem dX7_bestOffset_124 : decode cX7_bestOffset 124 = .ok (.iload 5, 2) := by decide +kernel
theorem dX7_bestOffset_126 : decode cX7_bestOffset 126 = .ok (.goto 5, 3) := by decide +kernel
theorem dX7_bestOffset_129 : decode cX7_bestOffset 129 = .ok (.iload 6, 2) := by decide +kernel
theorem dX7_bestOffset_131 : decode cX7_bestOffset 131 = .ok (.ireturn, 1) := by decide +kernel
set_option maxRecDepth 20000 in
theorem ggX7_holds_X7_turn : GoodIn wsX7_holds wsX7_turn := goodIn_r _ [6, 7, 8, 9, 5, 10, 11, 23, 24, 25, 26, 27, 28, 29, 30, 31, 32, 33] (by decide +kernel) (by decide +kernel)
set_option maxRecDepth 20000 in
theorem gX7_holds_X7_turn : GoodIn wsX7_holds (wsV RX7 49 RX7 yX7_turn wsX7_turn) := goodIn_app (goodIn_of _ (by decide +kernel)) ggX7_holds_X7_turn
set_option maxRecDepth 20000 in
theorem ggX7_holds_X7_press : GoodIn wsX7_holds wsX7_press := goodIn_r _ [15, 7, 8, 9, 5, 10, 11, 23, 24, 25, 26, 27, 28, 29, 30, 31, 32, 33] (by decide +kernel) (by decide +kernel)
set_option maxRecDepth 20000 in
theorem gX7_holds_X7_press : GoodIn wsX7_holds (wsV RX7 52 RX7 yX7_press wsX7_press) := goodIn_app (goodIn_of _ (by decide +kernel)) ggX7_holds_X7_press
set_option maxRecDepth 20000 in
theorem ggX7_holds_X7_tears : GoodIn wsX7_holds wsX7_tears := goodIn_r _ [19, 1, 11, 20, 21, 5, 22, 23, 24, 25, 26, 27, 28, 29, 30, 31, 32, 33] (by decide +kernel) (by decide +kernel)
set_option maxRecDepth 20000 in
theorem gX7_holds_X7_tears : GoodIn wsX7_holds (wsV RX7 68 RX7 yX7_tears wsX7_tears) := goodIn_app (goodIn_of _ (by decide +kernel)) ggX7_holds_X7_tears
theorem dX7_holds_0 : decode cX7_holds 0 = .ok (.aload_n 0, 1) := by decide +kernel
theorem dX7_holds_1 : decode cX7_holds 1 = .ok (.iload_n 1, 1) := by decide +kernel
theorem dX7_holds_2 : decode cX7_holds 2 = .ok (.iload_n 2, 1) := by decide +kernel
theorem dX7_holds_3 : decode cX7_holds 3 = .ok (.invokevirtual 49, 3) := by decide +kernel
theorem dX7_holds_6 : decode cX7_holds 6 = .ok (.istore 6, 2) := by decide +kernel
theorem dX7_holds_8 : decode cX7_holds 8 = .ok (.aload_n 0, 1) := by decide +kernel
theorem dX7_holds_9 : decode cX7_holds 9 = .ok (.bipush (-6), 2) := by decide +kernel
theorem dX7_holds_11 : decode cX7_holds 11 = .ok (.putfield 62, 3) := by decide +kernel
theorem dX7_holds_14 : decode cX7_holds 14 = .ok (.iconst 1, 1) := by decide +kernel
theorem dX7_holds_15 : decode cX7_holds 15 = .ok (.istore 7, 2) := by decide +kernel
theorem dX7_holds_17 : decode cX7_holds 17 = .ok (.iconst 0, 1) := by decide +kernel
theorem dX7_holds_18 : decode cX7_holds 18 = .ok (.istore 8, 2) := by decide +kernel
theorem dX7_holds_20 : decode cX7_holds 20 = .ok (.iload 8, 2) := by decide +kernel
theorem dX7_holds_22 : decode cX7_holds 22 = .ok (.iload 6, 2) := by decide +kernel
theorem dX7_holds_24 : decode cX7_holds 24 = .ok (.if_icmp .ge 42, 3) := by decide +kernel
theorem dX7_holds_27 : decode cX7_holds 27 = .ok (.iload 7, 2) := by decide +kernel
theorem dX7_holds_29 : decode cX7_holds 29 = .ok (.ifCond .eq 37, 3) := by decide +kernel
theorem dX7_holds_32 : decode cX7_holds 32 = .ok (.aload_n 0, 1) := by decide +kernel
theorem dX7_holds_33 : decode cX7_holds 33 = .ok (.iload 5, 2) := by decide +kernel
theorem dX7_holds_35 : decode cX7_holds 35 = .ok (.aload_n 0, 1) := by decide +kernel
theorem dX7_holds_36 : decode cX7_holds 36 = .ok (.iload_n 1, 1) := by decide +kernel
theorem dX7_holds_37 : decode cX7_holds 37 = .ok (.iload_n 2, 1) := by decide +kernel
theorem dX7_holds_38 : decode cX7_holds 38 = .ok (.iload_n 3, 1) := by decide +kernel
theorem dX7_holds_39 : decode cX7_holds 39 = .ok (.iload 8, 2) := by decide +kernel
theorem dX7_holds_41 : decode cX7_holds 41 = .ok (.invokevirtual 52, 3) := by decide +kernel
theorem dX7_holds_44 : decode cX7_holds 44 = .ok (.iload 4, 2) := by decide +kernel
theorem dX7_holds_46 : decode cX7_holds 46 = .ok (.iadd, 1) := by decide +kernel
theorem dX7_holds_47 : decode cX7_holds 47 = .ok (.invokevirtual 68, 3) := by decide +kernel
theorem dX7_holds_50 : decode cX7_holds 50 = .ok (.ifCond .ne 7, 3) := by decide +kernel
theorem dX7_holds_53 : decode cX7_holds 53 = .ok (.iconst 1, 1) := by decide +kernel
theorem dX7_holds_54 : decode cX7_holds 54 = .ok (.goto 4, 3) := by decide +kernel
theorem dX7_holds_57 : decode cX7_holds 57 = .ok (.iconst 0, 1) := by decide +kernel
theorem dX7_holds_58 : decode cX7_holds 58 = .ok (.istore 7, 2) := by decide +kernel
theorem dX7_holds_60 : decode cX7_holds 60 = .ok (.iinc 8 1, 3) := by decide +kernel
theorem dX7_holds_63 : decode cX7_holds 63 = .ok (.goto (-43), 3) := by decide +kernel
theorem dX7_holds_66 : decode cX7_holds 66 = .ok (.iload 7, 2) := by decide +kernel
theorem dX7_holds_68 : decode cX7_holds 68 = .ok (.ireturn, 1) := by decide +kernel
set_option maxRecDepth 20000 in
theorem ggX7_thickest_X7_pairError : GoodIn wsX7_thickest wsX7_pairError := goodIn_r _ [5, 6, 7, 8, 4, 9, 10, 11, 12, 13, 42, 43, 44, 45, 46, 47, 48, 49, 50, 51, 52] (by decide +kernel) (by decide +kernel)
set_option maxRecDepth 20000 in
theorem gX7_thickest_X7_pairError : GoodIn wsX7_thickest (wsV RX7 65 RX7 yX7_pairError wsX7_pairError) := goodIn_app (goodIn_of _ (by decide +kernel)) ggX7_thickest_X7_pairError
set_option maxRecDepth 20000 in
theorem ggX7_thickest_X7_against : GoodIn wsX7_thickest wsX7_against := goodIn_r _ [17, 10, 18, 19, 20, 4, 21, 22, 23, 24, 25, 26, 27, 28, 29, 30, 31, 32, 42, 43, 44, 45, 46, 47, 48, 49, 50, 51, 52] (by decide +kernel) (by decide +kernel)
set_option maxRecDepth 20000 in
theorem gX7_thickest_X7_against : GoodIn wsX7_thickest (wsV RX7 59 RX7 yX7_against wsX7_against) := goodIn_app (goodIn_of _ (by decide +kernel)) ggX7_thickest_X7_against
set_option maxRecDepth 20000 in
theorem ggX7_thickest_X7_holds : GoodIn wsX7_thickest wsX7_holds := goodIn_r _ [36, 37, 18, 19, 20, 4, 21, 22, 23, 24, 25, 10, 26, 27, 28, 29, 38, 39, 40, 41, 30, 31, 32, 42, 43, 44, 45, 46, 47, 48, 49, 50, 51, 52] (by decide +kernel) (by decide +kernel)
set_option maxRecDepth 20000 in
theorem gX7_thickest_X7_holds : GoodIn wsX7_thickest (wsV RX7 125 RX7 yX7_holds wsX7_holds) := goodIn_app (goodIn_of _ (by decide +kernel)) ggX7_thickest_X7_holds
theorem dX7_thickest_0 : decode cX7_thickest 0 = .ok (.aload_n 0, 1) := by decide +kernel
theorem dX7_thickest_1 : decode cX7_thickest 1 = .ok (.iload_n 1, 1) := by decide +kernel
theorem dX7_thickest_2 : decode cX7_thickest 2 = .ok (.iload_n 2, 1) := by decide +kernel
theorem dX7_thickest_3 : decode cX7_thickest 3 = .ok (.iload_n 3, 1) := by decide +kernel
theorem dX7_thickest_4 : decode cX7_thickest 4 = .ok (.iload 4, 2) := by decide +kernel
theorem dX7_thickest_6 : decode cX7_thickest 6 = .ok (.invokevirtual 65, 3) := by decide +kernel
theorem dX7_thickest_9 : decode cX7_thickest 9 = .ok (.istore 5, 2) := by decide +kernel
theorem dX7_thickest_11 : decode cX7_thickest 11 = .ok (.iload 5, 2) := by decide +kernel
theorem dX7_thickest_13 : decode cX7_thickest 13 = .ok (.ifCond .ge 6, 3) := by decide +kernel
theorem dX7_thickest_16 : decode cX7_thickest 16 = .ok (.iload 5, 2) := by decide +kernel
theorem dX7_thickest_18 : decode cX7_thickest 18 = .ok (.ireturn, 1) := by decide +kernel
theorem dX7_thickest_19 : decode cX7_thickest 19 = .ok (.aload_n 0, 1) := by decide +kernel
theorem dX7_thickest_20 : decode cX7_thickest 20 = .ok (.iload_n 1, 1) := by decide +kernel
theorem dX7_thickest_21 : decode cX7_thickest 21 = .ok (.iload_n 2, 1) := by decide +kernel
theorem dX7_thickest_22 : decode cX7_thickest 22 = .ok (.iload_n 3, 1) := by decide +kernel
theorem dX7_thickest_23 : decode cX7_thickest 23 = .ok (.iload 4, 2) := by decide +kernel
theorem dX7_thickest_25 : decode cX7_thickest 25 = .ok (.invokevirtual 59, 3) := by decide +kernel
theorem dX7_thickest_28 : decode cX7_thickest 28 = .ok (.bipush (-6), 2) := by decide +kernel
theorem dX7_thickest_30 : decode cX7_thickest 30 = .ok (.if_icmp .eq 6, 3) := by decide +kernel
theorem dX7_thickest_33 : decode cX7_thickest 33 = .ok (.bipush (-6), 2) := by decide +kernel
theorem dX7_thickest_35 : decode cX7_thickest 35 = .ok (.ireturn, 1) := by decide +kernel
theorem dX7_thickest_36 : decode cX7_thickest 36 = .ok (.bipush 30, 2) := by decide +kernel
theorem dX7_thickest_38 : decode cX7_thickest 38 = .ok (.istore 6, 2) := by decide +kernel
theorem dX7_thickest_40 : decode cX7_thickest 40 = .ok (.iload 6, 2) := by decide +kernel
theorem dX7_thickest_42 : decode cX7_thickest 42 = .ok (.ifCond .le 23, 3) := by decide +kernel
theorem dX7_thickest_45 : decode cX7_thickest 45 = .ok (.aload_n 0, 1) := by decide +kernel
theorem dX7_thickest_46 : decode cX7_thickest 46 = .ok (.iload_n 1, 1) := by decide +kernel
theorem dX7_thickest_47 : decode cX7_thickest 47 = .ok (.iload_n 2, 1) := by decide +kernel
theorem dX7_thickest_48 : decode cX7_thickest 48 = .ok (.iload_n 3, 1) := by decide +kernel
theorem dX7_thickest_49 : decode cX7_thickest 49 = .ok (.iload 4, 2) := by decide +kernel
theorem dX7_thickest_51 : decode cX7_thickest 51 = .ok (.iload 6, 2) := by decide +kernel
theorem dX7_thickest_53 : decode cX7_thickest 53 = .ok (.invokevirtual 125, 3) := by decide +kernel
theorem dX7_thickest_56 : decode cX7_thickest 56 = .ok (.ifCond .ne 9, 3) := by decide +kernel
theorem dX7_thickest_59 : decode cX7_thickest 59 = .ok (.iinc 6 (-1), 3) := by decide +kernel
theorem dX7_thickest_62 : decode cX7_thickest 62 = .ok (.goto (-22), 3) := by decide +kernel
theorem dX7_thickest_65 : decode cX7_thickest 65 = .ok (.iload 6, 2) := by decide +kernel
theorem dX7_thickest_67 : decode cX7_thickest 67 = .ok (.ifCond .ne 8, 3) := by decide +kernel
theorem dX7_thickest_70 : decode cX7_thickest 70 = .ok (.bipush (-6), 2) := by decide +kernel
theorem dX7_thickest_72 : decode cX7_thickest 72 = .ok (.goto 5, 3) := by decide +kernel
theorem dX7_thickest_75 : decode cX7_thickest 75 = .ok (.iload 6, 2) := by decide +kernel
theorem dX7_thickest_77 : decode cX7_thickest 77 = .ok (.ireturn, 1) := by decide +kernel
set_option maxRecDepth 20000 in
theorem ggX7_put_X7_in : GoodIn wsX7_put wsX7_in := goodIn_r _ [7] (by decide +kernel) (by decide +kernel)
set_option maxRecDepth 20000 in
theorem gX7_put_X7_in : GoodIn wsX7_put (va_wsS RX7 37 yX7_in wsX7_in) := goodIn_app (goodIn_of _ (by decide +kernel)) ggX7_put_X7_in
theorem dX7_put_0 : decode cX7_put 0 = .ok (.iconst 0, 1) := by decide +kernel
theorem dX7_put_1 : decode cX7_put 1 = .ok (.istore_n 3, 1) := by decide +kernel
theorem dX7_put_2 : decode cX7_put 2 = .ok (.lload_n 1, 1) := by decide +kernel
theorem dX7_put_3 : decode cX7_put 3 = .ok (.lstore 4, 2) := by decide +kernel
theorem dX7_put_5 : decode cX7_put 5 = .ok (.iconst 1, 1) := by decide +kernel
theorem dX7_put_6 : decode cX7_put 6 = .ok (.istore 6, 2) := by decide +kernel
theorem dX7_put_8 : decode cX7_put 8 = .ok (.iload_n 3, 1) := by decide +kernel
theorem dX7_put_9 : decode cX7_put 9 = .ok (.bipush 8, 2) := by decide +kernel
theorem dX7_put_11 : decode cX7_put 11 = .ok (.if_icmp .ge 56, 3) := by decide +kernel
theorem dX7_put_14 : decode cX7_put 14 = .ok (.lload 4, 2) := by decide +kernel
theorem dX7_put_16 : decode cX7_put 16 = .ok (.ldc2_w 129, 3) := by decide +kernel
theorem dX7_put_19 : decode cX7_put 19 = .ok (.land, 1) := by decide +kernel
theorem dX7_put_20 : decode cX7_put 20 = .ok (.lconst 0, 1) := by decide +kernel
theorem dX7_put_21 : decode cX7_put 21 = .ok (.lcmp, 1) := by decide +kernel
theorem dX7_put_22 : decode cX7_put 22 = .ok (.ifCond .eq 45, 3) := by decide +kernel
theorem dX7_put_25 : decode cX7_put 25 = .ok (.iload 6, 2) := by decide +kernel
theorem dX7_put_27 : decode cX7_put 27 = .ok (.ifCond .eq 24, 3) := by decide +kernel
theorem dX7_put_30 : decode cX7_put 30 = .ok (.lload 4, 2) := by decide +kernel
theorem dX7_put_32 : decode cX7_put 32 = .ok (.ldc2_w 129, 3) := by decide +kernel
theorem dX7_put_35 : decode cX7_put 35 = .ok (.land, 1) := by decide +kernel
theorem dX7_put_36 : decode cX7_put 36 = .ok (.l2i, 1) := by decide +kernel
theorem dX7_put_37 : decode cX7_put 37 = .ok (.bipush 33, 2) := by decide +kernel
theorem dX7_put_39 : decode cX7_put 39 = .ok (.bipush 126, 2) := by decide +kernel
theorem dX7_put_41 : decode cX7_put 41 = .ok (.invokestatic 37, 3) := by decide +kernel
theorem dX7_put_44 : decode cX7_put 44 = .ok (.ifCond .eq 7, 3) := by decide +kernel
theorem dX7_put_47 : decode cX7_put 47 = .ok (.iconst 1, 1) := by decide +kernel
theorem dX7_put_48 : decode cX7_put 48 = .ok (.goto 4, 3) := by decide +kernel
theorem dX7_put_51 : decode cX7_put 51 = .ok (.iconst 0, 1) := by decide +kernel
theorem dX7_put_52 : decode cX7_put 52 = .ok (.istore 6, 2) := by decide +kernel
theorem dX7_put_54 : decode cX7_put 54 = .ok (.lload 4, 2) := by decide +kernel
theorem dX7_put_56 : decode cX7_put 56 = .ok (.bipush 8, 2) := by decide +kernel
theorem dX7_put_58 : decode cX7_put 58 = .ok (.lushr, 1) := by decide +kernel
theorem dX7_put_59 : decode cX7_put 59 = .ok (.lstore 4, 2) := by decide +kernel
theorem dX7_put_61 : decode cX7_put 61 = .ok (.iinc 3 1, 3) := by decide +kernel
theorem dX7_put_64 : decode cX7_put 64 = .ok (.goto (-56), 3) := by decide +kernel
theorem dX7_put_67 : decode cX7_put 67 = .ok (.iload_n 3, 1) := by decide +kernel
theorem dX7_put_68 : decode cX7_put 68 = .ok (.ifCond .eq 15, 3) := by decide +kernel
theorem dX7_put_71 : decode cX7_put 71 = .ok (.iload 6, 2) := by decide +kernel
theorem dX7_put_73 : decode cX7_put 73 = .ok (.ifCond .eq 10, 3) := by decide +kernel
theorem dX7_put_76 : decode cX7_put 76 = .ok (.lload 4, 2) := by decide +kernel
theorem dX7_put_78 : decode cX7_put 78 = .ok (.lconst 0, 1) := by decide +kernel
theorem dX7_put_79 : decode cX7_put 79 = .ok (.lcmp, 1) := by decide +kernel
theorem dX7_put_80 : decode cX7_put 80 = .ok (.ifCond .eq 6, 3) := by decide +kernel
theorem dX7_put_83 : decode cX7_put 83 = .ok (.bipush (-2), 2) := by decide +kernel
theorem dX7_put_85 : decode cX7_put 85 = .ok (.ireturn, 1) := by decide +kernel
theorem dX7_put_86 : decode cX7_put 86 = .ok (.aload_n 0, 1) := by decide +kernel
theorem dX7_put_87 : decode cX7_put 87 = .ok (.getfield 115, 3) := by decide +kernel
theorem dX7_put_90 : decode cX7_put 90 = .ok (.iload_n 3, 1) := by decide +kernel
theorem dX7_put_91 : decode cX7_put 91 = .ok (.iadd, 1) := by decide +kernel
theorem dX7_put_92 : decode cX7_put 92 = .ok (.bipush 80, 2) := by decide +kernel
theorem dX7_put_94 : decode cX7_put 94 = .ok (.if_icmp .le 6, 3) := by decide +kernel
theorem dX7_put_97 : decode cX7_put 97 = .ok (.bipush (-4), 2) := by decide +kernel
theorem dX7_put_99 : decode cX7_put 99 = .ok (.ireturn, 1) := by decide +kernel
theorem dX7_put_100 : decode cX7_put 100 = .ok (.iload_n 3, 1) := by decide +kernel
theorem dX7_put_101 : decode cX7_put 101 = .ok (.iconst 1, 1) := by decide +kernel
theorem dX7_put_102 : decode cX7_put 102 = .ok (.isub, 1) := by decide +kernel
theorem dX7_put_103 : decode cX7_put 103 = .ok (.istore 7, 2) := by decide +kernel
theorem dX7_put_105 : decode cX7_put 105 = .ok (.iload 7, 2) := by decide +kernel
theorem dX7_put_107 : decode cX7_put 107 = .ok (.ifCond .lt 40, 3) := by decide +kernel
theorem dX7_put_110 : decode cX7_put 110 = .ok (.aload_n 0, 1) := by decide +kernel
theorem dX7_put_111 : decode cX7_put 111 = .ok (.getfield 23, 3) := by decide +kernel
theorem dX7_put_114 : decode cX7_put 114 = .ok (.aload_n 0, 1) := by decide +kernel
theorem dX7_put_115 : decode cX7_put 115 = .ok (.getfield 115, 3) := by decide +kernel
theorem dX7_put_118 : decode cX7_put 118 = .ok (.lload_n 1, 1) := by decide +kernel
theorem dX7_put_119 : decode cX7_put 119 = .ok (.bipush 8, 2) := by decide +kernel
theorem dX7_put_121 : decode cX7_put 121 = .ok (.iload 7, 2) := by decide +kernel
theorem dX7_put_123 : decode cX7_put 123 = .ok (.imul, 1) := by decide +kernel
theorem dX7_put_124 : decode cX7_put 124 = .ok (.lushr, 1) := by decide +kernel
theorem dX7_put_125 : decode cX7_put 125 = .ok (.ldc2_w 129, 3) := by decide +kernel
theorem dX7_put_128 : decode cX7_put 128 = .ok (.land, 1) := by decide +kernel
theorem dX7_put_129 : decode cX7_put 129 = .ok (.l2i, 1) := by decide +kernel
theorem dX7_put_130 : decode cX7_put 130 = .ok (.iastore, 1) := by decide +kernel
theorem dX7_put_131 : decode cX7_put 131 = .ok (.aload_n 0, 1) := by decide +kernel
theorem dX7_put_132 : decode cX7_put 132 = .ok (.dup, 1) := by decide +kernel
theorem dX7_put_133 : decode cX7_put 133 = .ok (.getfield 115, 3) := by decide +kernel
theorem dX7_put_136 : decode cX7_put 136 = .ok (.iconst 1, 1) := by decide +kernel
theorem dX7_put_137 : decode cX7_put 137 = .ok (.iadd, 1) := by decide +kernel
theorem dX7_put_138 : decode cX7_put 138 = .ok (.putfield 115, 3) := by decide +kernel
theorem dX7_put_141 : decode cX7_put 141 = .ok (.iinc 7 (-1), 3) := by decide +kernel
theorem dX7_put_144 : decode cX7_put 144 = .ok (.goto (-39), 3) := by decide +kernel
theorem dX7_put_147 : decode cX7_put 147 = .ok (.aload_n 0, 1) := by decide +kernel
theorem dX7_put_148 : decode cX7_put 148 = .ok (.getfield 115, 3) := by decide +kernel
theorem dX7_put_151 : decode cX7_put 151 = .ok (.ireturn, 1) := by decide +kernel
theorem dX7_wipe_0 : decode cX7_wipe 0 = .ok (.aload_n 0, 1) := by decide +kernel
theorem dX7_wipe_1 : decode cX7_wipe 1 = .ok (.getfield 115, 3) := by decide +kernel
theorem dX7_wipe_4 : decode cX7_wipe 4 = .ok (.istore_n 1, 1) := by decide +kernel
theorem dX7_wipe_5 : decode cX7_wipe 5 = .ok (.aload_n 0, 1) := by decide +kernel
theorem dX7_wipe_6 : decode cX7_wipe 6 = .ok (.iconst 0, 1) := by decide +kernel
theorem dX7_wipe_7 : decode cX7_wipe 7 = .ok (.putfield 115, 3) := by decide +kernel
theorem dX7_wipe_10 : decode cX7_wipe 10 = .ok (.iload_n 1, 1) := by decide +kernel
theorem dX7_wipe_11 : decode cX7_wipe 11 = .ok (.ireturn, 1) := by decide +kernel
set_option maxRecDepth 20000 in
theorem ggX7_sees_X7_in : GoodIn wsX7_sees wsX7_in := goodIn_r _ [7] (by decide +kernel) (by decide +kernel)
set_option maxRecDepth 20000 in
theorem gX7_sees_X7_in : GoodIn wsX7_sees (va_wsS RX7 37 yX7_in wsX7_in) := goodIn_app (goodIn_of _ (by decide +kernel)) ggX7_sees_X7_in
theorem dX7_sees_0 : decode cX7_sees 0 = .ok (.aload_n 0, 1) := by decide +kernel
theorem dX7_sees_1 : decode cX7_sees 1 = .ok (.getfield 131, 3) := by decide +kernel
theorem dX7_sees_4 : decode cX7_sees 4 = .ok (.aload_n 0, 1) := by decide +kernel
theorem dX7_sees_5 : decode cX7_sees 5 = .ok (.getfield 115, 3) := by decide +kernel
theorem dX7_sees_8 : decode cX7_sees 8 = .ok (.if_icmp .ge 24, 3) := by decide +kernel
theorem dX7_sees_11 : decode cX7_sees 11 = .ok (.aload_n 0, 1) := by decide +kernel
theorem dX7_sees_12 : decode cX7_sees 12 = .ok (.getfield 23, 3) := by decide +kernel
theorem dX7_sees_15 : decode cX7_sees 15 = .ok (.aload_n 0, 1) := by decide +kernel
theorem dX7_sees_16 : decode cX7_sees 16 = .ok (.getfield 131, 3) := by decide +kernel
theorem dX7_sees_19 : decode cX7_sees 19 = .ok (.iaload, 1) := by decide +kernel
theorem dX7_sees_20 : decode cX7_sees 20 = .ok (.iload_n 1, 1) := by decide +kernel
theorem dX7_sees_21 : decode cX7_sees 21 = .ok (.iload_n 2, 1) := by decide +kernel
theorem dX7_sees_22 : decode cX7_sees 22 = .ok (.invokestatic 37, 3) := by decide +kernel
theorem dX7_sees_25 : decode cX7_sees 25 = .ok (.ifCond .eq 7, 3) := by decide +kernel
theorem dX7_sees_28 : decode cX7_sees 28 = .ok (.iconst 1, 1) := by decide +kernel
theorem dX7_sees_29 : decode cX7_sees 29 = .ok (.goto 4, 3) := by decide +kernel
theorem dX7_sees_32 : decode cX7_sees 32 = .ok (.iconst 0, 1) := by decide +kernel
theorem dX7_sees_33 : decode cX7_sees 33 = .ok (.ireturn, 1) := by decide +kernel
set_option maxRecDepth 20000 in
theorem ggX7_takes_X7_sees : GoodIn wsX7_takes wsX7_sees := goodIn_r _ [6, 1, 7, 8, 9, 10, 5, 11, 12, 13, 14, 15, 16, 17, 18, 19, 20, 21, 22] (by decide +kernel) (by decide +kernel)
set_option maxRecDepth 20000 in
theorem gX7_takes_X7_sees : GoodIn wsX7_takes (wsV RX7 134 RX7 yX7_sees wsX7_sees) := goodIn_app (goodIn_of _ (by decide +kernel)) ggX7_takes_X7_sees
theorem dX7_takes_0 : decode cX7_takes 0 = .ok (.aload_n 0, 1) := by decide +kernel
theorem dX7_takes_1 : decode cX7_takes 1 = .ok (.iload_n 1, 1) := by decide +kernel
theorem dX7_takes_2 : decode cX7_takes 2 = .ok (.iload_n 1, 1) := by decide +kernel
theorem dX7_takes_3 : decode cX7_takes 3 = .ok (.invokevirtual 134, 3) := by decide +kernel
theorem dX7_takes_6 : decode cX7_takes 6 = .ok (.istore_n 2, 1) := by decide +kernel
theorem dX7_takes_7 : decode cX7_takes 7 = .ok (.aload_n 0, 1) := by decide +kernel
theorem dX7_takes_8 : decode cX7_takes 8 = .ok (.dup, 1) := by decide +kernel
theorem dX7_takes_9 : decode cX7_takes 9 = .ok (.getfield 131, 3) := by decide +kernel
theorem dX7_takes_12 : decode cX7_takes 12 = .ok (.iload_n 2, 1) := by decide +kernel
theorem dX7_takes_13 : decode cX7_takes 13 = .ok (.ifCond .eq 7, 3) := by decide +kernel
theorem dX7_takes_16 : decode cX7_takes 16 = .ok (.iconst 1, 1) := by decide +kernel
theorem dX7_takes_17 : decode cX7_takes 17 = .ok (.goto 4, 3) := by decide +kernel
theorem dX7_takes_20 : decode cX7_takes 20 = .ok (.iconst 0, 1) := by decide +kernel
theorem dX7_takes_21 : decode cX7_takes 21 = .ok (.iadd, 1) := by decide +kernel
theorem dX7_takes_22 : decode cX7_takes 22 = .ok (.putfield 131, 3) := by decide +kernel
theorem dX7_takes_25 : decode cX7_takes 25 = .ok (.iload_n 2, 1) := by decide +kernel
theorem dX7_takes_26 : decode cX7_takes 26 = .ok (.ireturn, 1) := by decide +kernel
set_option maxRecDepth 20000 in
theorem ggX7_isNumber_X7_sees : GoodIn wsX7_isNumber wsX7_sees := goodIn_r _ [9, 2, 10, 1, 11, 12, 8, 13, 14, 15, 16, 17, 18, 19, 20, 21, 22, 23, 24] (by decide +kernel) (by decide +kernel)
set_option maxRecDepth 20000 in
theorem gX7_isNumber_X7_sees : GoodIn wsX7_isNumber (wsV RX7 134 RX7 yX7_sees wsX7_sees) := goodIn_app (goodIn_of _ (by decide +kernel)) ggX7_isNumber_X7_sees
theorem dX7_isNumber_0 : decode cX7_isNumber 0 = .ok (.aload_n 0, 1) := by decide +kernel
theorem dX7_isNumber_1 : decode cX7_isNumber 1 = .ok (.bipush 48, 2) := by decide +kernel
theorem dX7_isNumber_3 : decode cX7_isNumber 3 = .ok (.bipush 57, 2) := by decide +kernel
theorem dX7_isNumber_5 : decode cX7_isNumber 5 = .ok (.invokevirtual 134, 3) := by decide +kernel
theorem dX7_isNumber_8 : decode cX7_isNumber 8 = .ok (.ifCond .ne 5, 3) := by decide +kernel
theorem dX7_isNumber_11 : decode cX7_isNumber 11 = .ok (.iconst 0, 1) := by decide +kernel
theorem dX7_isNumber_12 : decode cX7_isNumber 12 = .ok (.ireturn, 1) := by decide +kernel
theorem dX7_isNumber_13 : decode cX7_isNumber 13 = .ok (.aload_n 0, 1) := by decide +kernel
theorem dX7_isNumber_14 : decode cX7_isNumber 14 = .ok (.getfield 23, 3) := by decide +kernel
theorem dX7_isNumber_17 : decode cX7_isNumber 17 = .ok (.aload_n 0, 1) := by decide +kernel
theorem dX7_isNumber_18 : decode cX7_isNumber 18 = .ok (.getfield 131, 3) := by decide +kernel
theorem dX7_isNumber_21 : decode cX7_isNumber 21 = .ok (.iaload, 1) := by decide +kernel
theorem dX7_isNumber_22 : decode cX7_isNumber 22 = .ok (.bipush 48, 2) := by decide +kernel
theorem dX7_isNumber_24 : decode cX7_isNumber 24 = .ok (.isub, 1) := by decide +kernel
theorem dX7_isNumber_25 : decode cX7_isNumber 25 = .ok (.istore_n 1, 1) := by decide +kernel
theorem dX7_isNumber_26 : decode cX7_isNumber 26 = .ok (.aload_n 0, 1) := by decide +kernel
theorem dX7_isNumber_27 : decode cX7_isNumber 27 = .ok (.dup, 1) := by decide +kernel
theorem dX7_isNumber_28 : decode cX7_isNumber 28 = .ok (.getfield 131, 3) := by decide +kernel
theorem dX7_isNumber_31 : decode cX7_isNumber 31 = .ok (.iconst 1, 1) := by decide +kernel
theorem dX7_isNumber_32 : decode cX7_isNumber 32 = .ok (.iadd, 1) := by decide +kernel
theorem dX7_isNumber_33 : decode cX7_isNumber 33 = .ok (.putfield 131, 3) := by decide +kernel
theorem dX7_isNumber_36 : decode cX7_isNumber 36 = .ok (.iload_n 1, 1) := by decide +kernel
theorem dX7_isNumber_37 : decode cX7_isNumber 37 = .ok (.ifCond .le 42, 3) := by decide +kernel
theorem dX7_isNumber_40 : decode cX7_isNumber 40 = .ok (.aload_n 0, 1) := by decide +kernel
theorem dX7_isNumber_41 : decode cX7_isNumber 41 = .ok (.bipush 48, 2) := by decide +kernel
theorem dX7_isNumber_43 : decode cX7_isNumber 43 = .ok (.bipush 57, 2) := by decide +kernel
theorem dX7_isNumber_45 : decode cX7_isNumber 45 = .ok (.invokevirtual 134, 3) := by decide +kernel
theorem dX7_isNumber_48 : decode cX7_isNumber 48 = .ok (.ifCond .eq 31, 3) := by decide +kernel
theorem dX7_isNumber_51 : decode cX7_isNumber 51 = .ok (.bipush 10, 2) := by decide +kernel
theorem dX7_isNumber_53 : decode cX7_isNumber 53 = .ok (.iload_n 1, 1) := by decide +kernel
theorem dX7_isNumber_54 : decode cX7_isNumber 54 = .ok (.imul, 1) := by decide +kernel
theorem dX7_isNumber_55 : decode cX7_isNumber 55 = .ok (.aload_n 0, 1) := by decide +kernel
theorem dX7_isNumber_56 : decode cX7_isNumber 56 = .ok (.getfield 23, 3) := by decide +kernel
theorem dX7_isNumber_59 : decode cX7_isNumber 59 = .ok (.aload_n 0, 1) := by decide +kernel
theorem dX7_isNumber_60 : decode cX7_isNumber 60 = .ok (.getfield 131, 3) := by decide +kernel
theorem dX7_isNumber_63 : decode cX7_isNumber 63 = .ok (.iaload, 1) := by decide +kernel
theorem dX7_isNumber_64 : decode cX7_isNumber 64 = .ok (.iadd, 1) := by decide +kernel
theorem dX7_isNumber_65 : decode cX7_isNumber 65 = .ok (.bipush 48, 2) := by decide +kernel
theorem dX7_isNumber_67 : decode cX7_isNumber 67 = .ok (.isub, 1) := by decide +kernel
theorem dX7_isNumber_68 : decode cX7_isNumber 68 = .ok (.istore_n 1, 1) := by decide +kernel
theorem dX7_isNumber_69 : decode cX7_isNumber 69 = .ok (.aload_n 0, 1) := by decide +kernel
theorem dX7_isNumber_70 : decode cX7_isNumber 70 = .ok (.dup, 1) := by decide +kernel
theorem dX7_isNumber_71 : decode cX7_isNumber 71 = .ok (.getfield 131, 3) := by decide +kernel
theorem dX7_isNumber_74 : decode cX7_isNumber 74 = .ok (.iconst 1, 1) := by decide +kernel
theorem dX7_isNumber_75 : decode cX7_isNumber 75 = .ok (.iadd, 1) := by decide +kernel
theorem dX7_isNumber_76 : decode cX7_isNumber 76 = .ok (.putfield 131, 3) := by decide +kernel
theorem dX7_isNumber_79 : decode cX7_isNumber 79 = .ok (.aload_n 0, 1) := by decide +kernel
theorem dX7_isNumber_80 : decode cX7_isNumber 80 = .ok (.getfield 26, 3) := by decide +kernel
theorem dX7_isNumber_83 : decode cX7_isNumber 83 = .ok (.aload_n 0, 1) := by decide +kernel
theorem dX7_isNumber_84 : decode cX7_isNumber 84 = .ok (.getfield 137, 3) := by decide +kernel
theorem dX7_isNumber_87 : decode cX7_isNumber 87 = .ok (.iload_n 1, 1) := by decide +kernel
theorem dX7_isNumber_88 : decode cX7_isNumber 88 = .ok (.iastore, 1) := by decide +kernel
theorem dX7_isNumber_89 : decode cX7_isNumber 89 = .ok (.aload_n 0, 1) := by decide +kernel
theorem dX7_isNumber_90 : decode cX7_isNumber 90 = .ok (.dup, 1) := by decide +kernel
theorem dX7_isNumber_91 : decode cX7_isNumber 91 = .ok (.getfield 137, 3) := by decide +kernel
theorem dX7_isNumber_94 : decode cX7_isNumber 94 = .ok (.iconst 1, 1) := by decide +kernel
theorem dX7_isNumber_95 : decode cX7_isNumber 95 = .ok (.iadd, 1) := by decide +kernel
theorem dX7_isNumber_96 : decode cX7_isNumber 96 = .ok (.putfield 137, 3) := by decide +kernel
theorem dX7_isNumber_99 : decode cX7_isNumber 99 = .ok (.iconst 1, 1) := by decide +kernel
theorem dX7_isNumber_100 : decode cX7_isNumber 100 = .ok (.ireturn, 1) := by decide +kernel
set_option maxRecDepth 20000 in
theorem ggX7_isValue_X7_takes : GoodIn wsX7_isValue wsX7_takes := goodIn_r _ [9, 4, 10, 11, 12, 8, 13, 14, 3, 15, 16, 17, 18, 19, 20, 21, 22, 23, 24, 25, 26, 27, 28] (by decide +kernel) (by decide +kernel)
set_option maxRecDepth 20000 in
theorem gX7_isValue_X7_takes : GoodIn wsX7_isValue (wsV RX7 140 RX7 yX7_takes wsX7_takes) := goodIn_app (goodIn_of _ (by decide +kernel)) ggX7_isValue_X7_takes
set_option maxRecDepth 20000 in
theorem ggX7_isValue_X7_sees : GoodIn wsX7_isValue wsX7_sees := goodIn_r _ [13, 4, 14, 3, 15, 16, 8, 17, 18, 19, 20, 21, 22, 23, 24, 25, 26, 27, 28] (by decide +kernel) (by decide +kernel)
set_option maxRecDepth 20000 in
theorem gX7_isValue_X7_sees : GoodIn wsX7_isValue (wsV RX7 134 RX7 yX7_sees wsX7_sees) := goodIn_app (goodIn_of _ (by decide +kernel)) ggX7_isValue_X7_sees
theorem dX7_isValue_0 : decode cX7_isValue 0 = .ok (.aload_n 0, 1) := by decide +kernel
theorem dX7_isValue_1 : decode cX7_isValue 1 = .ok (.bipush 45, 2) := by decide +kernel
theorem dX7_isValue_3 : decode cX7_isValue 3 = .ok (.invokevirtual 140, 3) := by decide +kernel
theorem dX7_isValue_6 : decode cX7_isValue 6 = .ok (.ifCond .eq 7, 3) := by decide +kernel
theorem dX7_isValue_9 : decode cX7_isValue 9 = .ok (.iconst (-1), 1) := by decide +kernel
theorem dX7_isValue_10 : decode cX7_isValue 10 = .ok (.goto 4, 3) := by decide +kernel
theorem dX7_isValue_13 : decode cX7_isValue 13 = .ok (.iconst 1, 1) := by decide +kernel
theorem dX7_isValue_14 : decode cX7_isValue 14 = .ok (.istore_n 1, 1) := by decide +kernel
theorem dX7_isValue_15 : decode cX7_isValue 15 = .ok (.aload_n 0, 1) := by decide +kernel
theorem dX7_isValue_16 : decode cX7_isValue 16 = .ok (.bipush 48, 2) := by decide +kernel
theorem dX7_isValue_18 : decode cX7_isValue 18 = .ok (.bipush 57, 2) := by decide +kernel
theorem dX7_isValue_20 : decode cX7_isValue 20 = .ok (.invokevirtual 134, 3) := by decide +kernel
theorem dX7_isValue_23 : decode cX7_isValue 23 = .ok (.ifCond .ne 5, 3) := by decide +kernel
theorem dX7_isValue_26 : decode cX7_isValue 26 = .ok (.iconst 0, 1) := by decide +kernel
theorem dX7_isValue_27 : decode cX7_isValue 27 = .ok (.ireturn, 1) := by decide +kernel
theorem dX7_isValue_28 : decode cX7_isValue 28 = .ok (.aload_n 0, 1) := by decide +kernel
theorem dX7_isValue_29 : decode cX7_isValue 29 = .ok (.getfield 26, 3) := by decide +kernel
theorem dX7_isValue_32 : decode cX7_isValue 32 = .ok (.aload_n 0, 1) := by decide +kernel
theorem dX7_isValue_33 : decode cX7_isValue 33 = .ok (.getfield 137, 3) := by decide +kernel
theorem dX7_isValue_36 : decode cX7_isValue 36 = .ok (.iload_n 1, 1) := by decide +kernel
theorem dX7_isValue_37 : decode cX7_isValue 37 = .ok (.aload_n 0, 1) := by decide +kernel
theorem dX7_isValue_38 : decode cX7_isValue 38 = .ok (.getfield 23, 3) := by decide +kernel
theorem dX7_isValue_41 : decode cX7_isValue 41 = .ok (.aload_n 0, 1) := by decide +kernel
theorem dX7_isValue_42 : decode cX7_isValue 42 = .ok (.getfield 131, 3) := by decide +kernel
theorem dX7_isValue_45 : decode cX7_isValue 45 = .ok (.iaload, 1) := by decide +kernel
theorem dX7_isValue_46 : decode cX7_isValue 46 = .ok (.bipush 48, 2) := by decide +kernel
theorem dX7_isValue_48 : decode cX7_isValue 48 = .ok (.isub, 1) := by decide +kernel
theorem dX7_isValue_49 : decode cX7_isValue 49 = .ok (.imul, 1) := by decide +kernel
theorem dX7_isValue_50 : decode cX7_isValue 50 = .ok (.iastore, 1) := by decide +kernel
theorem dX7_isValue_51 : decode cX7_isValue 51 = .ok (.aload_n 0, 1) := by decide +kernel
theorem dX7_isValue_52 : decode cX7_isValue 52 = .ok (.dup, 1) := by decide +kernel
theorem dX7_isValue_53 : decode cX7_isValue 53 = .ok (.getfield 137, 3) := by decide +kernel
theorem dX7_isValue_56 : decode cX7_isValue 56 = .ok (.iconst 1, 1) := by decide +kernel
theorem dX7_isValue_57 : decode cX7_isValue 57 = .ok (.iadd, 1) := by decide +kernel
theorem dX7_isValue_58 : decode cX7_isValue 58 = .ok (.putfield 137, 3) := by decide +kernel
theorem dX7_isValue_61 : decode cX7_isValue 61 = .ok (.aload_n 0, 1) := by decide +kernel
theorem dX7_isValue_62 : decode cX7_isValue 62 = .ok (.dup, 1) := by decide +kernel
theorem dX7_isValue_63 : decode cX7_isValue 63 = .ok (.getfield 131, 3) := by decide +kernel
theorem dX7_isValue_66 : decode cX7_isValue 66 = .ok (.iconst 1, 1) := by decide +kernel
theorem dX7_isValue_67 : decode cX7_isValue 67 = .ok (.iadd, 1) := by decide +kernel
theorem dX7_isValue_68 : decode cX7_isValue 68 = .ok (.putfield 131, 3) := by decide +kernel
theorem dX7_isValue_71 : decode cX7_isValue 71 = .ok (.iconst 1, 1) := by decide +kernel
theorem dX7_isValue_72 : decode cX7_isValue 72 = .ok (.ireturn, 1) := by decide +kernel
set_option maxRecDepth 20000 in
theorem ggX7_areValues_X7_isValue : GoodIn wsX7_areValues wsX7_isValue := goodIn_r _ [5, 6, 7, 8, 9, 10, 11, 12, 4, 13, 14, 15, 16, 17, 18, 19, 20, 21, 22, 23, 24, 25, 26, 27, 28, 29, 30, 31, 32] (by decide +kernel) (by decide +kernel)
set_option maxRecDepth 20000 in
theorem gX7_areValues_X7_isValue : GoodIn wsX7_areValues (wsV RX7 143 RX7 yX7_isValue wsX7_isValue) := goodIn_app (goodIn_of _ (by decide +kernel)) ggX7_areValues_X7_isValue
set_option maxRecDepth 20000 in
theorem ggX7_areValues_X7_takes : GoodIn wsX7_areValues wsX7_takes := goodIn_r _ [13, 9, 14, 15, 16, 4, 17, 18, 8, 19, 20, 21, 22, 23, 24, 25, 26, 27, 28, 29, 30, 31, 32] (by decide +kernel) (by decide +kernel)
set_option maxRecDepth 20000 in
theorem gX7_areValues_X7_takes : GoodIn wsX7_areValues (wsV RX7 140 RX7 yX7_takes wsX7_takes) := goodIn_app (goodIn_of _ (by decide +kernel)) ggX7_areValues_X7_takes
theorem dX7_areValues_0 : decode cX7_areValues 0 = .ok (.aload_n 0, 1) := by decide +kernel
theorem dX7_areValues_1 : decode cX7_areValues 1 = .ok (.invokevirtual 143, 3) := by decide +kernel
theorem dX7_areValues_4 : decode cX7_areValues 4 = .ok (.istore_n 1, 1) := by decide +kernel
theorem dX7_areValues_5 : decode cX7_areValues 5 = .ok (.iload_n 1, 1) := by decide +kernel
theorem dX7_areValues_6 : decode cX7_areValues 6 = .ok (.ifCond .eq 20, 3) := by decide +kernel
theorem dX7_areValues_9 : decode cX7_areValues 9 = .ok (.aload_n 0, 1) := by decide +kernel
theorem dX7_areValues_10 : decode cX7_areValues 10 = .ok (.bipush 44, 2) := by decide +kernel
theorem dX7_areValues_12 : decode cX7_areValues 12 = .ok (.invokevirtual 140, 3) := by decide +kernel
theorem dX7_areValues_15 : decode cX7_areValues 15 = .ok (.ifCond .eq 11, 3) := by decide +kernel
theorem dX7_areValues_18 : decode cX7_areValues 18 = .ok (.aload_n 0, 1) := by decide +kernel
theorem dX7_areValues_19 : decode cX7_areValues 19 = .ok (.invokevirtual 143, 3) := by decide +kernel
theorem dX7_areValues_22 : decode cX7_areValues 22 = .ok (.istore_n 1, 1) := by decide +kernel
theorem dX7_areValues_23 : decode cX7_areValues 23 = .ok (.goto (-18), 3) := by decide +kernel
theorem dX7_areValues_26 : decode cX7_areValues 26 = .ok (.iload_n 1, 1) := by decide +kernel
theorem dX7_areValues_27 : decode cX7_areValues 27 = .ok (.ireturn, 1) := by decide +kernel
set_option maxRecDepth 20000 in
theorem ggX7_isRun_X7_isNumber : GoodIn wsX7_isRun wsX7_isNumber := goodIn_r _ [5, 6, 7, 8, 9, 10, 11, 12, 4, 13, 14, 15, 16, 17, 22, 23, 24, 25, 26, 27, 28, 29, 30, 31, 32] (by decide +kernel) (by decide +kernel)
set_option maxRecDepth 20000 in
theorem gX7_isRun_X7_isNumber : GoodIn wsX7_isRun (wsV RX7 147 RX7 yX7_isNumber wsX7_isNumber) := goodIn_app (goodIn_of _ (by decide +kernel)) ggX7_isRun_X7_isNumber
set_option maxRecDepth 20000 in
theorem ggX7_isRun_X7_takes : GoodIn wsX7_isRun wsX7_takes := goodIn_r _ [21, 7, 10, 11, 12, 4, 13, 14, 6, 15, 16, 17, 22, 23, 24, 25, 26, 27, 28, 29, 30, 31, 32] (by decide +kernel) (by decide +kernel)
set_option maxRecDepth 20000 in
theorem gX7_isRun_X7_takes : GoodIn wsX7_isRun (wsV RX7 140 RX7 yX7_takes wsX7_takes) := goodIn_app (goodIn_of _ (by decide +kernel)) ggX7_isRun_X7_takes
theorem dX7_isRun_0 : decode cX7_isRun 0 = .ok (.aload_n 0, 1) := by decide +kernel
theorem dX7_isRun_1 : decode cX7_isRun 1 = .ok (.invokevirtual 147, 3) := by decide +kernel
theorem dX7_isRun_4 : decode cX7_isRun 4 = .ok (.ifCond .eq 39, 3) := by decide +kernel
theorem dX7_isRun_7 : decode cX7_isRun 7 = .ok (.aload_n 0, 1) := by decide +kernel
theorem dX7_isRun_8 : decode cX7_isRun 8 = .ok (.bipush 47, 2) := by decide +kernel
theorem dX7_isRun_10 : decode cX7_isRun 10 = .ok (.invokevirtual 140, 3) := by decide +kernel
theorem dX7_isRun_13 : decode cX7_isRun 13 = .ok (.ifCond .eq 30, 3) := by decide +kernel
theorem dX7_isRun_16 : decode cX7_isRun 16 = .ok (.aload_n 0, 1) := by decide +kernel
theorem dX7_isRun_17 : decode cX7_isRun 17 = .ok (.invokevirtual 147, 3) := by decide +kernel
theorem dX7_isRun_20 : decode cX7_isRun 20 = .ok (.ifCond .eq 23, 3) := by decide +kernel
theorem dX7_isRun_23 : decode cX7_isRun 23 = .ok (.aload_n 0, 1) := by decide +kernel
theorem dX7_isRun_24 : decode cX7_isRun 24 = .ok (.bipush 64, 2) := by decide +kernel
theorem dX7_isRun_26 : decode cX7_isRun 26 = .ok (.invokevirtual 140, 3) := by decide +kernel
theorem dX7_isRun_29 : decode cX7_isRun 29 = .ok (.ifCond .eq 14, 3) := by decide +kernel
theorem dX7_isRun_32 : decode cX7_isRun 32 = .ok (.aload_n 0, 1) := by decide +kernel
theorem dX7_isRun_33 : decode cX7_isRun 33 = .ok (.invokevirtual 147, 3) := by decide +kernel
theorem dX7_isRun_36 : decode cX7_isRun 36 = .ok (.ifCond .eq 7, 3) := by decide +kernel
theorem dX7_isRun_39 : decode cX7_isRun 39 = .ok (.iconst 1, 1) := by decide +kernel
theorem dX7_isRun_40 : decode cX7_isRun 40 = .ok (.goto 4, 3) := by decide +kernel
theorem dX7_isRun_43 : decode cX7_isRun 43 = .ok (.iconst 0, 1) := by decide +kernel
theorem dX7_isRun_44 : decode cX7_isRun 44 = .ok (.istore_n 1, 1) := by decide +kernel
theorem dX7_isRun_45 : decode cX7_isRun 45 = .ok (.iload_n 1, 1) := by decide +kernel
theorem dX7_isRun_46 : decode cX7_isRun 46 = .ok (.ifCond .eq 55, 3) := by decide +kernel
theorem dX7_isRun_49 : decode cX7_isRun 49 = .ok (.aload_n 0, 1) := by decide +kernel
theorem dX7_isRun_50 : decode cX7_isRun 50 = .ok (.bipush 95, 2) := by decide +kernel
theorem dX7_isRun_52 : decode cX7_isRun 52 = .ok (.invokevirtual 140, 3) := by decide +kernel
theorem dX7_isRun_55 : decode cX7_isRun 55 = .ok (.ifCond .eq 46, 3) := by decide +kernel
theorem dX7_isRun_58 : decode cX7_isRun 58 = .ok (.aload_n 0, 1) := by decide +kernel
theorem dX7_isRun_59 : decode cX7_isRun 59 = .ok (.invokevirtual 147, 3) := by decide +kernel
theorem dX7_isRun_62 : decode cX7_isRun 62 = .ok (.ifCond .eq 39, 3) := by decide +kernel
theorem dX7_isRun_65 : decode cX7_isRun 65 = .ok (.aload_n 0, 1) := by decide +kernel
theorem dX7_isRun_66 : decode cX7_isRun 66 = .ok (.bipush 58, 2) := by decide +kernel
theorem dX7_isRun_68 : decode cX7_isRun 68 = .ok (.invokevirtual 140, 3) := by decide +kernel
theorem dX7_isRun_71 : decode cX7_isRun 71 = .ok (.ifCond .eq 30, 3) := by decide +kernel
theorem dX7_isRun_74 : decode cX7_isRun 74 = .ok (.aload_n 0, 1) := by decide +kernel
theorem dX7_isRun_75 : decode cX7_isRun 75 = .ok (.invokevirtual 147, 3) := by decide +kernel
theorem dX7_isRun_78 : decode cX7_isRun 78 = .ok (.ifCond .eq 23, 3) := by decide +kernel
theorem dX7_isRun_81 : decode cX7_isRun 81 = .ok (.aload_n 0, 1) := by decide +kernel
theorem dX7_isRun_82 : decode cX7_isRun 82 = .ok (.bipush 42, 2) := by decide +kernel
theorem dX7_isRun_84 : decode cX7_isRun 84 = .ok (.invokevirtual 140, 3) := by decide +kernel
theorem dX7_isRun_87 : decode cX7_isRun 87 = .ok (.ifCond .eq 14, 3) := by decide +kernel
theorem dX7_isRun_90 : decode cX7_isRun 90 = .ok (.aload_n 0, 1) := by decide +kernel
theorem dX7_isRun_91 : decode cX7_isRun 91 = .ok (.invokevirtual 147, 3) := by decide +kernel
theorem dX7_isRun_94 : decode cX7_isRun 94 = .ok (.ifCond .eq 7, 3) := by decide +kernel
theorem dX7_isRun_97 : decode cX7_isRun 97 = .ok (.iconst 1, 1) := by decide +kernel
theorem dX7_isRun_98 : decode cX7_isRun 98 = .ok (.goto 4, 3) := by decide +kernel
theorem dX7_isRun_101 : decode cX7_isRun 101 = .ok (.iconst 0, 1) := by decide +kernel
theorem dX7_isRun_102 : decode cX7_isRun 102 = .ok (.ireturn, 1) := by decide +kernel
set_option maxRecDepth 20000 in
theorem ggX7_isOrder_X7_areValues : GoodIn wsX7_isOrder wsX7_areValues := goodIn_r _ [7, 8, 9, 10, 6, 11, 12, 1, 13, 2, 14, 15, 16, 17, 18, 19, 20, 21, 22, 23, 24, 25, 34, 35, 36, 37, 38, 39, 40, 41, 42, 43, 44] (by decide +kernel) (by decide +kernel)
set_option maxRecDepth 20000 in
theorem gX7_isOrder_X7_areValues : GoodIn wsX7_isOrder (wsV RX7 150 RX7 yX7_areValues wsX7_areValues) := goodIn_app (goodIn_of _ (by decide +kernel)) ggX7_isOrder_X7_areValues
set_option maxRecDepth 20000 in
theorem ggX7_isOrder_X7_isRun : GoodIn wsX7_isOrder wsX7_isRun := goodIn_r _ [29, 30, 31, 32, 6, 33, 13, 2, 12, 1, 18, 19, 20, 21, 22, 23, 24, 25, 14, 15, 16, 17, 34, 35, 36, 37, 38, 39, 40, 41, 42, 43, 44] (by decide +kernel) (by decide +kernel)
set_option maxRecDepth 20000 in
theorem gX7_isOrder_X7_isRun : GoodIn wsX7_isOrder (wsV RX7 153 RX7 yX7_isRun wsX7_isRun) := goodIn_app (goodIn_of _ (by decide +kernel)) ggX7_isOrder_X7_isRun
set_option maxRecDepth 20000 in
theorem ggX7_isOrder_X7_isNumber : GoodIn wsX7_isOrder wsX7_isNumber := goodIn_r _ [33, 13, 2, 12, 1, 18, 19, 20, 6, 21, 22, 23, 24, 25, 34, 35, 36, 37, 38, 39, 40, 41, 42, 43, 44] (by decide +kernel) (by decide +kernel)
set_option maxRecDepth 20000 in
theorem gX7_isOrder_X7_isNumber : GoodIn wsX7_isOrder (wsV RX7 147 RX7 yX7_isNumber wsX7_isNumber) := goodIn_app (goodIn_of _ (by decide +kernel)) ggX7_isOrder_X7_isNumber
set_option maxRecDepth 20000 in
theorem ggX7_isOrder_X7_takes : GoodIn wsX7_isOrder wsX7_takes := goodIn_r _ [17, 2, 18, 19, 20, 6, 21, 22, 13, 23, 24, 25, 34, 35, 36, 37, 38, 39, 40, 41, 42, 43, 44] (by decide +kernel) (by decide +kernel)
set_option maxRecDepth 20000 in
theorem gX7_isOrder_X7_takes : GoodIn wsX7_isOrder (wsV RX7 140 RX7 yX7_takes wsX7_takes) := goodIn_app (goodIn_of _ (by decide +kernel)) ggX7_isOrder_X7_takes
