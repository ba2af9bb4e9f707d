set_option maxRecDepth 20000 in
theorem ggX7_isOrder_X7_isValue : GoodIn wsX7_isOrder wsX7_isValue := goodIn_r _ [11, 12, 1, 13, 2, 14, 15, 16, 6, 17, 18, 19, 20, 21, 22, 23, 24, 25, 34, 35, 36, 37, 38, 39, 40, 41, 42, 43, 44] (by decide +kernel) (by decide +kernel)
set_option maxRecDepth 20000 in
theorem gX7_isOrder_X7_isValue : GoodIn wsX7_isOrder (wsV RX7 143 RX7 yX7_isValue wsX7_isValue) := goodIn_app (goodIn_of _ (by decide +kernel)) ggX7_isOrder_X7_isValue
theorem dX7_isOrder_0 : decode cX7_isOrder 0 = .ok (.aload_n 0, 1) := by decide +kernel
theorem dX7_isOrder_1 : decode cX7_isOrder 1 = .ok (.iconst 0, 1) := by decide +kernel
theorem dX7_isOrder_2 : decode cX7_isOrder 2 = .ok (.putfield 137, 3) := by decide +kernel
theorem dX7_isOrder_5 : decode cX7_isOrder 5 = .ok (.iload_n 1, 1) := by decide +kernel
theorem dX7_isOrder_6 : decode cX7_isOrder 6 = .ok (.lookupswitch 102 #[(43, 42), (102, 57), (109, 52), (114, 47)], 42) := by decide +kernel
theorem dX7_isOrder_48 : decode cX7_isOrder 48 = .ok (.aload_n 0, 1) := by decide +kernel
theorem dX7_isOrder_49 : decode cX7_isOrder 49 = .ok (.invokevirtual 150, 3) := by decide +kernel
theorem dX7_isOrder_52 : decode cX7_isOrder 52 = .ok (.ireturn, 1) := by decide +kernel
theorem dX7_isOrder_53 : decode cX7_isOrder 53 = .ok (.aload_n 0, 1) := by decide +kernel
theorem dX7_isOrder_54 : decode cX7_isOrder 54 = .ok (.invokevirtual 153, 3) := by decide +kernel
theorem dX7_isOrder_57 : decode cX7_isOrder 57 = .ok (.ireturn, 1) := by decide +kernel
theorem dX7_isOrder_58 : decode cX7_isOrder 58 = .ok (.aload_n 0, 1) := by decide +kernel
theorem dX7_isOrder_59 : decode cX7_isOrder 59 = .ok (.invokevirtual 147, 3) := by decide +kernel
theorem dX7_isOrder_62 : decode cX7_isOrder 62 = .ok (.ireturn, 1) := by decide +kernel
theorem dX7_isOrder_63 : decode cX7_isOrder 63 = .ok (.aload_n 0, 1) := by decide +kernel
theorem dX7_isOrder_64 : decode cX7_isOrder 64 = .ok (.invokevirtual 147, 3) := by decide +kernel
theorem dX7_isOrder_67 : decode cX7_isOrder 67 = .ok (.ifCond .eq 39, 3) := by decide +kernel
theorem dX7_isOrder_70 : decode cX7_isOrder 70 = .ok (.aload_n 0, 1) := by decide +kernel
theorem dX7_isOrder_71 : decode cX7_isOrder 71 = .ok (.bipush 46, 2) := by decide +kernel
theorem dX7_isOrder_73 : decode cX7_isOrder 73 = .ok (.invokevirtual 140, 3) := by decide +kernel
theorem dX7_isOrder_76 : decode cX7_isOrder 76 = .ok (.ifCond .eq 30, 3) := by decide +kernel
theorem dX7_isOrder_79 : decode cX7_isOrder 79 = .ok (.aload_n 0, 1) := by decide +kernel
theorem dX7_isOrder_80 : decode cX7_isOrder 80 = .ok (.invokevirtual 147, 3) := by decide +kernel
theorem dX7_isOrder_83 : decode cX7_isOrder 83 = .ok (.ifCond .eq 23, 3) := by decide +kernel
theorem dX7_isOrder_86 : decode cX7_isOrder 86 = .ok (.aload_n 0, 1) := by decide +kernel
theorem dX7_isOrder_87 : decode cX7_isOrder 87 = .ok (.bipush 61, 2) := by decide +kernel
theorem dX7_isOrder_89 : decode cX7_isOrder 89 = .ok (.invokevirtual 140, 3) := by decide +kernel
theorem dX7_isOrder_92 : decode cX7_isOrder 92 = .ok (.ifCond .eq 14, 3) := by decide +kernel
theorem dX7_isOrder_95 : decode cX7_isOrder 95 = .ok (.aload_n 0, 1) := by decide +kernel
theorem dX7_isOrder_96 : decode cX7_isOrder 96 = .ok (.invokevirtual 143, 3) := by decide +kernel
theorem dX7_isOrder_99 : decode cX7_isOrder 99 = .ok (.ifCond .eq 7, 3) := by decide +kernel
theorem dX7_isOrder_102 : decode cX7_isOrder 102 = .ok (.iconst 1, 1) := by decide +kernel
theorem dX7_isOrder_103 : decode cX7_isOrder 103 = .ok (.goto 4, 3) := by decide +kernel
theorem dX7_isOrder_106 : decode cX7_isOrder 106 = .ok (.iconst 0, 1) := by decide +kernel
theorem dX7_isOrder_107 : decode cX7_isOrder 107 = .ok (.ireturn, 1) := by decide +kernel
theorem dX7_isOrder_108 : decode cX7_isOrder 108 = .ok (.aload_n 0, 1) := by decide +kernel
theorem dX7_isOrder_109 : decode cX7_isOrder 109 = .ok (.dup, 1) := by decide +kernel
theorem dX7_isOrder_110 : decode cX7_isOrder 110 = .ok (.getfield 131, 3) := by decide +kernel
theorem dX7_isOrder_113 : decode cX7_isOrder 113 = .ok (.iconst 1, 1) := by decide +kernel
theorem dX7_isOrder_114 : decode cX7_isOrder 114 = .ok (.isub, 1) := by decide +kernel
theorem dX7_isOrder_115 : decode cX7_isOrder 115 = .ok (.putfield 131, 3) := by decide +kernel
theorem dX7_isOrder_118 : decode cX7_isOrder 118 = .ok (.iconst 0, 1) := by decide +kernel
theorem dX7_isOrder_119 : decode cX7_isOrder 119 = .ok (.ireturn, 1) := by decide +kernel
theorem dX7_letter_0 : decode cX7_letter 0 = .ok (.aload_n 0, 1) := by decide +kernel
theorem dX7_letter_1 : decode cX7_letter 1 = .ok (.getfield 131, 3) := by decide +kernel
theorem dX7_letter_4 : decode cX7_letter 4 = .ok (.aload_n 0, 1) := by decide +kernel
theorem dX7_letter_5 : decode cX7_letter 5 = .ok (.getfield 115, 3) := by decide +kernel
theorem dX7_letter_8 : decode cX7_letter 8 = .ok (.if_icmp .ge 15, 3) := by decide +kernel
theorem dX7_letter_11 : decode cX7_letter 11 = .ok (.aload_n 0, 1) := by decide +kernel
theorem dX7_letter_12 : decode cX7_letter 12 = .ok (.getfield 23, 3) := by decide +kernel
theorem dX7_letter_15 : decode cX7_letter 15 = .ok (.aload_n 0, 1) := by decide +kernel
theorem dX7_letter_16 : decode cX7_letter 16 = .ok (.getfield 131, 3) := by decide +kernel
theorem dX7_letter_19 : decode cX7_letter 19 = .ok (.iaload, 1) := by decide +kernel
theorem dX7_letter_20 : decode cX7_letter 20 = .ok (.goto 4, 3) := by decide +kernel
theorem dX7_letter_23 : decode cX7_letter 23 = .ok (.iconst 0, 1) := by decide +kernel
theorem dX7_letter_24 : decode cX7_letter 24 = .ok (.istore_n 1, 1) := by decide +kernel
theorem dX7_letter_25 : decode cX7_letter 25 = .ok (.aload_n 0, 1) := by decide +kernel
theorem dX7_letter_26 : decode cX7_letter 26 = .ok (.dup, 1) := by decide +kernel
theorem dX7_letter_27 : decode cX7_letter 27 = .ok (.getfield 131, 3) := by decide +kernel
theorem dX7_letter_30 : decode cX7_letter 30 = .ok (.iconst 1, 1) := by decide +kernel
theorem dX7_letter_31 : decode cX7_letter 31 = .ok (.iadd, 1) := by decide +kernel
theorem dX7_letter_32 : decode cX7_letter 32 = .ok (.putfield 131, 3) := by decide +kernel
theorem dX7_letter_35 : decode cX7_letter 35 = .ok (.iload_n 1, 1) := by decide +kernel
theorem dX7_letter_36 : decode cX7_letter 36 = .ok (.ireturn, 1) := by decide +kernel
set_option maxRecDepth 20000 in
theorem ggX7_fault_X7_letter : GoodIn wsX7_fault wsX7_letter := goodIn_r _ [7, 1, 2, 8, 42, 43, 44, 45, 46, 47, 48, 49, 50, 51, 52] (by decide +kernel) (by decide +kernel)
set_option maxRecDepth 20000 in
theorem gX7_fault_X7_letter : GoodIn wsX7_fault (wsV RX7 156 RX7 yX7_letter wsX7_letter) := goodIn_app (goodIn_of _ (by decide +kernel)) ggX7_fault_X7_letter
set_option maxRecDepth 20000 in
theorem ggX7_fault_X7_isOrder : GoodIn wsX7_fault wsX7_isOrder := goodIn_r _ [12, 13, 1, 14, 15, 16, 6, 17, 18, 19, 20, 21, 22, 8, 23, 24, 25, 26, 27, 28, 29, 30, 2, 31, 32, 33, 34, 35, 36, 37, 38, 39, 40, 41, 42, 43, 44, 45, 46, 47, 48, 49, 50, 51, 52] (by decide +kernel) (by decide +kernel)
set_option maxRecDepth 20000 in
theorem gX7_fault_X7_isOrder : GoodIn wsX7_fault (wsV RX7 160 RX7 yX7_isOrder wsX7_isOrder) := goodIn_app (goodIn_of _ (by decide +kernel)) ggX7_fault_X7_isOrder
set_option maxRecDepth 20000 in
theorem ggX7_fault_X7_takes : GoodIn wsX7_fault wsX7_takes := goodIn_r _ [26, 1, 27, 28, 29, 6, 30, 2, 8, 31, 32, 33, 42, 43, 44, 45, 46, 47, 48, 49, 50, 51, 52] (by decide +kernel) (by decide +kernel)
set_option maxRecDepth 20000 in
theorem gX7_fault_X7_takes : GoodIn wsX7_fault (wsV RX7 140 RX7 yX7_takes wsX7_takes) := goodIn_app (goodIn_of _ (by decide +kernel)) ggX7_fault_X7_takes
theorem dX7_fault_0 : decode cX7_fault 0 = .ok (.aload_n 0, 1) := by decide +kernel
theorem dX7_fault_1 : decode cX7_fault 1 = .ok (.iconst 0, 1) := by decide +kernel
theorem dX7_fault_2 : decode cX7_fault 2 = .ok (.putfield 131, 3) := by decide +kernel
theorem dX7_fault_5 : decode cX7_fault 5 = .ok (.iconst 1, 1) := by decide +kernel
theorem dX7_fault_6 : decode cX7_fault 6 = .ok (.istore_n 1, 1) := by decide +kernel
theorem dX7_fault_7 : decode cX7_fault 7 = .ok (.iload_n 1, 1) := by decide +kernel
theorem dX7_fault_8 : decode cX7_fault 8 = .ok (.ifCond .eq 29, 3) := by decide +kernel
theorem dX7_fault_11 : decode cX7_fault 11 = .ok (.aload_n 0, 1) := by decide +kernel
theorem dX7_fault_12 : decode cX7_fault 12 = .ok (.aload_n 0, 1) := by decide +kernel
theorem dX7_fault_13 : decode cX7_fault 13 = .ok (.invokevirtual 156, 3) := by decide +kernel
theorem dX7_fault_16 : decode cX7_fault 16 = .ok (.invokevirtual 160, 3) := by decide +kernel
theorem dX7_fault_19 : decode cX7_fault 19 = .ok (.ifCond .ne 8, 3) := by decide +kernel
theorem dX7_fault_22 : decode cX7_fault 22 = .ok (.aload_n 0, 1) := by decide +kernel
theorem dX7_fault_23 : decode cX7_fault 23 = .ok (.getfield 131, 3) := by decide +kernel
theorem dX7_fault_26 : decode cX7_fault 26 = .ok (.ireturn, 1) := by decide +kernel
theorem dX7_fault_27 : decode cX7_fault 27 = .ok (.aload_n 0, 1) := by decide +kernel
theorem dX7_fault_28 : decode cX7_fault 28 = .ok (.bipush 59, 2) := by decide +kernel
theorem dX7_fault_30 : decode cX7_fault 30 = .ok (.invokevirtual 140, 3) := by decide +kernel
theorem dX7_fault_33 : decode cX7_fault 33 = .ok (.istore_n 1, 1) := by decide +kernel
theorem dX7_fault_34 : decode cX7_fault 34 = .ok (.goto (-27), 3) := by decide +kernel
theorem dX7_fault_37 : decode cX7_fault 37 = .ok (.aload_n 0, 1) := by decide +kernel
theorem dX7_fault_38 : decode cX7_fault 38 = .ok (.getfield 131, 3) := by decide +kernel
theorem dX7_fault_41 : decode cX7_fault 41 = .ok (.aload_n 0, 1) := by decide +kernel
theorem dX7_fault_42 : decode cX7_fault 42 = .ok (.getfield 115, 3) := by decide +kernel
theorem dX7_fault_45 : decode cX7_fault 45 = .ok (.if_icmp .ne 8, 3) := by decide +kernel
theorem dX7_fault_48 : decode cX7_fault 48 = .ok (.bipush (-6), 2) := by decide +kernel
theorem dX7_fault_50 : decode cX7_fault 50 = .ok (.goto 7, 3) := by decide +kernel
theorem dX7_fault_53 : decode cX7_fault 53 = .ok (.aload_n 0, 1) := by decide +kernel
theorem dX7_fault_54 : decode cX7_fault 54 = .ok (.getfield 131, 3) := by decide +kernel
theorem dX7_fault_57 : decode cX7_fault 57 = .ok (.ireturn, 1) := by decide +kernel
set_option maxRecDepth 20000 in
theorem ggX7_rollerError_X7_in : GoodIn wsX7_rollerError wsX7_in := goodIn_r _ [6] (by decide +kernel) (by decide +kernel)
set_option maxRecDepth 20000 in
theorem gX7_rollerError_X7_in : GoodIn wsX7_rollerError (va_wsS RX7 37 yX7_in wsX7_in) := goodIn_app (goodIn_of _ (by decide +kernel)) ggX7_rollerError_X7_in
theorem dX7_rollerError_0 : decode cX7_rollerError 0 = .ok (.aload_n 0, 1) := by decide +kernel
theorem dX7_rollerError_1 : decode cX7_rollerError 1 = .ok (.getfield 137, 3) := by decide +kernel
theorem dX7_rollerError_4 : decode cX7_rollerError 4 = .ok (.iconst 2, 1) := by decide +kernel
theorem dX7_rollerError_5 : decode cX7_rollerError 5 = .ok (.bipush 24, 2) := by decide +kernel
theorem dX7_rollerError_7 : decode cX7_rollerError 7 = .ok (.invokestatic 37, 3) := by decide +kernel
theorem dX7_rollerError_10 : decode cX7_rollerError 10 = .ok (.ifCond .ne 8, 3) := by decide +kernel
theorem dX7_rollerError_13 : decode cX7_rollerError 13 = .ok (.bipush (-2), 2) := by decide +kernel
theorem dX7_rollerError_15 : decode cX7_rollerError 15 = .ok (.goto 20, 3) := by decide +kernel
theorem dX7_rollerError_18 : decode cX7_rollerError 18 = .ok (.aload_n 0, 1) := by decide +kernel
theorem dX7_rollerError_19 : decode cX7_rollerError 19 = .ok (.getfield 7, 3) := by decide +kernel
theorem dX7_rollerError_22 : decode cX7_rollerError 22 = .ok (.iconst 3, 1) := by decide +kernel
theorem dX7_rollerError_23 : decode cX7_rollerError 23 = .ok (.iaload, 1) := by decide +kernel
theorem dX7_rollerError_24 : decode cX7_rollerError 24 = .ok (.bipush 8, 2) := by decide +kernel
theorem dX7_rollerError_26 : decode cX7_rollerError 26 = .ok (.if_icmp .ne 8, 3) := by decide +kernel
theorem dX7_rollerError_29 : decode cX7_rollerError 29 = .ok (.bipush (-4), 2) := by decide +kernel
theorem dX7_rollerError_31 : decode cX7_rollerError 31 = .ok (.goto 4, 3) := by decide +kernel
theorem dX7_rollerError_34 : decode cX7_rollerError 34 = .ok (.iconst 0, 1) := by decide +kernel
theorem dX7_rollerError_35 : decode cX7_rollerError 35 = .ok (.ireturn, 1) := by decide +kernel
set_option maxRecDepth 20000 in
theorem ggX7_does_X7_rollerError : GoodIn wsX7_does wsX7_rollerError := goodIn_r _ [8, 1, 2, 9, 10, 7, 11, 79, 80, 81, 82, 83, 84, 85, 86, 87, 88, 89] (by decide +kernel) (by decide +kernel)
set_option maxRecDepth 20000 in
theorem gX7_does_X7_rollerError : GoodIn wsX7_does (wsV RX7 163 RX7 yX7_rollerError wsX7_rollerError) := goodIn_app (goodIn_of _ (by decide +kernel)) ggX7_does_X7_rollerError
set_option maxRecDepth 20000 in
theorem ggX7_does_X7_comes : GoodIn wsX7_does wsX7_comes := goodIn_r _ [15, 2, 79, 80, 81, 82, 83, 84, 85, 86, 87, 88, 89] (by decide +kernel) (by decide +kernel)
set_option maxRecDepth 20000 in
theorem gX7_does_X7_comes : GoodIn wsX7_does (wsV RX7 85 RX7 yX7_comes wsX7_comes) := goodIn_app (goodIn_of _ (by decide +kernel)) ggX7_does_X7_comes
set_option maxRecDepth 20000 in
theorem ggX7_does_X7_runError : GoodIn wsX7_does wsX7_runError := goodIn_r _ [19, 20, 21, 22, 7, 23, 24, 25, 26, 27, 2, 9, 10, 11, 28, 29, 30, 31, 32, 33, 34, 35, 36, 37, 38, 39, 40, 41, 42, 43, 44, 45, 46, 79, 80, 81, 82, 83, 84, 85, 86, 87, 88, 89] (by decide +kernel) (by decide +kernel)
set_option maxRecDepth 20000 in
theorem gX7_does_X7_runError : GoodIn wsX7_does (wsV RX7 102 RX7 yX7_runError wsX7_runError) := goodIn_app (goodIn_of _ (by decide +kernel)) ggX7_does_X7_runError
set_option maxRecDepth 20000 in
theorem ggX7_does_X7_runs : GoodIn wsX7_does wsX7_runs := goodIn_r _ [50, 51, 2, 40, 41, 42, 7, 43, 36, 37, 38, 39, 52, 53, 54, 55, 44, 45, 46, 56, 57, 58, 59, 79, 80, 81, 82, 83, 84, 85, 86, 87, 88, 89] (by decide +kernel) (by decide +kernel)
set_option maxRecDepth 20000 in
theorem gX7_does_X7_runs : GoodIn wsX7_does (wsV RX7 106 RX7 yX7_runs wsX7_runs) := goodIn_app (goodIn_of _ (by decide +kernel)) ggX7_does_X7_runs
set_option maxRecDepth 20000 in
theorem ggX7_does_X7_isRoller : GoodIn wsX7_does wsX7_isRoller := goodIn_r _ [27, 2, 9, 10, 7, 11, 79, 80, 81, 82, 83, 84, 85, 86, 87, 88, 89] (by decide +kernel) (by decide +kernel)
set_option maxRecDepth 20000 in
theorem gX7_does_X7_isRoller : GoodIn wsX7_does (wsV RX7 41 RX7 yX7_isRoller wsX7_isRoller) := goodIn_app (goodIn_of _ (by decide +kernel)) ggX7_does_X7_isRoller
set_option maxRecDepth 20000 in
theorem ggX7_does_X7_melts : GoodIn wsX7_does wsX7_melts := goodIn_r _ [63, 2, 79, 80, 81, 82, 83, 84, 85, 86, 87, 88, 89] (by decide +kernel) (by decide +kernel)
set_option maxRecDepth 20000 in
theorem gX7_does_X7_melts : GoodIn wsX7_does (wsV RX7 99 RX7 yX7_melts wsX7_melts) := goodIn_app (goodIn_of _ (by decide +kernel)) ggX7_does_X7_melts
set_option maxRecDepth 20000 in
theorem ggX7_does_X7_fileError : GoodIn wsX7_does wsX7_fileError := goodIn_r _ [67, 68, 69, 70, 7, 71, 24, 25, 26, 27, 2, 9, 10, 11, 36, 37, 38, 39, 72, 73, 74, 79, 80, 81, 82, 83, 84, 85, 86, 87, 88, 89] (by decide +kernel) (by decide +kernel)
set_option maxRecDepth 20000 in
theorem gX7_does_X7_fileError : GoodIn wsX7_does (wsV RX7 92 RX7 yX7_fileError wsX7_fileError) := goodIn_app (goodIn_of _ (by decide +kernel)) ggX7_does_X7_fileError
set_option maxRecDepth 20000 in
theorem ggX7_does_X7_files : GoodIn wsX7_does wsX7_files := goodIn_r _ [78, 2, 79, 80, 81, 82, 83, 84, 85, 86, 87, 88, 89] (by decide +kernel) (by decide +kernel)
set_option maxRecDepth 20000 in
theorem gX7_does_X7_files : GoodIn wsX7_does (wsV RX7 96 RX7 yX7_files wsX7_files) := goodIn_app (goodIn_of _ (by decide +kernel)) ggX7_does_X7_files
theorem dX7_does_0 : decode cX7_does 0 = .ok (.iconst 0, 1) := by decide +kernel
theorem dX7_does_1 : decode cX7_does 1 = .ok (.istore_n 3, 1) := by decide +kernel
theorem dX7_does_2 : decode cX7_does 2 = .ok (.iload_n 1, 1) := by decide +kernel
theorem dX7_does_3 : decode cX7_does 3 = .ok (.lookupswitch 231 #[(43, 33), (109, 190), (114, 97)], 33) := by decide +kernel
theorem dX7_does_36 : decode cX7_does 36 = .ok (.aload_n 0, 1) := by decide +kernel
theorem dX7_does_37 : decode cX7_does 37 = .ok (.invokevirtual 163, 3) := by decide +kernel
theorem dX7_does_40 : decode cX7_does 40 = .ok (.istore_n 2, 1) := by decide +kernel
theorem dX7_does_41 : decode cX7_does 41 = .ok (.iload_n 2, 1) := by decide +kernel
theorem dX7_does_42 : decode cX7_does 42 = .ok (.ifCond .ne 56, 3) := by decide +kernel
theorem dX7_does_45 : decode cX7_does 45 = .ok (.aload_n 0, 1) := by decide +kernel
theorem dX7_does_46 : decode cX7_does 46 = .ok (.aload_n 0, 1) := by decide +kernel
theorem dX7_does_47 : decode cX7_does 47 = .ok (.getfield 137, 3) := by decide +kernel
theorem dX7_does_50 : decode cX7_does 50 = .ok (.invokevirtual 85, 3) := by decide +kernel
theorem dX7_does_53 : decode cX7_does 53 = .ok (.istore 4, 2) := by decide +kernel
theorem dX7_does_55 : decode cX7_does 55 = .ok (.iconst 0, 1) := by decide +kernel
theorem dX7_does_56 : decode cX7_does 56 = .ok (.istore 5, 2) := by decide +kernel
theorem dX7_does_58 : decode cX7_does 58 = .ok (.iload 5, 2) := by decide +kernel
theorem dX7_does_60 : decode cX7_does 60 = .ok (.aload_n 0, 1) := by decide +kernel
theorem dX7_does_61 : decode cX7_does 61 = .ok (.getfield 137, 3) := by decide +kernel
theorem dX7_does_64 : decode cX7_does 64 = .ok (.if_icmp .ge 34, 3) := by decide +kernel
theorem dX7_does_67 : decode cX7_does 67 = .ok (.aload_n 0, 1) := by decide +kernel
theorem dX7_does_68 : decode cX7_does 68 = .ok (.getfield 7, 3) := by decide +kernel
theorem dX7_does_71 : decode cX7_does 71 = .ok (.bipush 9, 2) := by decide +kernel
theorem dX7_does_73 : decode cX7_does 73 = .ok (.bipush 27, 2) := by decide +kernel
theorem dX7_does_75 : decode cX7_does 75 = .ok (.iload 4, 2) := by decide +kernel
theorem dX7_does_77 : decode cX7_does 77 = .ok (.imul, 1) := by decide +kernel
theorem dX7_does_78 : decode cX7_does 78 = .ok (.iadd, 1) := by decide +kernel
theorem dX7_does_79 : decode cX7_does 79 = .ok (.iconst 3, 1) := by decide +kernel
theorem dX7_does_80 : decode cX7_does 80 = .ok (.iadd, 1) := by decide +kernel
theorem dX7_does_81 : decode cX7_does 81 = .ok (.iload 5, 2) := by decide +kernel
theorem dX7_does_83 : decode cX7_does 83 = .ok (.iadd, 1) := by decide +kernel
theorem dX7_does_84 : decode cX7_does 84 = .ok (.aload_n 0, 1) := by decide +kernel
theorem dX7_does_85 : decode cX7_does 85 = .ok (.getfield 26, 3) := by decide +kernel
theorem dX7_does_88 : decode cX7_does 88 = .ok (.iload 5, 2) := by decide +kernel
theorem dX7_does_90 : decode cX7_does 90 = .ok (.iaload, 1) := by decide +kernel
theorem dX7_does_91 : decode cX7_does 91 = .ok (.iastore, 1) := by decide +kernel
theorem dX7_does_92 : decode cX7_does 92 = .ok (.iinc 5 1, 3) := by decide +kernel
theorem dX7_does_95 : decode cX7_does 95 = .ok (.goto (-37), 3) := by decide +kernel
theorem dX7_does_98 : decode cX7_does 98 = .ok (.iload_n 2, 1) := by decide +kernel
theorem dX7_does_99 : decode cX7_does 99 = .ok (.ireturn, 1) := by decide +kernel
theorem dX7_does_100 : decode cX7_does 100 = .ok (.aload_n 0, 1) := by decide +kernel
theorem dX7_does_101 : decode cX7_does 101 = .ok (.aload_n 0, 1) := by decide +kernel
theorem dX7_does_102 : decode cX7_does 102 = .ok (.getfield 26, 3) := by decide +kernel
theorem dX7_does_105 : decode cX7_does 105 = .ok (.iconst 0, 1) := by decide +kernel
theorem dX7_does_106 : decode cX7_does 106 = .ok (.iaload, 1) := by decide +kernel
theorem dX7_does_107 : decode cX7_does 107 = .ok (.aload_n 0, 1) := by decide +kernel
theorem dX7_does_108 : decode cX7_does 108 = .ok (.getfield 26, 3) := by decide +kernel
theorem dX7_does_111 : decode cX7_does 111 = .ok (.iconst 1, 1) := by decide +kernel
theorem dX7_does_112 : decode cX7_does 112 = .ok (.iaload, 1) := by decide +kernel
theorem dX7_does_113 : decode cX7_does 113 = .ok (.aload_n 0, 1) := by decide +kernel
theorem dX7_does_114 : decode cX7_does 114 = .ok (.getfield 26, 3) := by decide +kernel
theorem dX7_does_117 : decode cX7_does 117 = .ok (.iconst 2, 1) := by decide +kernel
theorem dX7_does_118 : decode cX7_does 118 = .ok (.iaload, 1) := by decide +kernel
theorem dX7_does_119 : decode cX7_does 119 = .ok (.aload_n 0, 1) := by decide +kernel
theorem dX7_does_120 : decode cX7_does 120 = .ok (.getfield 26, 3) := by decide +kernel
theorem dX7_does_123 : decode cX7_does 123 = .ok (.iconst 3, 1) := by decide +kernel
theorem dX7_does_124 : decode cX7_does 124 = .ok (.iaload, 1) := by decide +kernel
theorem dX7_does_125 : decode cX7_does 125 = .ok (.aload_n 0, 1) := by decide +kernel
theorem dX7_does_126 : decode cX7_does 126 = .ok (.getfield 26, 3) := by decide +kernel
theorem dX7_does_129 : decode cX7_does 129 = .ok (.iconst 4, 1) := by decide +kernel
theorem dX7_does_130 : decode cX7_does 130 = .ok (.iaload, 1) := by decide +kernel
theorem dX7_does_131 : decode cX7_does 131 = .ok (.aload_n 0, 1) := by decide +kernel
theorem dX7_does_132 : decode cX7_does 132 = .ok (.getfield 26, 3) := by decide +kernel
theorem dX7_does_135 : decode cX7_does 135 = .ok (.iconst 5, 1) := by decide +kernel
theorem dX7_does_136 : decode cX7_does 136 = .ok (.iaload, 1) := by decide +kernel
theorem dX7_does_137 : decode cX7_does 137 = .ok (.invokevirtual 102, 3) := by decide +kernel
theorem dX7_does_140 : decode cX7_does 140 = .ok (.istore_n 2, 1) := by decide +kernel
theorem dX7_does_141 : decode cX7_does 141 = .ok (.iload_n 2, 1) := by decide +kernel
theorem dX7_does_142 : decode cX7_does 142 = .ok (.ifCond .ne 46, 3) := by decide +kernel
theorem dX7_does_145 : decode cX7_does 145 = .ok (.aload_n 0, 1) := by decide +kernel
theorem dX7_does_146 : decode cX7_does 146 = .ok (.aload_n 0, 1) := by decide +kernel
theorem dX7_does_147 : decode cX7_does 147 = .ok (.getfield 26, 3) := by decide +kernel
theorem dX7_does_150 : decode cX7_does 150 = .ok (.iconst 0, 1) := by decide +kernel
theorem dX7_does_151 : decode cX7_does 151 = .ok (.iaload, 1) := by decide +kernel
theorem dX7_does_152 : decode cX7_does 152 = .ok (.aload_n 0, 1) := by decide +kernel
theorem dX7_does_153 : decode cX7_does 153 = .ok (.getfield 26, 3) := by decide +kernel
theorem dX7_does_156 : decode cX7_does 156 = .ok (.iconst 1, 1) := by decide +kernel
theorem dX7_does_157 : decode cX7_does 157 = .ok (.iaload, 1) := by decide +kernel
theorem dX7_does_158 : decode cX7_does 158 = .ok (.aload_n 0, 1) := by decide +kernel
theorem dX7_does_159 : decode cX7_does 159 = .ok (.getfield 26, 3) := by decide +kernel
theorem dX7_does_162 : decode cX7_does 162 = .ok (.iconst 2, 1) := by decide +kernel
theorem dX7_does_163 : decode cX7_does 163 = .ok (.iaload, 1) := by decide +kernel
theorem dX7_does_164 : decode cX7_does 164 = .ok (.aload_n 0, 1) := by decide +kernel
theorem dX7_does_165 : decode cX7_does 165 = .ok (.getfield 26, 3) := by decide +kernel
theorem dX7_does_168 : decode cX7_does 168 = .ok (.iconst 3, 1) := by decide +kernel
theorem dX7_does_169 : decode cX7_does 169 = .ok (.iaload, 1) := by decide +kernel
theorem dX7_does_170 : decode cX7_does 170 = .ok (.aload_n 0, 1) := by decide +kernel
theorem dX7_does_171 : decode cX7_does 171 = .ok (.getfield 26, 3) := by decide +kernel
theorem dX7_does_174 : decode cX7_does 174 = .ok (.iconst 4, 1) := by decide +kernel
theorem dX7_does_175 : decode cX7_does 175 = .ok (.iaload, 1) := by decide +kernel
theorem dX7_does_176 : decode cX7_does 176 = .ok (.aload_n 0, 1) := by decide +kernel
theorem dX7_does_177 : decode cX7_does 177 = .ok (.getfield 26, 3) := by decide +kernel
theorem dX7_does_180 : decode cX7_does 180 = .ok (.iconst 5, 1) := by decide +kernel
theorem dX7_does_181 : decode cX7_does 181 = .ok (.iaload, 1) := by decide +kernel
theorem dX7_does_182 : decode cX7_does 182 = .ok (.invokevirtual 106, 3) := by decide +kernel
theorem dX7_does_185 : decode cX7_does 185 = .ok (.goto 4, 3) := by decide +kernel
theorem dX7_does_188 : decode cX7_does 188 = .ok (.iconst 0, 1) := by decide +kernel
theorem dX7_does_189 : decode cX7_does 189 = .ok (.istore_n 3, 1) := by decide +kernel
theorem dX7_does_190 : decode cX7_does 190 = .ok (.goto 98, 3) := by decide +kernel
theorem dX7_does_193 : decode cX7_does 193 = .ok (.aload_n 0, 1) := by decide +kernel
theorem dX7_does_194 : decode cX7_does 194 = .ok (.aload_n 0, 1) := by decide +kernel
theorem dX7_does_195 : decode cX7_does 195 = .ok (.getfield 26, 3) := by decide +kernel
theorem dX7_does_198 : decode cX7_does 198 = .ok (.iconst 0, 1) := by decide +kernel
theorem dX7_does_199 : decode cX7_does 199 = .ok (.iaload, 1) := by decide +kernel
theorem dX7_does_200 : decode cX7_does 200 = .ok (.invokevirtual 41, 3) := by decide +kernel
theorem dX7_does_203 : decode cX7_does 203 = .ok (.ifCond .eq 7, 3) := by decide +kernel
theorem dX7_does_206 : decode cX7_does 206 = .ok (.iconst 0, 1) := by decide +kernel
theorem dX7_does_207 : decode cX7_does 207 = .ok (.goto 4, 3) := by decide +kernel
theorem dX7_does_210 : decode cX7_does 210 = .ok (.iconst (-1), 1) := by decide +kernel
theorem dX7_does_211 : decode cX7_does 211 = .ok (.istore_n 2, 1) := by decide +kernel
theorem dX7_does_212 : decode cX7_does 212 = .ok (.iload_n 2, 1) := by decide +kernel
theorem dX7_does_213 : decode cX7_does 213 = .ok (.ifCond .ne 16, 3) := by decide +kernel
theorem dX7_does_216 : decode cX7_does 216 = .ok (.aload_n 0, 1) := by decide +kernel
theorem dX7_does_217 : decode cX7_does 217 = .ok (.aload_n 0, 1) := by decide +kernel
theorem dX7_does_218 : decode cX7_does 218 = .ok (.getfield 26, 3) := by decide +kernel
theorem dX7_does_221 : decode cX7_does 221 = .ok (.iconst 0, 1) := by decide +kernel
theorem dX7_does_222 : decode cX7_does 222 = .ok (.iaload, 1) := by decide +kernel
theorem dX7_does_223 : decode cX7_does 223 = .ok (.invokevirtual 99, 3) := by decide +kernel
theorem dX7_does_226 : decode cX7_does 226 = .ok (.goto 4, 3) := by decide +kernel
theorem dX7_does_229 : decode cX7_does 229 = .ok (.iconst 0, 1) := by decide +kernel
theorem dX7_does_230 : decode cX7_does 230 = .ok (.istore_n 3, 1) := by decide +kernel
theorem dX7_does_231 : decode cX7_does 231 = .ok (.goto 57, 3) := by decide +kernel
theorem dX7_does_234 : decode cX7_does 234 = .ok (.aload_n 0, 1) := by decide +kernel
theorem dX7_does_235 : decode cX7_does 235 = .ok (.aload_n 0, 1) := by decide +kernel
theorem dX7_does_236 : decode cX7_does 236 = .ok (.getfield 26, 3) := by decide +kernel
theorem dX7_does_239 : decode cX7_does 239 = .ok (.iconst 0, 1) := by decide +kernel
theorem dX7_does_240 : decode cX7_does 240 = .ok (.iaload, 1) := by decide +kernel
theorem dX7_does_241 : decode cX7_does 241 = .ok (.aload_n 0, 1) := by decide +kernel
theorem dX7_does_242 : decode cX7_does 242 = .ok (.getfield 26, 3) := by decide +kernel
theorem dX7_does_245 : decode cX7_does 245 = .ok (.iconst 1, 1) := by decide +kernel
theorem dX7_does_246 : decode cX7_does 246 = .ok (.iaload, 1) := by decide +kernel
theorem dX7_does_247 : decode cX7_does 247 = .ok (.aload_n 0, 1) := by decide +kernel
theorem dX7_does_248 : decode cX7_does 248 = .ok (.getfield 26, 3) := by decide +kernel
theorem dX7_does_251 : decode cX7_does 251 = .ok (.iconst 2, 1) := by decide +kernel
theorem dX7_does_252 : decode cX7_does 252 = .ok (.iaload, 1) := by decide +kernel
theorem dX7_does_253 : decode cX7_does 253 = .ok (.invokevirtual 92, 3) := by decide +kernel
theorem dX7_does_256 : decode cX7_does 256 = .ok (.istore_n 2, 1) := by decide +kernel
theorem dX7_does_257 : decode cX7_does 257 = .ok (.iload_n 2, 1) := by decide +kernel
theorem dX7_does_258 : decode cX7_does 258 = .ok (.ifCond .ne 28, 3) := by decide +kernel
theorem dX7_does_261 : decode cX7_does 261 = .ok (.aload_n 0, 1) := by decide +kernel
theorem dX7_does_262 : decode cX7_does 262 = .ok (.aload_n 0, 1) := by decide +kernel
theorem dX7_does_263 : decode cX7_does 263 = .ok (.getfield 26, 3) := by decide +kernel
theorem dX7_does_266 : decode cX7_does 266 = .ok (.iconst 0, 1) := by decide +kernel
theorem dX7_does_267 : decode cX7_does 267 = .ok (.iaload, 1) := by decide +kernel
theorem dX7_does_268 : decode cX7_does 268 = .ok (.aload_n 0, 1) := by decide +kernel
theorem dX7_does_269 : decode cX7_does 269 = .ok (.getfield 26, 3) := by decide +kernel
theorem dX7_does_272 : decode cX7_does 272 = .ok (.iconst 1, 1) := by decide +kernel
theorem dX7_does_273 : decode cX7_does 273 = .ok (.iaload, 1) := by decide +kernel
theorem dX7_does_274 : decode cX7_does 274 = .ok (.aload_n 0, 1) := by decide +kernel
theorem dX7_does_275 : decode cX7_does 275 = .ok (.getfield 26, 3) := by decide +kernel
theorem dX7_does_278 : decode cX7_does 278 = .ok (.iconst 2, 1) := by decide +kernel
theorem dX7_does_279 : decode cX7_does 279 = .ok (.iaload, 1) := by decide +kernel
theorem dX7_does_280 : decode cX7_does 280 = .ok (.invokevirtual 96, 3) := by decide +kernel
theorem dX7_does_283 : decode cX7_does 283 = .ok (.goto 4, 3) := by decide +kernel
theorem dX7_does_286 : decode cX7_does 286 = .ok (.iconst 0, 1) := by decide +kernel
theorem dX7_does_287 : decode cX7_does 287 = .ok (.istore_n 3, 1) := by decide +kernel
theorem dX7_does_288 : decode cX7_does 288 = .ok (.iload_n 3, 1) := by decide +kernel
theorem dX7_does_289 : decode cX7_does 289 = .ok (.ifCond .ge 7, 3) := by decide +kernel
theorem dX7_does_292 : decode cX7_does 292 = .ok (.iconst 0, 1) := by decide +kernel
theorem dX7_does_293 : decode cX7_does 293 = .ok (.goto 4, 3) := by decide +kernel
theorem dX7_does_296 : decode cX7_does 296 = .ok (.iload_n 2, 1) := by decide +kernel
theorem dX7_does_297 : decode cX7_does 297 = .ok (.ireturn, 1) := by decide +kernel
set_option maxRecDepth 20000 in
theorem ggX7_carryOut_X7_fault : GoodIn wsX7_carryOut wsX7_fault := goodIn_r _ [7, 1, 2, 8, 9, 10, 6, 11, 12, 13, 14, 15, 16, 17, 18, 19, 20, 21, 22, 23, 24, 25, 26, 27, 28, 29, 30, 31, 32, 33, 34, 35, 36, 37, 38, 39, 40, 41, 42, 43, 44, 45, 131, 132, 133, 134, 135, 136, 137, 138, 139, 140, 141] (by decide +kernel) (by decide +kernel)
set_option maxRecDepth 20000 in
theorem gX7_carryOut_X7_fault : GoodIn wsX7_carryOut (wsV RX7 166 RX7 yX7_fault wsX7_fault) := goodIn_app (goodIn_of _ (by decide +kernel)) ggX7_carryOut_X7_fault
set_option maxRecDepth 20000 in
theorem ggX7_carryOut_X7_records : GoodIn wsX7_carryOut wsX7_records := goodIn_r _ [49, 50, 51, 52, 53, 54, 6, 55, 131, 132, 133, 134, 135, 136, 137, 138, 139, 140, 141] (by decide +kernel) (by decide +kernel)
set_option maxRecDepth 20000 in
theorem gX7_carryOut_X7_records : GoodIn wsX7_carryOut (wsV RX7 79 RX7 yX7_records wsX7_records) := goodIn_app (goodIn_of _ (by decide +kernel)) ggX7_carryOut_X7_records
set_option maxRecDepth 20000 in
theorem ggX7_carryOut_X7_letter : GoodIn wsX7_carryOut wsX7_letter := goodIn_r _ [11, 1, 2, 12, 131, 132, 133, 134, 135, 136, 137, 138, 139, 140, 141] (by decide +kernel) (by decide +kernel)
set_option maxRecDepth 20000 in
theorem gX7_carryOut_X7_letter : GoodIn wsX7_carryOut (wsV RX7 156 RX7 yX7_letter wsX7_letter) := goodIn_app (goodIn_of _ (by decide +kernel)) ggX7_carryOut_X7_letter
set_option maxRecDepth 20000 in
theorem ggX7_carryOut_X7_isOrder : GoodIn wsX7_carryOut wsX7_isOrder := goodIn_r _ [16, 17, 1, 18, 19, 20, 6, 21, 22, 23, 24, 25, 26, 12, 27, 28, 29, 30, 31, 32, 33, 34, 2, 35, 36, 37, 38, 39, 40, 41, 42, 43, 44, 45, 131, 132, 133, 134, 135, 136, 137, 138, 139, 140, 141] (by decide +kernel) (by decide +kernel)
set_option maxRecDepth 20000 in
theorem gX7_carryOut_X7_isOrder : GoodIn wsX7_carryOut (wsV RX7 160 RX7 yX7_isOrder wsX7_isOrder) := goodIn_app (goodIn_of _ (by decide +kernel)) ggX7_carryOut_X7_isOrder
set_option maxRecDepth 20000 in
theorem ggX7_carryOut_X7_does : GoodIn wsX7_carryOut wsX7_does := goodIn_r _ [59, 17, 52, 26, 60, 61, 62, 6, 63, 35, 36, 37, 64, 65, 66, 67, 68, 69, 70, 71, 72, 73, 74, 75, 76, 77, 78, 79, 80, 81, 82, 83, 84, 85, 86, 87, 88, 89, 90, 91, 92, 93, 94, 95, 96, 97, 98, 99, 100, 101, 102, 103, 104, 105, 106, 107, 108, 109, 110, 111, 112, 113, 114, 115, 116, 117, 118, 119, 120, 121, 122, 123, 124, 125, 126, 127, 128, 129, 130, 131, 132, 133, 134, 135, 136, 137, 138, 139, 140, 141] (by decide +kernel) (by decide +kernel)
set_option maxRecDepth 20000 in
theorem gX7_carryOut_X7_does : GoodIn wsX7_carryOut (wsV RX7 169 RX7 yX7_does wsX7_does) := goodIn_app (goodIn_of _ (by decide +kernel)) ggX7_carryOut_X7_does
theorem dX7_carryOut_0 : decode cX7_carryOut 0 = .ok (.aload_n 0, 1) := by decide +kernel
theorem dX7_carryOut_1 : decode cX7_carryOut 1 = .ok (.invokevirtual 166, 3) := by decide +kernel
theorem dX7_carryOut_4 : decode cX7_carryOut 4 = .ok (.bipush (-6), 2) := by decide +kernel
theorem dX7_carryOut_6 : decode cX7_carryOut 6 = .ok (.if_icmp .eq 6, 3) := by decide +kernel
theorem dX7_carryOut_9 : decode cX7_carryOut 9 = .ok (.bipush (-3), 2) := by decide +kernel
theorem dX7_carryOut_11 : decode cX7_carryOut 11 = .ok (.ireturn, 1) := by decide +kernel
theorem dX7_carryOut_12 : decode cX7_carryOut 12 = .ok (.aload_n 0, 1) := by decide +kernel
theorem dX7_carryOut_13 : decode cX7_carryOut 13 = .ok (.invokevirtual 79, 3) := by decide +kernel
theorem dX7_carryOut_16 : decode cX7_carryOut 16 = .ok (.aload_n 0, 1) := by decide +kernel
theorem dX7_carryOut_17 : decode cX7_carryOut 17 = .ok (.iconst 0, 1) := by decide +kernel
theorem dX7_carryOut_18 : decode cX7_carryOut 18 = .ok (.putfield 131, 3) := by decide +kernel
theorem dX7_carryOut_21 : decode cX7_carryOut 21 = .ok (.iconst 0, 1) := by decide +kernel
theorem dX7_carryOut_22 : decode cX7_carryOut 22 = .ok (.istore_n 1, 1) := by decide +kernel
theorem dX7_carryOut_23 : decode cX7_carryOut 23 = .ok (.iconst 1, 1) := by decide +kernel
theorem dX7_carryOut_24 : decode cX7_carryOut 24 = .ok (.istore_n 2, 1) := by decide +kernel
theorem dX7_carryOut_25 : decode cX7_carryOut 25 = .ok (.iload_n 2, 1) := by decide +kernel
theorem dX7_carryOut_26 : decode cX7_carryOut 26 = .ok (.ifCond .eq 66, 3) := by decide +kernel
theorem dX7_carryOut_29 : decode cX7_carryOut 29 = .ok (.aload_n 0, 1) := by decide +kernel
theorem dX7_carryOut_30 : decode cX7_carryOut 30 = .ok (.getfield 131, 3) := by decide +kernel
theorem dX7_carryOut_33 : decode cX7_carryOut 33 = .ok (.aload_n 0, 1) := by decide +kernel
theorem dX7_carryOut_34 : decode cX7_carryOut 34 = .ok (.getfield 115, 3) := by decide +kernel
theorem dX7_carryOut_37 : decode cX7_carryOut 37 = .ok (.if_icmp .ge 55, 3) := by decide +kernel
theorem dX7_carryOut_40 : decode cX7_carryOut 40 = .ok (.aload_n 0, 1) := by decide +kernel
theorem dX7_carryOut_41 : decode cX7_carryOut 41 = .ok (.invokevirtual 156, 3) := by decide +kernel
theorem dX7_carryOut_44 : decode cX7_carryOut 44 = .ok (.istore_n 3, 1) := by decide +kernel
theorem dX7_carryOut_45 : decode cX7_carryOut 45 = .ok (.aload_n 0, 1) := by decide +kernel
theorem dX7_carryOut_46 : decode cX7_carryOut 46 = .ok (.iload_n 3, 1) := by decide +kernel
theorem dX7_carryOut_47 : decode cX7_carryOut 47 = .ok (.invokevirtual 160, 3) := by decide +kernel
theorem dX7_carryOut_50 : decode cX7_carryOut 50 = .ok (.ifCond .eq 15, 3) := by decide +kernel
theorem dX7_carryOut_53 : decode cX7_carryOut 53 = .ok (.aload_n 0, 1) := by decide +kernel
theorem dX7_carryOut_54 : decode cX7_carryOut 54 = .ok (.iload_n 3, 1) := by decide +kernel
theorem dX7_carryOut_55 : decode cX7_carryOut 55 = .ok (.invokevirtual 169, 3) := by decide +kernel
theorem dX7_carryOut_58 : decode cX7_carryOut 58 = .ok (.ifCond .ne 7, 3) := by decide +kernel
theorem dX7_carryOut_61 : decode cX7_carryOut 61 = .ok (.iconst 1, 1) := by decide +kernel
theorem dX7_carryOut_62 : decode cX7_carryOut 62 = .ok (.goto 4, 3) := by decide +kernel
theorem dX7_carryOut_65 : decode cX7_carryOut 65 = .ok (.iconst 0, 1) := by decide +kernel
theorem dX7_carryOut_66 : decode cX7_carryOut 66 = .ok (.istore_n 2, 1) := by decide +kernel
theorem dX7_carryOut_67 : decode cX7_carryOut 67 = .ok (.iload_n 1, 1) := by decide +kernel
theorem dX7_carryOut_68 : decode cX7_carryOut 68 = .ok (.iload_n 2, 1) := by decide +kernel
theorem dX7_carryOut_69 : decode cX7_carryOut 69 = .ok (.ifCond .eq 7, 3) := by decide +kernel
theorem dX7_carryOut_72 : decode cX7_carryOut 72 = .ok (.iconst 1, 1) := by decide +kernel
theorem dX7_carryOut_73 : decode cX7_carryOut 73 = .ok (.goto 4, 3) := by decide +kernel
theorem dX7_carryOut_76 : decode cX7_carryOut 76 = .ok (.iconst 0, 1) := by decide +kernel
theorem dX7_carryOut_77 : decode cX7_carryOut 77 = .ok (.iadd, 1) := by decide +kernel
theorem dX7_carryOut_78 : decode cX7_carryOut 78 = .ok (.istore_n 1, 1) := by decide +kernel
theorem dX7_carryOut_79 : decode cX7_carryOut 79 = .ok (.aload_n 0, 1) := by decide +kernel
theorem dX7_carryOut_80 : decode cX7_carryOut 80 = .ok (.dup, 1) := by decide +kernel
theorem dX7_carryOut_81 : decode cX7_carryOut 81 = .ok (.getfield 131, 3) := by decide +kernel
theorem dX7_carryOut_84 : decode cX7_carryOut 84 = .ok (.iconst 1, 1) := by decide +kernel
theorem dX7_carryOut_85 : decode cX7_carryOut 85 = .ok (.iadd, 1) := by decide +kernel
theorem dX7_carryOut_86 : decode cX7_carryOut 86 = .ok (.putfield 131, 3) := by decide +kernel
theorem dX7_carryOut_89 : decode cX7_carryOut 89 = .ok (.goto (-64), 3) := by decide +kernel
theorem dX7_carryOut_92 : decode cX7_carryOut 92 = .ok (.aload_n 0, 1) := by decide +kernel
theorem dX7_carryOut_93 : decode cX7_carryOut 93 = .ok (.iconst 0, 1) := by decide +kernel
theorem dX7_carryOut_94 : decode cX7_carryOut 94 = .ok (.putfield 115, 3) := by decide +kernel
theorem dX7_carryOut_97 : decode cX7_carryOut 97 = .ok (.iload_n 1, 1) := by decide +kernel
theorem dX7_carryOut_98 : decode cX7_carryOut 98 = .ok (.ireturn, 1) := by decide +kernel
set_option maxRecDepth 20000 in
theorem ggX7_undo_X7_lays : GoodIn wsX7_undo wsX7_lays := goodIn_r _ [7] (by decide +kernel) (by decide +kernel)
set_option maxRecDepth 20000 in
theorem gX7_undo_X7_lays : GoodIn wsX7_undo (va_wsS RX7 33 yX7_lays wsX7_lays) := goodIn_app (goodIn_of _ (by decide +kernel)) ggX7_undo_X7_lays
theorem dX7_undo_0 : decode cX7_undo 0 = .ok (.aload_n 0, 1) := by decide +kernel
theorem dX7_undo_1 : decode cX7_undo 1 = .ok (.getfield 29, 3) := by decide +kernel
theorem dX7_undo_4 : decode cX7_undo 4 = .ok (.ifCond .ne 6, 3) := by decide +kernel
theorem dX7_undo_7 : decode cX7_undo 7 = .ok (.bipush (-5), 2) := by decide +kernel
theorem dX7_undo_9 : decode cX7_undo 9 = .ok (.ireturn, 1) := by decide +kernel
theorem dX7_undo_10 : decode cX7_undo 10 = .ok (.aload_n 0, 1) := by decide +kernel
theorem dX7_undo_11 : decode cX7_undo 11 = .ok (.dup, 1) := by decide +kernel
theorem dX7_undo_12 : decode cX7_undo 12 = .ok (.getfield 29, 3) := by decide +kernel
theorem dX7_undo_15 : decode cX7_undo 15 = .ok (.iconst 1, 1) := by decide +kernel
theorem dX7_undo_16 : decode cX7_undo 16 = .ok (.isub, 1) := by decide +kernel
theorem dX7_undo_17 : decode cX7_undo 17 = .ok (.putfield 29, 3) := by decide +kernel
theorem dX7_undo_20 : decode cX7_undo 20 = .ok (.aload_n 0, 1) := by decide +kernel
theorem dX7_undo_21 : decode cX7_undo 21 = .ok (.getfield 13, 3) := by decide +kernel
theorem dX7_undo_24 : decode cX7_undo 24 = .ok (.sipush 225, 3) := by decide +kernel
theorem dX7_undo_27 : decode cX7_undo 27 = .ok (.aload_n 0, 1) := by decide +kernel
theorem dX7_undo_28 : decode cX7_undo 28 = .ok (.getfield 29, 3) := by decide +kernel
theorem dX7_undo_31 : decode cX7_undo 31 = .ok (.imul, 1) := by decide +kernel
theorem dX7_undo_32 : decode cX7_undo 32 = .ok (.aload_n 0, 1) := by decide +kernel
theorem dX7_undo_33 : decode cX7_undo 33 = .ok (.getfield 7, 3) := by decide +kernel
theorem dX7_undo_36 : decode cX7_undo 36 = .ok (.iconst 0, 1) := by decide +kernel
theorem dX7_undo_37 : decode cX7_undo 37 = .ok (.invokestatic 33, 3) := by decide +kernel
theorem dX7_undo_40 : decode cX7_undo 40 = .ok (.aload_n 0, 1) := by decide +kernel
theorem dX7_undo_41 : decode cX7_undo 41 = .ok (.getfield 29, 3) := by decide +kernel
theorem dX7_undo_44 : decode cX7_undo 44 = .ok (.ireturn, 1) := by decide +kernel
set_option maxRecDepth 20000 in
theorem ggX7_save_X7_in : GoodIn wsX7_save wsX7_in := goodIn_r _ [7] (by decide +kernel) (by decide +kernel)
set_option maxRecDepth 20000 in
theorem gX7_save_X7_in : GoodIn wsX7_save (va_wsS RX7 37 yX7_in wsX7_in) := goodIn_app (goodIn_of _ (by decide +kernel)) ggX7_save_X7_in
set_option maxRecDepth 20000 in
theorem ggX7_save_X7_lays : GoodIn wsX7_save wsX7_lays := goodIn_r _ [10] (by decide +kernel) (by decide +kernel)
set_option maxRecDepth 20000 in
theorem gX7_save_X7_lays : GoodIn wsX7_save (va_wsS RX7 33 yX7_lays wsX7_lays) := goodIn_app (goodIn_of _ (by decide +kernel)) ggX7_save_X7_lays
theorem dX7_save_0 : decode cX7_save 0 = .ok (.iload_n 1, 1) := by decide +kernel
theorem dX7_save_1 : decode cX7_save 1 = .ok (.iconst 0, 1) := by decide +kernel
theorem dX7_save_2 : decode cX7_save 2 = .ok (.iconst 1, 1) := by decide +kernel
theorem dX7_save_3 : decode cX7_save 3 = .ok (.invokestatic 37, 3) := by decide +kernel
theorem dX7_save_6 : decode cX7_save 6 = .ok (.ifCond .ne 6, 3) := by decide +kernel
theorem dX7_save_9 : decode cX7_save 9 = .ok (.bipush (-2), 2) := by decide +kernel
theorem dX7_save_11 : decode cX7_save 11 = .ok (.ireturn, 1) := by decide +kernel
theorem dX7_save_12 : decode cX7_save 12 = .ok (.aload_n 0, 1) := by decide +kernel
theorem dX7_save_13 : decode cX7_save 13 = .ok (.getfield 7, 3) := by decide +kernel
theorem dX7_save_16 : decode cX7_save 16 = .ok (.iconst 0, 1) := by decide +kernel
theorem dX7_save_17 : decode cX7_save 17 = .ok (.aload_n 0, 1) := by decide +kernel
theorem dX7_save_18 : decode cX7_save 18 = .ok (.getfield 16, 3) := by decide +kernel
theorem dX7_save_21 : decode cX7_save 21 = .ok (.sipush 225, 3) := by decide +kernel
theorem dX7_save_24 : decode cX7_save 24 = .ok (.iload_n 1, 1) := by decide +kernel
theorem dX7_save_25 : decode cX7_save 25 = .ok (.imul, 1) := by decide +kernel
theorem dX7_save_26 : decode cX7_save 26 = .ok (.invokestatic 33, 3) := by decide +kernel
theorem dX7_save_29 : decode cX7_save 29 = .ok (.aload_n 0, 1) := by decide +kernel
theorem dX7_save_30 : decode cX7_save 30 = .ok (.getfield 19, 3) := by decide +kernel
theorem dX7_save_33 : decode cX7_save 33 = .ok (.iload_n 1, 1) := by decide +kernel
theorem dX7_save_34 : decode cX7_save 34 = .ok (.iconst 1, 1) := by decide +kernel
theorem dX7_save_35 : decode cX7_save 35 = .ok (.bastore, 1) := by decide +kernel
theorem dX7_save_36 : decode cX7_save 36 = .ok (.aload_n 0, 1) := by decide +kernel
theorem dX7_save_37 : decode cX7_save 37 = .ok (.getfield 7, 3) := by decide +kernel
theorem dX7_save_40 : decode cX7_save 40 = .ok (.iconst 3, 1) := by decide +kernel
theorem dX7_save_41 : decode cX7_save 41 = .ok (.iaload, 1) := by decide +kernel
theorem dX7_save_42 : decode cX7_save 42 = .ok (.ireturn, 1) := by decide +kernel
set_option maxRecDepth 20000 in
theorem ggX7_restore_X7_in : GoodIn wsX7_restore wsX7_in := goodIn_r _ [7] (by decide +kernel) (by decide +kernel)
set_option maxRecDepth 20000 in
theorem gX7_restore_X7_in : GoodIn wsX7_restore (va_wsS RX7 37 yX7_in wsX7_in) := goodIn_app (goodIn_of _ (by decide +kernel)) ggX7_restore_X7_in
set_option maxRecDepth 20000 in
theorem ggX7_restore_X7_records : GoodIn wsX7_restore wsX7_records := goodIn_r _ [11, 12, 13, 3, 14, 15, 6, 16, 17, 18, 19, 20, 21, 22, 23, 24, 25, 26, 27] (by decide +kernel) (by decide +kernel)
set_option maxRecDepth 20000 in
theorem gX7_restore_X7_records : GoodIn wsX7_restore (wsV RX7 79 RX7 yX7_records wsX7_records) := goodIn_app (goodIn_of _ (by decide +kernel)) ggX7_restore_X7_records
set_option maxRecDepth 20000 in
theorem ggX7_restore_X7_lays : GoodIn wsX7_restore wsX7_lays := goodIn_r _ [16] (by decide +kernel) (by decide +kernel)
set_option maxRecDepth 20000 in
theorem gX7_restore_X7_lays : GoodIn wsX7_restore (va_wsS RX7 33 yX7_lays wsX7_lays) := goodIn_app (goodIn_of _ (by decide +kernel)) ggX7_restore_X7_lays
theorem dX7_restore_0 : decode cX7_restore 0 = .ok (.iload_n 1, 1) := by decide +kernel
theorem dX7_restore_1 : decode cX7_restore 1 = .ok (.iconst 0, 1) := by decide +kernel
theorem dX7_restore_2 : decode cX7_restore 2 = .ok (.iconst 1, 1) := by decide +kernel
theorem dX7_restore_3 : decode cX7_restore 3 = .ok (.invokestatic 37, 3) := by decide +kernel
theorem dX7_restore_6 : decode cX7_restore 6 = .ok (.ifCond .ne 6, 3) := by decide +kernel
theorem dX7_restore_9 : decode cX7_restore 9 = .ok (.bipush (-2), 2) := by decide +kernel
theorem dX7_restore_11 : decode cX7_restore 11 = .ok (.ireturn, 1) := by decide +kernel
theorem dX7_restore_12 : decode cX7_restore 12 = .ok (.aload_n 0, 1) := by decide +kernel
theorem dX7_restore_13 : decode cX7_restore 13 = .ok (.getfield 19, 3) := by decide +kernel
theorem dX7_restore_16 : decode cX7_restore 16 = .ok (.iload_n 1, 1) := by decide +kernel
theorem dX7_restore_17 : decode cX7_restore 17 = .ok (.baload, 1) := by decide +kernel
theorem dX7_restore_18 : decode cX7_restore 18 = .ok (.ifCond .ne 6, 3) := by decide +kernel
theorem dX7_restore_21 : decode cX7_restore 21 = .ok (.bipush (-5), 2) := by decide +kernel
theorem dX7_restore_23 : decode cX7_restore 23 = .ok (.ireturn, 1) := by decide +kernel
theorem dX7_restore_24 : decode cX7_restore 24 = .ok (.aload_n 0, 1) := by decide +kernel
theorem dX7_restore_25 : decode cX7_restore 25 = .ok (.invokevirtual 79, 3) := by decide +kernel
theorem dX7_restore_28 : decode cX7_restore 28 = .ok (.aload_n 0, 1) := by decide +kernel
theorem dX7_restore_29 : decode cX7_restore 29 = .ok (.getfield 16, 3) := by decide +kernel
theorem dX7_restore_32 : decode cX7_restore 32 = .ok (.sipush 225, 3) := by decide +kernel
theorem dX7_restore_35 : decode cX7_restore 35 = .ok (.iload_n 1, 1) := by decide +kernel
theorem dX7_restore_36 : decode cX7_restore 36 = .ok (.imul, 1) := by decide +kernel
theorem dX7_restore_37 : decode cX7_restore 37 = .ok (.aload_n 0, 1) := by decide +kernel
theorem dX7_restore_38 : decode cX7_restore 38 = .ok (.getfield 7, 3) := by decide +kernel
theorem dX7_restore_41 : decode cX7_restore 41 = .ok (.iconst 0, 1) := by decide +kernel
theorem dX7_restore_42 : decode cX7_restore 42 = .ok (.invokestatic 33, 3) := by decide +kernel
theorem dX7_restore_45 : decode cX7_restore 45 = .ok (.aload_n 0, 1) := by decide +kernel
theorem dX7_restore_46 : decode cX7_restore 46 = .ok (.getfield 7, 3) := by decide +kernel
theorem dX7_restore_49 : decode cX7_restore 49 = .ok (.iconst 3, 1) := by decide +kernel
theorem dX7_restore_50 : decode cX7_restore 50 = .ok (.iaload, 1) := by decide +kernel
theorem dX7_restore_51 : decode cX7_restore 51 = .ok (.ireturn, 1) := by decide +kernel
theorem dJ9_abs_0f7a4_0 : decode cJ9_abs_0f7a4 0 = .ok (.iload_n 0, 1) := by decide +kernel
theorem dJ9_abs_0f7a4_1 : decode cJ9_abs_0f7a4 1 = .ok (.ifCond .ge 8, 3) := by decide +kernel
theorem dJ9_abs_0f7a4_4 : decode cJ9_abs_0f7a4 4 = .ok (.iload_n 0, 1) := by decide +kernel
theorem dJ9_abs_0f7a4_5 : decode cJ9_abs_0f7a4 5 = .ok (.ineg, 1) := by decide +kernel
theorem dJ9_abs_0f7a4_6 : decode cJ9_abs_0f7a4 6 = .ok (.goto 4, 3) := by decide +kernel
theorem dJ9_abs_0f7a4_9 : decode cJ9_abs_0f7a4 9 = .ok (.iload_n 0, 1) := by decide +kernel
theorem dJ9_abs_0f7a4_10 : decode cJ9_abs_0f7a4 10 = .ok (.ireturn, 1) := by decide +kernel
theorem dJ9_max_7cf53_0 : decode cJ9_max_7cf53 0 = .ok (.iload_n 0, 1) := by decide +kernel
theorem dJ9_max_7cf53_1 : decode cJ9_max_7cf53 1 = .ok (.iload_n 1, 1) := by decide +kernel
theorem dJ9_max_7cf53_2 : decode cJ9_max_7cf53 2 = .ok (.if_icmp .lt 7, 3) := by decide +kernel
theorem dJ9_max_7cf53_5 : decode cJ9_max_7cf53 5 = .ok (.iload_n 0, 1) := by decide +kernel
theorem dJ9_max_7cf53_6 : decode cJ9_max_7cf53 6 = .ok (.goto 4, 3) := by decide +kernel
theorem dJ9_max_7cf53_9 : decode cJ9_max_7cf53 9 = .ok (.iload_n 1, 1) := by decide +kernel
theorem dJ9_max_7cf53_10 : decode cJ9_max_7cf53 10 = .ok (.ireturn, 1) := by decide +kernel
theorem dJ9_min_7cf53_0 : decode cJ9_min_7cf53 0 = .ok (.iload_n 0, 1) := by decide +kernel
theorem dJ9_min_7cf53_1 : decode cJ9_min_7cf53 1 = .ok (.iload_n 1, 1) := by decide +kernel
theorem dJ9_min_7cf53_2 : decode cJ9_min_7cf53 2 = .ok (.if_icmp .gt 7, 3) := by decide +kernel
theorem dJ9_min_7cf53_5 : decode cJ9_min_7cf53 5 = .ok (.iload_n 0, 1) := by decide +kernel
theorem dJ9_min_7cf53_6 : decode cJ9_min_7cf53 6 = .ok (.goto 4, 3) := by decide +kernel
theorem dJ9_min_7cf53_9 : decode cJ9_min_7cf53 9 = .ok (.iload_n 1, 1) := by decide +kernel
theorem dJ9_min_7cf53_10 : decode cJ9_min_7cf53 10 = .ok (.ireturn, 1) := by decide +kernel
set_option maxRecDepth 20000 in
theorem ggL_law_X6_init : GoodIn wsL_law wsX6_init := goodIn_r _ [9, 10, 11, 12, 13, 14, 15, 16, 17, 18, 19, 20, 21, 22, 23, 24, 25, 26, 27, 28, 29, 30, 31, 32, 33, 34, 35, 36, 37, 38, 39, 40, 41, 42, 43, 44, 45, 46, 47, 48, 49, 50, 51, 52, 53, 54, 55, 56, 57, 58, 59, 60, 61, 62, 63, 64, 736, 719, 720, 721, 722, 723, 724, 737, 738, 739, 740, 741, 742, 743, 744, 745, 746, 747, 748, 749, 750, 751, 752] (by decide +kernel) (by decide +kernel)
set_option maxRecDepth 20000 in
theorem gL_law_X6_init : GoodIn wsL_law (wsX6_init) := ggL_law_X6_init
set_option maxRecDepth 20000 in
theorem ggL_law_X7_init : GoodIn wsL_law wsX7_init := goodIn_r _ [67, 68, 11, 12, 41, 69, 70, 71, 72, 73, 74, 75, 725, 726, 727, 728, 729, 730, 731, 732, 733, 734, 735] (by decide +kernel) (by decide +kernel)
set_option maxRecDepth 20000 in
theorem gL_law_X7_init : GoodIn wsL_law (wsX7_init) := ggL_law_X7_init
set_option maxRecDepth 20000 in
theorem ggL_law_X6_set : GoodIn wsL_law wsX6_set := goodIn_r _ [79, 20, 16, 80, 81, 82, 19, 83, 46, 84, 85, 86, 87, 15, 88, 42, 89, 90, 91, 92, 93, 94, 95, 96, 97, 2, 98, 99, 100, 101, 102, 103, 104, 105, 106, 107, 108, 109, 110, 111, 112, 113, 114, 115, 116, 117, 118, 119, 719, 720, 721, 722, 723, 724, 737, 738, 739, 736] (by decide +kernel) (by decide +kernel)
set_option maxRecDepth 20000 in
theorem gL_law_X6_set : GoodIn wsL_law (wsV RL 13 RX6 yX6_set wsX6_set) := goodIn_app (goodIn_of _ (by decide +kernel)) ggL_law_X6_set
set_option maxRecDepth 20000 in
theorem ggL_law_X7_set : GoodIn wsL_law wsX7_set := goodIn_r _ [123, 69, 124, 125, 5, 126, 127, 128, 129, 130, 131, 132, 133, 134, 70, 135, 136, 137, 725, 726, 727, 728, 729, 730, 731, 732, 733, 734, 735] (by decide +kernel) (by decide +kernel)
set_option maxRecDepth 20000 in
theorem gL_law_X7_set : GoodIn wsL_law (wsV RL 17 RX7 yX7_set wsX7_set) := goodIn_app (goodIn_of _ (by decide +kernel)) ggL_law_X7_set
set_option maxRecDepth 20000 in
theorem ggL_law_X6_roller : GoodIn wsL_law wsX6_roller := goodIn_r _ [141, 20, 16, 80, 81, 82, 19, 83, 46, 84, 85, 86, 87, 15, 88, 42, 89, 90, 91, 92, 142, 143, 144, 145, 97, 2, 98, 103, 104, 105, 106, 146, 147, 148, 107, 108, 109, 110, 149, 150, 151, 152, 153, 154, 155, 156, 111, 112, 113, 114, 115, 116, 117, 118, 119, 719, 720, 721, 722, 723, 724, 737, 738, 739, 736] (by decide +kernel) (by decide +kernel)
set_option maxRecDepth 20000 in
theorem gL_law_X6_roller : GoodIn wsL_law (wsV RL 18 RX6 yX6_roller wsX6_roller) := goodIn_app (goodIn_of _ (by decide +kernel)) ggL_law_X6_roller
set_option maxRecDepth 20000 in
theorem ggL_law_X7_roller : GoodIn wsL_law wsX7_roller := goodIn_r _ [160, 69, 127, 128, 5, 129, 161, 162, 163, 130, 131, 132, 133, 134, 70, 135, 136, 137, 164, 165, 166, 167, 725, 726, 727, 728, 729, 730, 731, 732, 733, 734, 735] (by decide +kernel) (by decide +kernel)
set_option maxRecDepth 20000 in
theorem gL_law_X7_roller : GoodIn wsL_law (wsV RL 21 RX7 yX7_roller wsX7_roller) := goodIn_app (goodIn_of _ (by decide +kernel)) ggL_law_X7_roller
set_option maxRecDepth 20000 in
theorem ggL_law_X6_file : GoodIn wsL_law wsX6_file := goodIn_r _ [171, 20, 16, 80, 81, 82, 19, 83, 46, 84, 85, 86, 87, 15, 88, 42, 89, 90, 91, 92, 172, 173, 174, 175, 176, 177, 178, 179, 180, 181, 182, 183, 103, 104, 105, 106, 184, 185, 186, 187, 146, 147, 148, 97, 2, 98, 188, 189, 190, 191, 149, 150, 151, 152, 107, 108, 109, 110, 111, 112, 113, 114, 115, 116, 117, 118, 119, 719, 720, 721, 722, 723, 724, 737, 738, 739, 736] (by decide +kernel) (by decide +kernel)
set_option maxRecDepth 20000 in
theorem gL_law_X6_file : GoodIn wsL_law (wsV RL 22 RX6 yX6_file wsX6_file) := goodIn_app (goodIn_of _ (by decide +kernel)) ggL_law_X6_file
set_option maxRecDepth 20000 in
theorem ggL_law_X7_file : GoodIn wsL_law wsX7_file := goodIn_r _ [195, 196, 197, 198, 5, 199, 200, 201, 202, 203, 204, 205, 206, 207, 69, 127, 128, 129, 208, 209, 210, 211, 161, 162, 163, 130, 131, 132, 133, 134, 70, 135, 136, 137, 212, 213, 214, 215, 725, 726, 727, 728, 729, 730, 731, 732, 733, 734, 735] (by decide +kernel) (by decide +kernel)
set_option maxRecDepth 20000 in
theorem gL_law_X7_file : GoodIn wsL_law (wsV RL 26 RX7 yX7_file wsX7_file) := goodIn_app (goodIn_of _ (by decide +kernel)) ggL_law_X7_file
set_option maxRecDepth 20000 in
theorem ggL_law_X6_melt : GoodIn wsL_law wsX6_melt := goodIn_r _ [219, 20, 16, 80, 81, 82, 19, 83, 46, 84, 85, 86, 87, 15, 88, 42, 89, 90, 91, 92, 220, 221, 222, 223, 180, 181, 182, 183, 103, 104, 105, 106, 146, 147, 148, 107, 108, 109, 110, 111, 112, 113, 114, 115, 116, 117, 118, 119, 719, 720, 721, 722, 723, 724, 737, 738, 739, 736] (by decide +kernel) (by decide +kernel)
set_option maxRecDepth 20000 in
theorem gL_law_X6_melt : GoodIn wsL_law (wsV RL 27 RX6 yX6_melt wsX6_melt) := goodIn_app (goodIn_of _ (by decide +kernel)) ggL_law_X6_melt
set_option maxRecDepth 20000 in
theorem ggL_law_X7_melt : GoodIn wsL_law wsX7_melt := goodIn_r _ [227, 204, 205, 206, 5, 207, 69, 127, 128, 129, 130, 131, 132, 133, 134, 70, 135, 136, 137, 228, 229, 230, 231, 725, 726, 727, 728, 729, 730, 731, 732, 733, 734, 735] (by decide +kernel) (by decide +kernel)
set_option maxRecDepth 20000 in
theorem gL_law_X7_melt : GoodIn wsL_law (wsV RL 31 RX7 yX7_melt wsX7_melt) := goodIn_app (goodIn_of _ (by decide +kernel)) ggL_law_X7_melt
set_option maxRecDepth 20000 in
theorem ggL_law_X6_card : GoodIn wsL_law wsX6_card := goodIn_r _ [235, 20, 16, 80, 81, 82, 19, 83, 46, 84, 85, 86, 87, 15, 88, 42, 89, 90, 91, 92, 236, 237, 238, 239, 97, 2, 98, 103, 104, 105, 106, 107, 108, 109, 110, 111, 112, 113, 114, 115, 116, 117, 118, 119, 719, 720, 721, 722, 723, 724, 737, 738, 739, 736] (by decide +kernel) (by decide +kernel)
set_option maxRecDepth 20000 in
theorem gL_law_X6_card : GoodIn wsL_law (wsV RL 32 RX6 yX6_card wsX6_card) := goodIn_app (goodIn_of _ (by decide +kernel)) ggL_law_X6_card
set_option maxRecDepth 20000 in
theorem ggL_law_X7_card : GoodIn wsL_law wsX7_card := goodIn_r _ [243, 69, 127, 128, 5, 129, 130, 131, 132, 133, 134, 70, 135, 136, 137, 725, 726, 727, 728, 729, 730, 731, 732, 733, 734, 735] (by decide +kernel) (by decide +kernel)
set_option maxRecDepth 20000 in
theorem gL_law_X7_card : GoodIn wsL_law (wsV RL 35 RX7 yX7_card wsX7_card) := goodIn_app (goodIn_of _ (by decide +kernel)) ggL_law_X7_card
set_option maxRecDepth 20000 in
theorem ggL_law_X6_run : GoodIn wsL_law wsX6_run := goodIn_r _ [247, 20, 16, 80, 81, 82, 19, 83, 46, 84, 85, 86, 87, 15, 88, 42, 89, 90, 91, 92, 248, 249, 250, 2, 251, 36, 252, 253, 254, 255, 256, 181, 182, 183, 103, 104, 105, 106, 257, 97, 98, 258, 259, 260, 35, 261, 262, 117, 118, 119, 263, 64, 264, 185, 186, 187, 146, 147, 148, 265, 266, 267, 268, 189, 190, 191, 269, 270, 271, 272, 100, 101, 102, 273, 274, 275, 276, 277, 278, 279, 280, 281, 282, 283, 284, 285, 286, 287, 288, 289, 290, 291, 292, 293, 294, 295, 296, 297, 298, 299, 300, 301, 302, 303, 304, 305, 306, 307, 308, 309, 310, 311, 312, 313, 153, 154, 155, 156, 107, 108, 109, 110, 314, 315, 316, 317, 318, 319, 320, 321, 99, 184, 322, 323, 324, 325, 188, 149, 150, 151, 152, 111, 112, 113, 114, 115, 116, 719, 720, 721, 722, 723, 724, 737, 738, 739, 736, 749, 750, 751, 752] (by decide +kernel) (by decide +kernel)
set_option maxRecDepth 20000 in
theorem gL_law_X6_run : GoodIn wsL_law (wsV RL 36 RX6 yX6_run wsX6_run) := goodIn_app (goodIn_of _ (by decide +kernel)) ggL_law_X6_run
set_option maxRecDepth 20000 in
theorem ggL_law_X7_run : GoodIn wsL_law wsX7_run := goodIn_r _ [329, 330, 331, 332, 5, 333, 334, 335, 336, 337, 204, 205, 206, 207, 69, 127, 128, 129, 338, 339, 340, 341, 342, 343, 344, 345, 208, 209, 210, 211, 346, 347, 348, 349, 350, 351, 352, 130, 131, 132, 133, 134, 70, 135, 136, 137, 353, 354, 355, 356, 357, 358, 359, 360, 361, 362, 363, 364, 365, 725, 726, 727, 728, 729, 730, 731, 732, 733, 734, 735] (by decide +kernel) (by decide +kernel)
set_option maxRecDepth 20000 in
theorem gL_law_X7_run : GoodIn wsL_law (wsV RL 40 RX7 yX7_run wsX7_run) := goodIn_app (goodIn_of _ (by decide +kernel)) ggL_law_X7_run
set_option maxRecDepth 20000 in
theorem ggL_law_X6_of : GoodIn wsL_law wsX6_of := goodIn_r _ [369, 16, 256, 181, 182, 15, 183, 103, 104, 105, 106, 42, 370, 185, 186, 187, 146, 147, 148, 371, 372, 373, 374, 184, 188, 189, 190, 191, 375, 376, 377, 378, 379, 304, 118, 305, 380, 381, 382, 383, 384, 117, 119, 385, 319, 320, 321, 386, 387, 388, 389, 719, 720, 721, 722, 723, 724, 736] (by decide +kernel) (by decide +kernel)
set_option maxRecDepth 20000 in
theorem gL_law_X6_of : GoodIn wsL_law (wsV RL 41 RX6 yX6_of wsX6_of) := goodIn_app (goodIn_of _ (by decide +kernel)) ggL_law_X6_of
set_option maxRecDepth 20000 in
theorem ggL_law_X7_of : GoodIn wsL_law wsX7_of := goodIn_r _ [393, 204, 205, 206, 5, 207, 69, 127, 128, 129, 208, 209, 210, 211, 394, 395, 396, 397, 398, 399, 400, 401, 725, 726, 727, 728, 729, 730, 731, 732, 733, 734, 735] (by decide +kernel) (by decide +kernel)
set_option maxRecDepth 20000 in
theorem gL_law_X7_of : GoodIn wsL_law (wsV RL 44 RX7 yX7_of wsX7_of) := goodIn_app (goodIn_of _ (by decide +kernel)) ggL_law_X7_of
set_option maxRecDepth 20000 in
theorem ggL_law_X6_tooth : GoodIn wsL_law wsX6_tooth := goodIn_r _ [405, 16, 406, 177, 178, 15, 179, 180, 181, 182, 183, 103, 104, 105, 106, 42, 184, 185, 186, 187, 146, 147, 148, 407, 189, 190, 191, 719, 720, 721, 722, 723, 724, 736] (by decide +kernel) (by decide +kernel)
set_option maxRecDepth 20000 in
theorem gL_law_X6_tooth : GoodIn wsL_law (wsV RL 45 RX6 yX6_tooth wsX6_tooth) := goodIn_app (goodIn_of _ (by decide +kernel)) ggL_law_X6_tooth
set_option maxRecDepth 20000 in
theorem ggL_law_X7_tooth : GoodIn wsL_law wsX7_tooth := goodIn_r _ [411, 200, 201, 202, 5, 203, 204, 205, 206, 207, 69, 127, 128, 129, 208, 209, 210, 211, 725, 726, 727, 728, 729, 730, 731, 732, 733, 734, 735] (by decide +kernel) (by decide +kernel)
set_option maxRecDepth 20000 in
theorem gL_law_X7_tooth : GoodIn wsL_law (wsV RL 48 RX7 yX7_tooth wsX7_tooth) := goodIn_app (goodIn_of _ (by decide +kernel)) ggL_law_X7_tooth
set_option maxRecDepth 20000 in
theorem ggL_law_X6_count : GoodIn wsL_law wsX6_count := goodIn_r _ [415, 28, 20, 16, 257, 97, 2, 98, 416, 417, 418, 27, 419, 420, 421, 422, 423, 19, 424, 115, 298, 104, 105, 15, 106, 42, 719, 720, 721, 722, 723, 724, 742, 743, 737, 738, 739, 736] (by decide +kernel) (by decide +kernel)
set_option maxRecDepth 20000 in
theorem gL_law_X6_count : GoodIn wsL_law (wsV RL 49 RX6 yX6_count wsX6_count) := goodIn_app (goodIn_of _ (by decide +kernel)) ggL_law_X6_count
set_option maxRecDepth 20000 in
theorem ggL_law_X7_count : GoodIn wsL_law wsX7_count := goodIn_r _ [428, 69, 429, 134, 725, 726, 727, 728, 729, 730, 731, 732, 733, 734, 735] (by decide +kernel) (by decide +kernel)
set_option maxRecDepth 20000 in
theorem gL_law_X7_count : GoodIn wsL_law (wsV RL 52 RX7 yX7_count wsX7_count) := goodIn_app (goodIn_of _ (by decide +kernel)) ggL_law_X7_count
set_option maxRecDepth 20000 in
theorem ggL_law_X6_pair : GoodIn wsL_law wsX6_pair := goodIn_r _ [433, 36, 16, 434, 435, 436, 2, 437, 252, 253, 254, 255, 256, 181, 182, 15, 183, 103, 104, 105, 106, 42, 257, 97, 98, 258, 259, 260, 35, 261, 262, 117, 118, 119, 263, 64, 264, 185, 186, 187, 146, 147, 148, 265, 266, 267, 268, 189, 190, 191, 269, 270, 271, 438, 439, 440, 441, 442, 443, 444, 445, 281, 282, 283, 284, 446, 447, 448, 449, 303, 304, 305, 272, 100, 101, 102, 273, 274, 275, 276, 277, 278, 279, 280, 285, 286, 287, 288, 289, 290, 291, 719, 720, 721, 722, 723, 724, 736, 749, 750, 751, 752] (by decide +kernel) (by decide +kernel)
set_option maxRecDepth 20000 in
theorem gL_law_X6_pair : GoodIn wsL_law (wsV RL 53 RX6 yX6_pair wsX6_pair) := goodIn_app (goodIn_of _ (by decide +kernel)) ggL_law_X6_pair
set_option maxRecDepth 20000 in
theorem ggL_law_X7_pair : GoodIn wsL_law wsX7_pair := goodIn_r _ [453, 334, 335, 336, 5, 337, 204, 205, 206, 207, 69, 127, 128, 129, 342, 343, 344, 345, 208, 209, 210, 211, 454, 455, 456, 457, 346, 347, 348, 349, 338, 339, 340, 341, 350, 351, 352, 725, 726, 727, 728, 729, 730, 731, 732, 733, 734, 735] (by decide +kernel) (by decide +kernel)
set_option maxRecDepth 20000 in
theorem gL_law_X7_pair : GoodIn wsL_law (wsV RL 57 RX7 yX7_pair wsX7_pair) := goodIn_app (goodIn_of _ (by decide +kernel)) ggL_law_X7_pair
set_option maxRecDepth 20000 in
theorem ggL_law_X6_why : GoodIn wsL_law wsX6_why := goodIn_r _ [461, 36, 16, 434, 435, 436, 2, 437, 252, 253, 254, 255, 256, 181, 182, 15, 183, 103, 104, 105, 106, 42, 257, 97, 98, 258, 259, 260, 35, 261, 262, 117, 118, 119, 263, 64, 264, 185, 186, 187, 146, 147, 148, 265, 266, 267, 268, 189, 190, 191, 269, 270, 271, 272, 100, 101, 102, 462, 278, 279, 280, 281, 282, 283, 284, 285, 286, 287, 288, 289, 290, 291, 463, 719, 720, 721, 722, 723, 724, 736, 749, 750, 751, 752] (by decide +kernel) (by decide +kernel)
set_option maxRecDepth 20000 in
theorem gL_law_X6_why : GoodIn wsL_law (wsV RL 58 RX6 yX6_why wsX6_why) := goodIn_app (goodIn_of _ (by decide +kernel)) ggL_law_X6_why
set_option maxRecDepth 20000 in
theorem ggL_law_X7_why : GoodIn wsL_law wsX7_why := goodIn_r _ [467, 334, 335, 336, 5, 337, 204, 205, 206, 207, 69, 127, 128, 129, 338, 339, 340, 341, 342, 343, 344, 345, 208, 209, 210, 211, 346, 347, 348, 349, 350, 351, 352, 725, 726, 727, 728, 729, 730, 731, 732, 733, 734, 735] (by decide +kernel) (by decide +kernel)
set_option maxRecDepth 20000 in
theorem gL_law_X7_why : GoodIn wsL_law (wsV RL 61 RX7 yX7_why wsX7_why) := goodIn_app (goodIn_of _ (by decide +kernel)) ggL_law_X7_why
set_option maxRecDepth 20000 in
theorem ggL_law_X6_leastGap : GoodIn wsL_law wsX6_leastGap := goodIn_r _ [471, 252, 253, 254, 2, 255, 16, 256, 181, 182, 15, 183, 103, 104, 105, 106, 42, 257, 97, 98, 472, 473, 474, 475, 36, 476, 304, 118, 305, 258, 259, 260, 35, 261, 262, 117, 119, 263, 64, 264, 185, 186, 187, 146, 147, 148, 265, 266, 267, 268, 189, 190, 191, 269, 270, 271, 272, 100, 101, 102, 477, 478, 479, 480, 285, 286, 287, 288, 289, 290, 291, 281, 282, 283, 284, 442, 443, 444, 445, 719, 720, 721, 722, 723, 724, 736, 749, 750, 751, 752] (by decide +kernel) (by decide +kernel)
set_option maxRecDepth 20000 in
theorem gL_law_X6_leastGap : GoodIn wsL_law (wsV RL 62 RX6 yX6_leastGap wsX6_leastGap) := goodIn_app (goodIn_of _ (by decide +kernel)) ggL_law_X6_leastGap
set_option maxRecDepth 20000 in
theorem ggL_law_X7_leastGap : GoodIn wsL_law wsX7_leastGap := goodIn_r _ [484, 334, 335, 336, 5, 337, 204, 205, 206, 207, 69, 127, 128, 129, 485, 486, 487, 488, 338, 339, 340, 341, 342, 343, 344, 345, 208, 209, 210, 211, 346, 347, 348, 349, 350, 351, 352, 725, 726, 727, 728, 729, 730, 731, 732, 733, 734, 735] (by decide +kernel) (by decide +kernel)
set_option maxRecDepth 20000 in
theorem gL_law_X7_leastGap : GoodIn wsL_law (wsV RL 65 RX7 yX7_leastGap wsX7_leastGap) := goodIn_app (goodIn_of _ (by decide +kernel)) ggL_law_X7_leastGap
set_option maxRecDepth 20000 in
theorem ggL_law_X6_bestOffset : GoodIn wsL_law wsX6_bestOffset := goodIn_r _ [492, 16, 493, 117, 118, 119, 434, 435, 436, 2, 437, 252, 253, 254, 255, 256, 181, 182, 15, 183, 103, 104, 105, 106, 42, 257, 97, 98, 370, 185, 186, 187, 146, 147, 148, 472, 473, 474, 475, 36, 476, 304, 305, 258, 259, 260, 35, 261, 262, 263, 64, 264, 265, 266, 267, 268, 189, 190, 191, 269, 270, 271, 272, 100, 101, 102, 477, 478, 479, 480, 285, 286, 287, 288, 289, 290, 291, 281, 282, 283, 284, 442, 443, 444, 445, 719, 720, 721, 722, 723, 724, 736, 749, 750, 751, 752] (by decide +kernel) (by decide +kernel)
set_option maxRecDepth 20000 in
theorem gL_law_X6_bestOffset : GoodIn wsL_law (wsV RL 66 RX6 yX6_bestOffset wsX6_bestOffset) := goodIn_app (goodIn_of _ (by decide +kernel)) ggL_law_X6_bestOffset
set_option maxRecDepth 20000 in
theorem ggL_law_X7_bestOffset : GoodIn wsL_law wsX7_bestOffset := goodIn_r _ [497, 334, 335, 336, 5, 337, 204, 205, 206, 207, 69, 127, 128, 129, 485, 486, 487, 488, 338, 339, 340, 341, 342, 343, 344, 345, 208, 209, 210, 211, 346, 347, 348, 349, 350, 351, 352, 725, 726, 727, 728, 729, 730, 731, 732, 733, 734, 735] (by decide +kernel) (by decide +kernel)
set_option maxRecDepth 20000 in
theorem gL_law_X7_bestOffset : GoodIn wsL_law (wsV RL 69 RX7 yX7_bestOffset wsX7_bestOffset) := goodIn_app (goodIn_of _ (by decide +kernel)) ggL_law_X7_bestOffset
set_option maxRecDepth 20000 in
theorem ggL_law_X6_thickest : GoodIn wsL_law wsX6_thickest := goodIn_r _ [501, 36, 16, 252, 253, 254, 2, 255, 256, 181, 182, 15, 183, 103, 104, 105, 106, 42, 257, 97, 98, 258, 259, 260, 35, 261, 262, 117, 118, 119, 263, 64, 264, 185, 186, 187, 146, 147, 148, 265, 266, 267, 268, 189, 190, 191, 269, 270, 271, 272, 100, 101, 102, 273, 274, 275, 276, 277, 278, 279, 280, 281, 282, 283, 284, 285, 286, 287, 288, 289, 290, 291, 292, 293, 294, 295, 296, 297, 438, 439, 440, 441, 298, 299, 300, 301, 302, 303, 304, 305, 719, 720, 721, 722, 723, 724, 736, 749, 750, 751, 752] (by decide +kernel) (by decide +kernel)
set_option maxRecDepth 20000 in
theorem gL_law_X6_thickest : GoodIn wsL_law (wsV RL 70 RX6 yX6_thickest wsX6_thickest) := goodIn_app (goodIn_of _ (by decide +kernel)) ggL_law_X6_thickest
set_option maxRecDepth 20000 in
theorem ggL_law_X7_thickest : GoodIn wsL_law wsX7_thickest := goodIn_r _ [505, 334, 335, 336, 5, 337, 204, 205, 206, 207, 69, 127, 128, 129, 338, 339, 340, 341, 342, 343, 344, 345, 208, 209, 210, 211, 346, 347, 348, 349, 350, 351, 352, 506, 507, 508, 509, 357, 358, 359, 360, 361, 725, 726, 727, 728, 729, 730, 731, 732, 733, 734, 735] (by decide +kernel) (by decide +kernel)
set_option maxRecDepth 20000 in
theorem gL_law_X7_thickest : GoodIn wsL_law (wsV RL 74 RX7 yX7_thickest wsX7_thickest) := goodIn_app (goodIn_of _ (by decide +kernel)) ggL_law_X7_thickest
set_option maxRecDepth 20000 in
theorem ggL_law_X6_put : GoodIn wsL_law wsX6_put := goodIn_r _ [513, 28, 514, 515, 516, 27, 517, 420, 518, 519, 520, 521, 522, 523, 97, 2, 98, 524, 525, 526, 527, 54, 719, 720, 721, 722, 723, 724, 742, 743] (by decide +kernel) (by decide +kernel)
set_option maxRecDepth 20000 in
theorem gL_law_X6_put : GoodIn wsL_law (wsV RL 77 RX6 yX6_put wsX6_put) := goodIn_app (goodIn_of _ (by decide +kernel)) ggL_law_X6_put
set_option maxRecDepth 20000 in
theorem ggL_law_X7_put : GoodIn wsL_law wsX7_put := goodIn_r _ [531, 532, 429, 74, 127, 128, 5, 129, 725, 726, 727, 728, 729, 730, 731, 732, 733, 734, 735] (by decide +kernel) (by decide +kernel)
set_option maxRecDepth 20000 in
theorem gL_law_X7_put : GoodIn wsL_law (wsV RL 81 RX7 yX7_put wsX7_put) := goodIn_app (goodIn_of _ (by decide +kernel)) ggL_law_X7_put
set_option maxRecDepth 20000 in
theorem ggL_law_X6_wipe : GoodIn wsL_law wsX6_wipe := goodIn_r _ [536, 28, 537, 538, 539, 27, 540, 420, 719, 720, 721, 722, 723, 724, 742, 743] (by decide +kernel) (by decide +kernel)
set_option maxRecDepth 20000 in
theorem gL_law_X6_wipe : GoodIn wsL_law (wsV RL 82 RX6 yX6_wipe wsX6_wipe) := goodIn_app (goodIn_of _ (by decide +kernel)) ggL_law_X6_wipe
set_option maxRecDepth 20000 in
theorem ggL_law_X7_wipe : GoodIn wsL_law wsX7_wipe := goodIn_r _ [544, 429, 725, 726, 727, 728, 729, 730, 731, 732, 733, 734, 735] (by decide +kernel) (by decide +kernel)
set_option maxRecDepth 20000 in
theorem gL_law_X7_wipe : GoodIn wsL_law (wsV RL 86 RX7 yX7_wipe wsX7_wipe) := goodIn_app (goodIn_of _ (by decide +kernel)) ggL_law_X7_wipe
set_option maxRecDepth 20000 in
theorem ggL_law_X6_fault : GoodIn wsL_law wsX6_fault := goodIn_r _ [548, 32, 549, 550, 551, 31, 552, 553, 60, 554, 555, 556, 557, 558, 559, 560, 561, 562, 563, 564, 565, 566, 27, 567, 420, 54, 568, 569, 570, 571, 572, 573, 574, 575, 576, 577, 578, 579, 580, 581, 582, 583, 97, 2, 98, 584, 585, 586, 587, 588, 589, 590, 591, 59, 592, 593, 594, 595, 596, 417, 418, 419, 719, 720, 721, 722, 723, 724, 744, 745, 746, 747, 748, 742, 743] (by decide +kernel) (by decide +kernel)
set_option maxRecDepth 20000 in
theorem gL_law_X6_fault : GoodIn wsL_law (wsV RL 87 RX6 yX6_fault wsX6_fault) := goodIn_app (goodIn_of _ (by decide +kernel)) ggL_law_X6_fault
set_option maxRecDepth 20000 in
theorem ggL_law_X7_fault : GoodIn wsL_law wsX7_fault := goodIn_r _ [600, 601, 429, 602, 603, 604, 5, 605, 74, 606, 607, 608, 609, 610, 611, 612, 613, 614, 615, 616, 617, 618, 75, 619, 620, 621, 622, 623, 624, 625, 626, 127, 128, 129, 627, 628, 629, 630, 631, 632, 633, 634, 725, 726, 727, 728, 729, 730, 731, 732, 733, 734, 735] (by decide +kernel) (by decide +kernel)
set_option maxRecDepth 20000 in
theorem gL_law_X7_fault : GoodIn wsL_law (wsV RL 90 RX7 yX7_fault wsX7_fault) := goodIn_app (goodIn_of _ (by decide +kernel)) ggL_law_X7_fault
set_option maxRecDepth 20000 in
theorem ggL_law_X6_carryOut : GoodIn wsL_law wsX6_carryOut := goodIn_r _ [638, 32, 20, 16, 28, 549, 550, 551, 31, 552, 553, 60, 554, 555, 556, 557, 558, 559, 560, 561, 562, 563, 564, 565, 566, 27, 567, 420, 54, 568, 569, 570, 571, 572, 573, 574, 575, 576, 577, 578, 579, 580, 581, 582, 583, 97, 2, 98, 584, 585, 586, 587, 588, 589, 590, 591, 59, 592, 593, 594, 595, 596, 417, 418, 419, 80, 81, 82, 19, 83, 46, 84, 85, 86, 87, 15, 88, 42, 89, 90, 91, 92, 639, 640, 641, 642, 643, 644, 645, 646, 647, 648, 649, 650, 651, 652, 653, 654, 655, 656, 142, 143, 144, 145, 103, 104, 105, 106, 146, 147, 148, 107, 108, 109, 110, 149, 150, 151, 152, 153, 154, 155, 156, 657, 658, 659, 660, 172, 173, 174, 175, 176, 177, 178, 179, 180, 181, 182, 183, 184, 185, 186, 187, 188, 189, 190, 191, 248, 249, 250, 251, 36, 252, 253, 254, 255, 256, 257, 258, 259, 260, 35, 261, 262, 117, 118, 119, 263, 64, 264, 265, 266, 267, 268, 269, 270, 271, 272, 100, 101, 102, 273, 274, 275, 276, 277, 278, 279, 280, 281, 282, 283, 284, 285, 286, 287, 288, 289, 290, 291, 292, 293, 294, 295, 296, 297, 298, 299, 300, 301, 302, 303, 304, 305, 306, 307, 308, 309, 310, 311, 312, 313, 314, 315, 316, 317, 318, 319, 320, 321, 99, 322, 323, 324, 325, 220, 221, 222, 223, 661, 537, 538, 539, 540, 111, 112, 113, 114, 115, 116, 719, 720, 721, 722, 723, 724, 744, 745, 746, 747, 748, 742, 743, 737, 738, 739, 736, 749, 750, 751, 752] (by decide +kernel) (by decide +kernel)
set_option maxRecDepth 20000 in
theorem gL_law_X6_carryOut : GoodIn wsL_law (wsV RL 91 RX6 yX6_carryOut wsX6_carryOut) := goodIn_app (goodIn_of _ (by decide +kernel)) ggL_law_X6_carryOut
set_option maxRecDepth 20000 in
theorem ggL_law_X7_carryOut : GoodIn wsL_law wsX7_carryOut := goodIn_r _ [665, 601, 429, 666, 598, 599, 5, 600, 602, 603, 604, 605, 74, 606, 607, 608, 609, 610, 611, 612, 613, 614, 615, 616, 617, 618, 75, 619, 620, 621, 622, 623, 624, 625, 626, 127, 128, 129, 627, 628, 629, 630, 631, 632, 633, 634, 130, 131, 132, 133, 134, 70, 69, 135, 136, 137, 667, 668, 669, 670, 671, 672, 673, 674, 164, 165, 166, 167, 330, 331, 332, 333, 334, 335, 336, 337, 204, 205, 206, 207, 338, 339, 340, 341, 342, 343, 344, 345, 208, 209, 210, 211, 346, 347, 348, 349, 350, 351, 352, 353, 354, 355, 356, 357, 358, 359, 360, 361, 362, 363, 364, 365, 228, 229, 230, 231, 196, 197, 198, 199, 200, 201, 202, 203, 161, 162, 163, 212, 213, 214, 215, 725, 726, 727, 728, 729, 730, 731, 732, 733, 734, 735] (by decide +kernel) (by decide +kernel)
set_option maxRecDepth 20000 in
theorem gL_law_X7_carryOut : GoodIn wsL_law (wsV RL 94 RX7 yX7_carryOut wsX7_carryOut) := goodIn_app (goodIn_of _ (by decide +kernel)) ggL_law_X7_carryOut
set_option maxRecDepth 20000 in
theorem ggL_law_X6_undo : GoodIn wsL_law wsX6_undo := goodIn_r _ [678, 20, 16, 679, 680, 681, 19, 682, 115, 84, 46, 683, 684, 685, 15, 686, 42, 89, 90, 91, 92, 719, 720, 721, 722, 723, 724, 737, 738, 739, 736] (by decide +kernel) (by decide +kernel)
set_option maxRecDepth 20000 in
theorem gL_law_X6_undo : GoodIn wsL_law (wsV RL 95 RX6 yX6_undo wsX6_undo) := goodIn_app (goodIn_of _ (by decide +kernel)) ggL_law_X6_undo
set_option maxRecDepth 20000 in
theorem ggL_law_X7_undo : GoodIn wsL_law wsX7_undo := goodIn_r _ [690, 134, 70, 69, 135, 136, 5, 137, 725, 726, 727, 728, 729, 730, 731, 732, 733, 734, 735] (by decide +kernel) (by decide +kernel)
set_option maxRecDepth 20000 in
theorem gL_law_X7_undo : GoodIn wsL_law (wsV RL 98 RX7 yX7_undo wsX7_undo) := goodIn_app (goodIn_of _ (by decide +kernel)) ggL_law_X7_undo
set_option maxRecDepth 20000 in
theorem ggL_law_X6_save : GoodIn wsL_law wsX6_save := goodIn_r _ [694, 24, 16, 695, 696, 697, 23, 698, 50, 699, 97, 2, 98, 700, 86, 87, 15, 88, 42, 89, 90, 91, 92, 701, 104, 105, 106, 719, 720, 721, 722, 723, 724, 740, 741, 736] (by decide +kernel) (by decide +kernel)
set_option maxRecDepth 20000 in
theorem gL_law_X6_save : GoodIn wsL_law (wsV RL 99 RX6 yX6_save wsX6_save) := goodIn_app (goodIn_of _ (by decide +kernel)) ggL_law_X6_save
set_option maxRecDepth 20000 in
theorem ggL_law_X7_save : GoodIn wsL_law wsX7_save := goodIn_r _ [705, 69, 71, 73, 127, 128, 5, 129, 135, 136, 137, 725, 726, 727, 728, 729, 730, 731, 732, 733, 734, 735] (by decide +kernel) (by decide +kernel)
set_option maxRecDepth 20000 in
theorem gL_law_X7_save : GoodIn wsL_law (wsV RL 102 RX7 yX7_save wsX7_save) := goodIn_app (goodIn_of _ (by decide +kernel)) ggL_law_X7_save
set_option maxRecDepth 20000 in
theorem ggL_law_X6_restore : GoodIn wsL_law wsX6_restore := goodIn_r _ [709, 20, 16, 24, 80, 81, 82, 19, 83, 46, 84, 85, 86, 87, 15, 88, 42, 89, 90, 91, 92, 710, 711, 712, 23, 713, 699, 50, 97, 2, 98, 714, 684, 685, 686, 701, 104, 105, 106, 111, 112, 113, 114, 115, 116, 117, 118, 119, 719, 720, 721, 722, 723, 724, 737, 738, 739, 736, 740, 741] (by decide +kernel) (by decide +kernel)
set_option maxRecDepth 20000 in
theorem gL_law_X6_restore : GoodIn wsL_law (wsV RL 103 RX6 yX6_restore wsX6_restore) := goodIn_app (goodIn_of _ (by decide +kernel)) ggL_law_X6_restore
set_option maxRecDepth 20000 in
theorem ggL_law_X7_restore : GoodIn wsL_law wsX7_restore := goodIn_r _ [718, 73, 71, 69, 127, 128, 5, 129, 130, 131, 132, 133, 134, 70, 135, 136, 137, 725, 726, 727, 728, 729, 730, 731, 732, 733, 734, 735] (by decide +kernel) (by decide +kernel)
set_option maxRecDepth 20000 in
theorem gL_law_X7_restore : GoodIn wsL_law (wsV RL 106 RX7 yX7_restore wsX7_restore) := goodIn_app (goodIn_of _ (by decide +kernel)) ggL_law_X7_restore
theorem dL_law_0 : decode cL_law 0 = .ok (.new 7, 3) := by decide +kernel
theorem dL_law_3 : decode cL_law 3 = .ok (.dup, 1) := by decide +kernel
theorem dL_law_4 : decode cL_law 4 = .ok (.invokespecial 9, 3) := by decide +kernel
theorem dL_law_7 : decode cL_law 7 = .ok (.astore_n 1, 1) := by decide +kernel
theorem dL_law_8 : decode cL_law 8 = .ok (.new 10, 3) := by decide +kernel
theorem dL_law_11 : decode cL_law 11 = .ok (.dup, 1) := by decide +kernel
theorem dL_law_12 : decode cL_law 12 = .ok (.invokespecial 12, 3) := by decide +kernel
theorem dL_law_15 : decode cL_law 15 = .ok (.astore_n 2, 1) := by decide +kernel
theorem dL_law_16 : decode cL_law 16 = .ok (.iconst 0, 1) := by decide +kernel
theorem dL_law_17 : decode cL_law 17 = .ok (.istore_n 3, 1) := by decide +kernel
theorem dL_law_18 : decode cL_law 18 = .ok (.iload_n 3, 1) := by decide +kernel
theorem dL_law_19 : decode cL_law 19 = .ok (.aload_n 0, 1) := by decide +kernel
theorem dL_law_20 : decode cL_law 20 = .ok (.arraylength, 1) := by decide +kernel
theorem dL_law_21 : decode cL_law 21 = .ok (.bipush 7, 2) := by decide +kernel
theorem dL_law_23 : decode cL_law 23 = .ok (.isub, 1) := by decide +kernel
theorem dL_law_24 : decode cL_law 24 = .ok (.if_icmp .gt 859, 3) := by decide +kernel
theorem dL_law_27 : decode cL_law 27 = .ok (.aload_n 0, 1) := by decide +kernel
theorem dL_law_28 : decode cL_law 28 = .ok (.iload_n 3, 1) := by decide +kernel
theorem dL_law_29 : decode cL_law 29 = .ok (.iaload, 1) := by decide +kernel
theorem dL_law_30 : decode cL_law 30 = .ok (.bipush 31, 2) := by decide +kernel
theorem dL_law_32 : decode cL_law 32 = .ok (.iand, 1) := by decide +kernel
theorem dL_law_33 : decode cL_law 33 = .ok (.tableswitch 844 0 20 #[99, 132, 165, 208, 231, 264, 339, 372, 405, 428, 491, 554, 597, 640, 693, 746, 759, 772, 785, 798, 821], 99) := by decide +kernel
theorem dL_law_132 : decode cL_law 132 = .ok (.aload_n 1, 1) := by decide +kernel
theorem dL_law_133 : decode cL_law 133 = .ok (.aload_n 0, 1) := by decide +kernel
theorem dL_law_134 : decode cL_law 134 = .ok (.iload_n 3, 1) := by decide +kernel
theorem dL_law_135 : decode cL_law 135 = .ok (.iconst 1, 1) := by decide +kernel
theorem dL_law_136 : decode cL_law 136 = .ok (.iadd, 1) := by decide +kernel
theorem dL_law_137 : decode cL_law 137 = .ok (.iaload, 1) := by decide +kernel
theorem dL_law_138 : decode cL_law 138 = .ok (.aload_n 0, 1) := by decide +kernel
theorem dL_law_139 : decode cL_law 139 = .ok (.iload_n 3, 1) := by decide +kernel
theorem dL_law_140 : decode cL_law 140 = .ok (.iconst 2, 1) := by decide +kernel
theorem dL_law_141 : decode cL_law 141 = .ok (.iadd, 1) := by decide +kernel
theorem dL_law_142 : decode cL_law 142 = .ok (.iaload, 1) := by decide +kernel
theorem dL_law_143 : decode cL_law 143 = .ok (.invokevirtual 13, 3) := by decide +kernel
theorem dL_law_146 : decode cL_law 146 = .ok (.aload_n 2, 1) := by decide +kernel
theorem dL_law_147 : decode cL_law 147 = .ok (.aload_n 0, 1) := by decide +kernel
theorem dL_law_148 : decode cL_law 148 = .ok (.iload_n 3, 1) := by decide +kernel
theorem dL_law_149 : decode cL_law 149 = .ok (.iconst 1, 1) := by decide +kernel
theorem dL_law_150 : decode cL_law 150 = .ok (.iadd, 1) := by decide +kernel
theorem dL_law_151 : decode cL_law 151 = .ok (.iaload, 1) := by decide +kernel
theorem dL_law_152 : decode cL_law 152 = .ok (.aload_n 0, 1) := by decide +kernel
theorem dL_law_153 : decode cL_law 153 = .ok (.iload_n 3, 1) := by decide +kernel
theorem dL_law_154 : decode cL_law 154 = .ok (.iconst 2, 1) := by decide +kernel
theorem dL_law_155 : decode cL_law 155 = .ok (.iadd, 1) := by decide +kernel
theorem dL_law_156 : decode cL_law 156 = .ok (.iaload, 1) := by decide +kernel
theorem dL_law_157 : decode cL_law 157 = .ok (.invokevirtual 17, 3) := by decide +kernel
theorem dL_law_160 : decode cL_law 160 = .ok (.if_icmp .eq 717, 3) := by decide +kernel
theorem dL_law_163 : decode cL_law 163 = .ok (.iconst 0, 1) := by decide +kernel
theorem dL_law_164 : decode cL_law 164 = .ok (.ireturn, 1) := by decide +kernel
theorem dL_law_165 : decode cL_law 165 = .ok (.aload_n 1, 1) := by decide +kernel
theorem dL_law_166 : decode cL_law 166 = .ok (.aload_n 0, 1) := by decide +kernel
theorem dL_law_167 : decode cL_law 167 = .ok (.iload_n 3, 1) := by decide +kernel
theorem dL_law_168 : decode cL_law 168 = .ok (.iconst 1, 1) := by decide +kernel
theorem dL_law_169 : decode cL_law 169 = .ok (.iadd, 1) := by decide +kernel
theorem dL_law_170 : decode cL_law 170 = .ok (.iaload, 1) := by decide +kernel
theorem dL_law_171 : decode cL_law 171 = .ok (.aload_n 0, 1) := by decide +kernel
theorem dL_law_172 : decode cL_law 172 = .ok (.iload_n 3, 1) := by decide +kernel
theorem dL_law_173 : decode cL_law 173 = .ok (.iconst 2, 1) := by decide +kernel
theorem dL_law_174 : decode cL_law 174 = .ok (.iadd, 1) := by decide +kernel
theorem dL_law_175 : decode cL_law 175 = .ok (.iaload, 1) := by decide +kernel
theorem dL_law_176 : decode cL_law 176 = .ok (.invokevirtual 18, 3) := by decide +kernel
theorem dL_law_179 : decode cL_law 179 = .ok (.aload_n 2, 1) := by decide +kernel
theorem dL_law_180 : decode cL_law 180 = .ok (.aload_n 0, 1) := by decide +kernel
theorem dL_law_181 : decode cL_law 181 = .ok (.iload_n 3, 1) := by decide +kernel
theorem dL_law_182 : decode cL_law 182 = .ok (.iconst 1, 1) := by decide +kernel
theorem dL_law_183 : decode cL_law 183 = .ok (.iadd, 1) := by decide +kernel
theorem dL_law_184 : decode cL_law 184 = .ok (.iaload, 1) := by decide +kernel
theorem dL_law_185 : decode cL_law 185 = .ok (.aload_n 0, 1) := by decide +kernel
theorem dL_law_186 : decode cL_law 186 = .ok (.iload_n 3, 1) := by decide +kernel
theorem dL_law_187 : decode cL_law 187 = .ok (.iconst 2, 1) := by decide +kernel
theorem dL_law_188 : decode cL_law 188 = .ok (.iadd, 1) := by decide +kernel
theorem dL_law_189 : decode cL_law 189 = .ok (.iaload, 1) := by decide +kernel
theorem dL_law_190 : decode cL_law 190 = .ok (.invokevirtual 21, 3) := by decide +kernel
theorem dL_law_193 : decode cL_law 193 = .ok (.if_icmp .eq 684, 3) := by decide +kernel
theorem dL_law_196 : decode cL_law 196 = .ok (.iconst 0, 1) := by decide +kernel
theorem dL_law_197 : decode cL_law 197 = .ok (.ireturn, 1) := by decide +kernel
theorem dL_law_198 : decode cL_law 198 = .ok (.aload_n 1, 1) := by decide +kernel
theorem dL_law_199 : decode cL_law 199 = .ok (.aload_n 0, 1) := by decide +kernel
theorem dL_law_200 : decode cL_law 200 = .ok (.iload_n 3, 1) := by decide +kernel
theorem dL_law_201 : decode cL_law 201 = .ok (.iconst 1, 1) := by decide +kernel
theorem dL_law_202 : decode cL_law 202 = .ok (.iadd, 1) := by decide +kernel
theorem dL_law_203 : decode cL_law 203 = .ok (.iaload, 1) := by decide +kernel
theorem dL_law_204 : decode cL_law 204 = .ok (.aload_n 0, 1) := by decide +kernel
theorem dL_law_205 : decode cL_law 205 = .ok (.iload_n 3, 1) := by decide +kernel
theorem dL_law_206 : decode cL_law 206 = .ok (.iconst 2, 1) := by decide +kernel
theorem dL_law_207 : decode cL_law 207 = .ok (.iadd, 1) := by decide +kernel
theorem dL_law_208 : decode cL_law 208 = .ok (.iaload, 1) := by decide +kernel
theorem dL_law_209 : decode cL_law 209 = .ok (.aload_n 0, 1) := by decide +kernel
theorem dL_law_210 : decode cL_law 210 = .ok (.iload_n 3, 1) := by decide +kernel
theorem dL_law_211 : decode cL_law 211 = .ok (.iconst 3, 1) := by decide +kernel
theorem dL_law_212 : decode cL_law 212 = .ok (.iadd, 1) := by decide +kernel
theorem dL_law_213 : decode cL_law 213 = .ok (.iaload, 1) := by decide +kernel
theorem dL_law_214 : decode cL_law 214 = .ok (.invokevirtual 22, 3) := by decide +kernel
theorem dL_law_217 : decode cL_law 217 = .ok (.aload_n 2, 1) := by decide +kernel
theorem dL_law_218 : decode cL_law 218 = .ok (.aload_n 0, 1) := by decide +kernel
theorem dL_law_219 : decode cL_law 219 = .ok (.iload_n 3, 1) := by decide +kernel
theorem dL_law_220 : decode cL_law 220 = .ok (.iconst 1, 1) := by decide +kernel
theorem dL_law_221 : decode cL_law 221 = .ok (.iadd, 1) := by decide +kernel
theorem dL_law_222 : decode cL_law 222 = .ok (.iaload, 1) := by decide +kernel
theorem dL_law_223 : decode cL_law 223 = .ok (.aload_n 0, 1) := by decide +kernel
theorem dL_law_224 : decode cL_law 224 = .ok (.iload_n 3, 1) := by decide +kernel
theorem dL_law_225 : decode cL_law 225 = .ok (.iconst 2, 1) := by decide +kernel
theorem dL_law_226 : decode cL_law 226 = .ok (.iadd, 1) := by decide +kernel
theorem dL_law_227 : decode cL_law 227 = .ok (.iaload, 1) := by decide +kernel
theorem dL_law_228 : decode cL_law 228 = .ok (.aload_n 0, 1) := by decide +kernel
theorem dL_law_229 : decode cL_law 229 = .ok (.iload_n 3, 1) := by decide +kernel
theorem dL_law_230 : decode cL_law 230 = .ok (.iconst 3, 1) := by decide +kernel
theorem dL_law_231 : decode cL_law 231 = .ok (.iadd, 1) := by decide +kernel
theorem dL_law_232 : decode cL_law 232 = .ok (.iaload, 1) := by decide +kernel
theorem dL_law_233 : decode cL_law 233 = .ok (.invokevirtual 26, 3) := by decide +kernel
theorem dL_law_236 : decode cL_law 236 = .ok (.if_icmp .eq 641, 3) := by decide +kernel
theorem dL_law_239 : decode cL_law 239 = .ok (.iconst 0, 1) := by decide +kernel
theorem dL_law_240 : decode cL_law 240 = .ok (.ireturn, 1) := by decide +kernel
theorem dL_law_241 : decode cL_law 241 = .ok (.aload_n 1, 1) := by decide +kernel
theorem dL_law_242 : decode cL_law 242 = .ok (.aload_n 0, 1) := by decide +kernel
theorem dL_law_243 : decode cL_law 243 = .ok (.iload_n 3, 1) := by decide +kernel
theorem dL_law_244 : decode cL_law 244 = .ok (.iconst 1, 1) := by decide +kernel
theorem dL_law_245 : decode cL_law 245 = .ok (.iadd, 1) := by decide +kernel
theorem dL_law_246 : decode cL_law 246 = .ok (.iaload, 1) := by decide +kernel
theorem dL_law_247 : decode cL_law 247 = .ok (.invokevirtual 27, 3) := by decide +kernel
theorem dL_law_250 : decode cL_law 250 = .ok (.aload_n 2, 1) := by decide +kernel
theorem dL_law_251 : decode cL_law 251 = .ok (.aload_n 0, 1) := by decide +kernel
theorem dL_law_252 : decode cL_law 252 = .ok (.iload_n 3, 1) := by decide +kernel
theorem dL_law_253 : decode cL_law 253 = .ok (.iconst 1, 1) := by decide +kernel
theorem dL_law_254 : decode cL_law 254 = .ok (.iadd, 1) := by decide +kernel
theorem dL_law_255 : decode cL_law 255 = .ok (.iaload, 1) := by decide +kernel
theorem dL_law_256 : decode cL_law 256 = .ok (.invokevirtual 31, 3) := by decide +kernel
theorem dL_law_259 : decode cL_law 259 = .ok (.if_icmp .eq 618, 3) := by decide +kernel
theorem dL_law_262 : decode cL_law 262 = .ok (.iconst 0, 1) := by decide +kernel
theorem dL_law_263 : decode cL_law 263 = .ok (.ireturn, 1) := by decide +kernel
theorem dL_law_264 : decode cL_law 264 = .ok (.aload_n 1, 1) := by decide +kernel
theorem dL_law_265 : decode cL_law 265 = .ok (.aload_n 0, 1) := by decide +kernel
theorem dL_law_266 : decode cL_law 266 = .ok (.iload_n 3, 1) := by decide +kernel
theorem dL_law_267 : decode cL_law 267 = .ok (.iconst 1, 1) := by decide +kernel
theorem dL_law_268 : decode cL_law 268 = .ok (.iadd, 1) := by decide +kernel
theorem dL_law_269 : decode cL_law 269 = .ok (.iaload, 1) := by decide +kernel
theorem dL_law_270 : decode cL_law 270 = .ok (.aload_n 0, 1) := by decide +kernel
theorem dL_law_271 : decode cL_law 271 = .ok (.iload_n 3, 1) := by decide +kernel
theorem dL_law_272 : decode cL_law 272 = .ok (.iconst 2, 1) := by decide +kernel
theorem dL_law_273 : decode cL_law 273 = .ok (.iadd, 1) := by decide +kernel
theorem dL_law_274 : decode cL_law 274 = .ok (.iaload, 1) := by decide +kernel
theorem dL_law_275 : decode cL_law 275 = .ok (.invokevirtual 32, 3) := by decide +kernel
theorem dL_law_278 : decode cL_law 278 = .ok (.aload_n 2, 1) := by decide +kernel
theorem dL_law_279 : decode cL_law 279 = .ok (.aload_n 0, 1) := by decide +kernel
theorem dL_law_280 : decode cL_law 280 = .ok (.iload_n 3, 1) := by decide +kernel
theorem dL_law_281 : decode cL_law 281 = .ok (.iconst 1, 1) := by decide +kernel
theorem dL_law_282 : decode cL_law 282 = .ok (.iadd, 1) := by decide +kernel
theorem dL_law_283 : decode cL_law 283 = .ok (.iaload, 1) := by decide +kernel
theorem dL_law_284 : decode cL_law 284 = .ok (.aload_n 0, 1) := by decide +kernel
theorem dL_law_285 : decode cL_law 285 = .ok (.iload_n 3, 1) := by decide +kernel
theorem dL_law_286 : decode cL_law 286 = .ok (.iconst 2, 1) := by decide +kernel
theorem dL_law_287 : decode cL_law 287 = .ok (.iadd, 1) := by decide +kernel
theorem dL_law_288 : decode cL_law 288 = .ok (.iaload, 1) := by decide +kernel
theorem dL_law_289 : decode cL_law 289 = .ok (.invokevirtual 35, 3) := by decide +kernel
theorem dL_law_292 : decode cL_law 292 = .ok (.if_icmp .eq 585, 3) := by decide +kernel
theorem dL_law_295 : decode cL_law 295 = .ok (.iconst 0, 1) := by decide +kernel
theorem dL_law_296 : decode cL_law 296 = .ok (.ireturn, 1) := by decide +kernel
theorem dL_law_297 : decode cL_law 297 = .ok (.aload_n 1, 1) := by decide +kernel
theorem dL_law_298 : decode cL_law 298 = .ok (.aload_n 0, 1) := by decide +kernel
theorem dL_law_299 : decode cL_law 299 = .ok (.iload_n 3, 1) := by decide +kernel
theorem dL_law_300 : decode cL_law 300 = .ok (.iconst 1, 1) := by decide +kernel
theorem dL_law_301 : decode cL_law 301 = .ok (.iadd, 1) := by decide +kernel
theorem dL_law_302 : decode cL_law 302 = .ok (.iaload, 1) := by decide +kernel
theorem dL_law_303 : decode cL_law 303 = .ok (.aload_n 0, 1) := by decide +kernel
theorem dL_law_304 : decode cL_law 304 = .ok (.iload_n 3, 1) := by decide +kernel
theorem dL_law_305 : decode cL_law 305 = .ok (.iconst 2, 1) := by decide +kernel
theorem dL_law_306 : decode cL_law 306 = .ok (.iadd, 1) := by decide +kernel
theorem dL_law_307 : decode cL_law 307 = .ok (.iaload, 1) := by decide +kernel
theorem dL_law_308 : decode cL_law 308 = .ok (.aload_n 0, 1) := by decide +kernel
theorem dL_law_309 : decode cL_law 309 = .ok (.iload_n 3, 1) := by decide +kernel
theorem dL_law_310 : decode cL_law 310 = .ok (.iconst 3, 1) := by decide +kernel
theorem dL_law_311 : decode cL_law 311 = .ok (.iadd, 1) := by decide +kernel
theorem dL_law_312 : decode cL_law 312 = .ok (.iaload, 1) := by decide +kernel
theorem dL_law_313 : decode cL_law 313 = .ok (.aload_n 0, 1) := by decide +kernel
theorem dL_law_314 : decode cL_law 314 = .ok (.iload_n 3, 1) := by decide +kernel
theorem dL_law_315 : decode cL_law 315 = .ok (.iconst 4, 1) := by decide +kernel
theorem dL_law_316 : decode cL_law 316 = .ok (.iadd, 1) := by decide +kernel
theorem dL_law_317 : decode cL_law 317 = .ok (.iaload, 1) := by decide +kernel
theorem dL_law_318 : decode cL_law 318 = .ok (.aload_n 0, 1) := by decide +kernel
theorem dL_law_319 : decode cL_law 319 = .ok (.iload_n 3, 1) := by decide +kernel
theorem dL_law_320 : decode cL_law 320 = .ok (.iconst 5, 1) := by decide +kernel
theorem dL_law_321 : decode cL_law 321 = .ok (.iadd, 1) := by decide +kernel
theorem dL_law_322 : decode cL_law 322 = .ok (.iaload, 1) := by decide +kernel
theorem dL_law_323 : decode cL_law 323 = .ok (.aload_n 0, 1) := by decide +kernel
theorem dL_law_324 : decode cL_law 324 = .ok (.iload_n 3, 1) := by decide +kernel
theorem dL_law_325 : decode cL_law 325 = .ok (.bipush 6, 2) := by decide +kernel
theorem dL_law_327 : decode cL_law 327 = .ok (.iadd, 1) := by decide +kernel
theorem dL_law_328 : decode cL_law 328 = .ok (.iaload, 1) := by decide +kernel
theorem dL_law_329 : decode cL_law 329 = .ok (.invokevirtual 36, 3) := by decide +kernel
theorem dL_law_332 : decode cL_law 332 = .ok (.aload_n 2, 1) := by decide +kernel
theorem dL_law_333 : decode cL_law 333 = .ok (.aload_n 0, 1) := by decide +kernel
theorem dL_law_334 : decode cL_law 334 = .ok (.iload_n 3, 1) := by decide +kernel
theorem dL_law_335 : decode cL_law 335 = .ok (.iconst 1, 1) := by decide +kernel
theorem dL_law_336 : decode cL_law 336 = .ok (.iadd, 1) := by decide +kernel
theorem dL_law_337 : decode cL_law 337 = .ok (.iaload, 1) := by decide +kernel
theorem dL_law_338 : decode cL_law 338 = .ok (.aload_n 0, 1) := by decide +kernel
theorem dL_law_339 : decode cL_law 339 = .ok (.iload_n 3, 1) := by decide +kernel
theorem dL_law_340 : decode cL_law 340 = .ok (.iconst 2, 1) := by decide +kernel
theorem dL_law_341 : decode cL_law 341 = .ok (.iadd, 1) := by decide +kernel
theorem dL_law_342 : decode cL_law 342 = .ok (.iaload, 1) := by decide +kernel
theorem dL_law_343 : decode cL_law 343 = .ok (.aload_n 0, 1) := by decide +kernel
theorem dL_law_344 : decode cL_law 344 = .ok (.iload_n 3, 1) := by decide +kernel
theorem dL_law_345 : decode cL_law 345 = .ok (.iconst 3, 1) := by decide +kernel
theorem dL_law_346 : decode cL_law 346 = .ok (.iadd, 1) := by decide +kernel
theorem dL_law_347 : decode cL_law 347 = .ok (.iaload, 1) := by decide +kernel
theorem dL_law_348 : decode cL_law 348 = .ok (.aload_n 0, 1) := by decide +kernel
theorem dL_law_349 : decode cL_law 349 = .ok (.iload_n 3, 1) := by decide +kernel
theorem dL_law_350 : decode cL_law 350 = .ok (.iconst 4, 1) := by decide +kernel
theorem dL_law_351 : decode cL_law 351 = .ok (.iadd, 1) := by decide +kernel
theorem dL_law_352 : decode cL_law 352 = .ok (.iaload, 1) := by decide +kernel
theorem dL_law_353 : decode cL_law 353 = .ok (.aload_n 0, 1) := by decide +kernel
theorem dL_law_354 : decode cL_law 354 = .ok (.iload_n 3, 1) := by decide +kernel
theorem dL_law_355 : decode cL_law 355 = .ok (.iconst 5, 1) := by decide +kernel
theorem dL_law_356 : decode cL_law 356 = .ok (.iadd, 1) := by decide +kernel
theorem dL_law_357 : decode cL_law 357 = .ok (.iaload, 1) := by decide +kernel
theorem dL_law_358 : decode cL_law 358 = .ok (.aload_n 0, 1) := by decide +kernel
theorem dL_law_359 : decode cL_law 359 = .ok (.iload_n 3, 1) := by decide +kernel
theorem dL_law_360 : decode cL_law 360 = .ok (.bipush 6, 2) := by decide +kernel
theorem dL_law_362 : decode cL_law 362 = .ok (.iadd, 1) := by decide +kernel
theorem dL_law_363 : decode cL_law 363 = .ok (.iaload, 1) := by decide +kernel
theorem dL_law_364 : decode cL_law 364 = .ok (.invokevirtual 40, 3) := by decide +kernel
theorem dL_law_367 : decode cL_law 367 = .ok (.if_icmp .eq 510, 3) := by decide +kernel
theorem dL_law_370 : decode cL_law 370 = .ok (.iconst 0, 1) := by decide +kernel
theorem dL_law_371 : decode cL_law 371 = .ok (.ireturn, 1) := by decide +kernel
theorem dL_law_372 : decode cL_law 372 = .ok (.aload_n 1, 1) := by decide +kernel
theorem dL_law_373 : decode cL_law 373 = .ok (.aload_n 0, 1) := by decide +kernel
theorem dL_law_374 : decode cL_law 374 = .ok (.iload_n 3, 1) := by decide +kernel
theorem dL_law_375 : decode cL_law 375 = .ok (.iconst 1, 1) := by decide +kernel
theorem dL_law_376 : decode cL_law 376 = .ok (.iadd, 1) := by decide +kernel
theorem dL_law_377 : decode cL_law 377 = .ok (.iaload, 1) := by decide +kernel
theorem dL_law_378 : decode cL_law 378 = .ok (.aload_n 0, 1) := by decide +kernel
theorem dL_law_379 : decode cL_law 379 = .ok (.iload_n 3, 1) := by decide +kernel
theorem dL_law_380 : decode cL_law 380 = .ok (.iconst 2, 1) := by decide +kernel
theorem dL_law_381 : decode cL_law 381 = .ok (.iadd, 1) := by decide +kernel
theorem dL_law_382 : decode cL_law 382 = .ok (.iaload, 1) := by decide +kernel
theorem dL_law_383 : decode cL_law 383 = .ok (.invokevirtual 41, 3) := by decide +kernel
theorem dL_law_386 : decode cL_law 386 = .ok (.aload_n 2, 1) := by decide +kernel
theorem dL_law_387 : decode cL_law 387 = .ok (.aload_n 0, 1) := by decide +kernel
theorem dL_law_388 : decode cL_law 388 = .ok (.iload_n 3, 1) := by decide +kernel
theorem dL_law_389 : decode cL_law 389 = .ok (.iconst 1, 1) := by decide +kernel
theorem dL_law_390 : decode cL_law 390 = .ok (.iadd, 1) := by decide +kernel
theorem dL_law_391 : decode cL_law 391 = .ok (.iaload, 1) := by decide +kernel
theorem dL_law_392 : decode cL_law 392 = .ok (.aload_n 0, 1) := by decide +kernel
theorem dL_law_393 : decode cL_law 393 = .ok (.iload_n 3, 1) := by decide +kernel
theorem dL_law_394 : decode cL_law 394 = .ok (.iconst 2, 1) := by decide +kernel
theorem dL_law_395 : decode cL_law 395 = .ok (.iadd, 1) := by decide +kernel
theorem dL_law_396 : decode cL_law 396 = .ok (.iaload, 1) := by decide +kernel
theorem dL_law_397 : decode cL_law 397 = .ok (.invokevirtual 44, 3) := by decide +kernel
theorem dL_law_400 : decode cL_law 400 = .ok (.if_icmp .eq 477, 3) := by decide +kernel
theorem dL_law_403 : decode cL_law 403 = .ok (.iconst 0, 1) := by decide +kernel
theorem dL_law_404 : decode cL_law 404 = .ok (.ireturn, 1) := by decide +kernel
theorem dL_law_405 : decode cL_law 405 = .ok (.aload_n 1, 1) := by decide +kernel
theorem dL_law_406 : decode cL_law 406 = .ok (.aload_n 0, 1) := by decide +kernel
theorem dL_law_407 : decode cL_law 407 = .ok (.iload_n 3, 1) := by decide +kernel
theorem dL_law_408 : decode cL_law 408 = .ok (.iconst 1, 1) := by decide +kernel
theorem dL_law_409 : decode cL_law 409 = .ok (.iadd, 1) := by decide +kernel
theorem dL_law_410 : decode cL_law 410 = .ok (.iaload, 1) := by decide +kernel
theorem dL_law_411 : decode cL_law 411 = .ok (.aload_n 0, 1) := by decide +kernel
theorem dL_law_412 : decode cL_law 412 = .ok (.iload_n 3, 1) := by decide +kernel
theorem dL_law_413 : decode cL_law 413 = .ok (.iconst 2, 1) := by decide +kernel
theorem dL_law_414 : decode cL_law 414 = .ok (.iadd, 1) := by decide +kernel
theorem dL_law_415 : decode cL_law 415 = .ok (.iaload, 1) := by decide +kernel
theorem dL_law_416 : decode cL_law 416 = .ok (.invokevirtual 45, 3) := by decide +kernel
theorem dL_law_419 : decode cL_law 419 = .ok (.aload_n 2, 1) := by decide +kernel
theorem dL_law_420 : decode cL_law 420 = .ok (.aload_n 0, 1) := by decide +kernel
theorem dL_law_421 : decode cL_law 421 = .ok (.iload_n 3, 1) := by decide +kernel
theorem dL_law_422 : decode cL_law 422 = .ok (.iconst 1, 1) := by decide +kernel
theorem dL_law_423 : decode cL_law 423 = .ok (.iadd, 1) := by decide +kernel
theorem dL_law_424 : decode cL_law 424 = .ok (.iaload, 1) := by decide +kernel
theorem dL_law_425 : decode cL_law 425 = .ok (.aload_n 0, 1) := by decide +kernel
theorem dL_law_426 : decode cL_law 426 = .ok (.iload_n 3, 1) := by decide +kernel
theorem dL_law_427 : decode cL_law 427 = .ok (.iconst 2, 1) := by decide +kernel
theorem dL_law_428 : decode cL_law 428 = .ok (.iadd, 1) := by decide +kernel
theorem dL_law_429 : decode cL_law 429 = .ok (.iaload, 1) := by decide +kernel
theorem dL_law_430 : decode cL_law 430 = .ok (.invokevirtual 48, 3) := by decide +kernel
theorem dL_law_433 : decode cL_law 433 = .ok (.if_icmp .eq 444, 3) := by decide +kernel
theorem dL_law_436 : decode cL_law 436 = .ok (.iconst 0, 1) := by decide +kernel
theorem dL_law_437 : decode cL_law 437 = .ok (.ireturn, 1) := by decide +kernel
theorem dL_law_438 : decode cL_law 438 = .ok (.aload_n 1, 1) := by decide +kernel
theorem dL_law_439 : decode cL_law 439 = .ok (.aload_n 0, 1) := by decide +kernel
theorem dL_law_440 : decode cL_law 440 = .ok (.iload_n 3, 1) := by decide +kernel
theorem dL_law_441 : decode cL_law 441 = .ok (.iconst 1, 1) := by decide +kernel
theorem dL_law_442 : decode cL_law 442 = .ok (.iadd, 1) := by decide +kernel
theorem dL_law_443 : decode cL_law 443 = .ok (.iaload, 1) := by decide +kernel
theorem dL_law_444 : decode cL_law 444 = .ok (.invokevirtual 49, 3) := by decide +kernel
theorem dL_law_447 : decode cL_law 447 = .ok (.aload_n 2, 1) := by decide +kernel
theorem dL_law_448 : decode cL_law 448 = .ok (.aload_n 0, 1) := by decide +kernel
theorem dL_law_449 : decode cL_law 449 = .ok (.iload_n 3, 1) := by decide +kernel
theorem dL_law_450 : decode cL_law 450 = .ok (.iconst 1, 1) := by decide +kernel
theorem dL_law_451 : decode cL_law 451 = .ok (.iadd, 1) := by decide +kernel
theorem dL_law_452 : decode cL_law 452 = .ok (.iaload, 1) := by decide +kernel
theorem dL_law_453 : decode cL_law 453 = .ok (.invokevirtual 52, 3) := by decide +kernel
theorem dL_law_456 : decode cL_law 456 = .ok (.if_icmp .eq 421, 3) := by decide +kernel
theorem dL_law_459 : decode cL_law 459 = .ok (.iconst 0, 1) := by decide +kernel
theorem dL_law_460 : decode cL_law 460 = .ok (.ireturn, 1) := by decide +kernel
theorem dL_law_461 : decode cL_law 461 = .ok (.aload_n 1, 1) := by decide +kernel
theorem dL_law_462 : decode cL_law 462 = .ok (.aload_n 0, 1) := by decide +kernel
theorem dL_law_463 : decode cL_law 463 = .ok (.iload_n 3, 1) := by decide +kernel
theorem dL_law_464 : decode cL_law 464 = .ok (.iconst 1, 1) := by decide +kernel
theorem dL_law_465 : decode cL_law 465 = .ok (.iadd, 1) := by decide +kernel
theorem dL_law_466 : decode cL_law 466 = .ok (.iaload, 1) := by decide +kernel
theorem dL_law_467 : decode cL_law 467 = .ok (.aload_n 0, 1) := by decide +kernel
theorem dL_law_468 : decode cL_law 468 = .ok (.iload_n 3, 1) := by decide +kernel
theorem dL_law_469 : decode cL_law 469 = .ok (.iconst 2, 1) := by decide +kernel
theorem dL_law_470 : decode cL_law 470 = .ok (.iadd, 1) := by decide +kernel
theorem dL_law_471 : decode cL_law 471 = .ok (.iaload, 1) := by decide +kernel
theorem dL_law_472 : decode cL_law 472 = .ok (.aload_n 0, 1) := by decide +kernel
theorem dL_law_473 : decode cL_law 473 = .ok (.iload_n 3, 1) := by decide +kernel
theorem dL_law_474 : decode cL_law 474 = .ok (.iconst 3, 1) := by decide +kernel
theorem dL_law_475 : decode cL_law 475 = .ok (.iadd, 1) := by decide +kernel
theorem dL_law_476 : decode cL_law 476 = .ok (.iaload, 1) := by decide +kernel
theorem dL_law_477 : decode cL_law 477 = .ok (.aload_n 0, 1) := by decide +kernel
theorem dL_law_478 : decode cL_law 478 = .ok (.iload_n 3, 1) := by decide +kernel
theorem dL_law_479 : decode cL_law 479 = .ok (.iconst 4, 1) := by decide +kernel
theorem dL_law_480 : decode cL_law 480 = .ok (.iadd, 1) := by decide +kernel
theorem dL_law_481 : decode cL_law 481 = .ok (.iaload, 1) := by decide +kernel
theorem dL_law_482 : decode cL_law 482 = .ok (.aload_n 0, 1) := by decide +kernel
theorem dL_law_483 : decode cL_law 483 = .ok (.iload_n 3, 1) := by decide +kernel
theorem dL_law_484 : decode cL_law 484 = .ok (.iconst 5, 1) := by decide +kernel
theorem dL_law_485 : decode cL_law 485 = .ok (.iadd, 1) := by decide +kernel
theorem dL_law_486 : decode cL_law 486 = .ok (.iaload, 1) := by decide +kernel
theorem dL_law_487 : decode cL_law 487 = .ok (.invokevirtual 53, 3) := by decide +kernel
theorem dL_law_490 : decode cL_law 490 = .ok (.aload_n 2, 1) := by decide +kernel
theorem dL_law_491 : decode cL_law 491 = .ok (.aload_n 0, 1) := by decide +kernel
theorem dL_law_492 : decode cL_law 492 = .ok (.iload_n 3, 1) := by decide +kernel
theorem dL_law_493 : decode cL_law 493 = .ok (.iconst 1, 1) := by decide +kernel
theorem dL_law_494 : decode cL_law 494 = .ok (.iadd, 1) := by decide +kernel
theorem dL_law_495 : decode cL_law 495 = .ok (.iaload, 1) := by decide +kernel
theorem dL_law_496 : decode cL_law 496 = .ok (.aload_n 0, 1) := by decide +kernel
theorem dL_law_497 : decode cL_law 497 = .ok (.iload_n 3, 1) := by decide +kernel
theorem dL_law_498 : decode cL_law 498 = .ok (.iconst 2, 1) := by decide +kernel
theorem dL_law_499 : decode cL_law 499 = .ok (.iadd, 1) := by decide +kernel
theorem dL_law_500 : decode cL_law 500 = .ok (.iaload, 1) := by decide +kernel
theorem dL_law_501 : decode cL_law 501 = .ok (.aload_n 0, 1) := by decide +kernel
theorem dL_law_502 : decode cL_law 502 = .ok (.iload_n 3, 1) := by decide +kernel
theorem dL_law_503 : decode cL_law 503 = .ok (.iconst 3, 1) := by decide +kernel
theorem dL_law_504 : decode cL_law 504 = .ok (.iadd, 1) := by decide +kernel
theorem dL_law_505 : decode cL_law 505 = .ok (.iaload, 1) := by decide +kernel
theorem dL_law_506 : decode cL_law 506 = .ok (.aload_n 0, 1) := by decide +kernel
theorem dL_law_507 : decode cL_law 507 = .ok (.iload_n 3, 1) := by decide +kernel
theorem dL_law_508 : decode cL_law 508 = .ok (.iconst 4, 1) := by decide +kernel
theorem dL_law_509 : decode cL_law 509 = .ok (.iadd, 1) := by decide +kernel
theorem dL_law_510 : decode cL_law 510 = .ok (.iaload, 1) := by decide +kernel
theorem dL_law_511 : decode cL_law 511 = .ok (.aload_n 0, 1) := by decide +kernel
theorem dL_law_512 : decode cL_law 512 = .ok (.iload_n 3, 1) := by decide +kernel
theorem dL_law_513 : decode cL_law 513 = .ok (.iconst 5, 1) := by decide +kernel
theorem dL_law_514 : decode cL_law 514 = .ok (.iadd, 1) := by decide +kernel
theorem dL_law_515 : decode cL_law 515 = .ok (.iaload, 1) := by decide +kernel
theorem dL_law_516 : decode cL_law 516 = .ok (.invokevirtual 57, 3) := by decide +kernel
theorem dL_law_519 : decode cL_law 519 = .ok (.if_icmp .eq 358, 3) := by decide +kernel
theorem dL_law_522 : decode cL_law 522 = .ok (.iconst 0, 1) := by decide +kernel
theorem dL_law_523 : decode cL_law 523 = .ok (.ireturn, 1) := by decide +kernel
theorem dL_law_524 : decode cL_law 524 = .ok (.aload_n 1, 1) := by decide +kernel
theorem dL_law_525 : decode cL_law 525 = .ok (.aload_n 0, 1) := by decide +kernel
theorem dL_law_526 : decode cL_law 526 = .ok (.iload_n 3, 1) := by decide +kernel
theorem dL_law_527 : decode cL_law 527 = .ok (.iconst 1, 1) := by decide +kernel
theorem dL_law_528 : decode cL_law 528 = .ok (.iadd, 1) := by decide +kernel
theorem dL_law_529 : decode cL_law 529 = .ok (.iaload, 1) := by decide +kernel
theorem dL_law_530 : decode cL_law 530 = .ok (.aload_n 0, 1) := by decide +kernel
theorem dL_law_531 : decode cL_law 531 = .ok (.iload_n 3, 1) := by decide +kernel
theorem dL_law_532 : decode cL_law 532 = .ok (.iconst 2, 1) := by decide +kernel
theorem dL_law_533 : decode cL_law 533 = .ok (.iadd, 1) := by decide +kernel
theorem dL_law_534 : decode cL_law 534 = .ok (.iaload, 1) := by decide +kernel
theorem dL_law_535 : decode cL_law 535 = .ok (.aload_n 0, 1) := by decide +kernel
theorem dL_law_536 : decode cL_law 536 = .ok (.iload_n 3, 1) := by decide +kernel
theorem dL_law_537 : decode cL_law 537 = .ok (.iconst 3, 1) := by decide +kernel
theorem dL_law_538 : decode cL_law 538 = .ok (.iadd, 1) := by decide +kernel
theorem dL_law_539 : decode cL_law 539 = .ok (.iaload, 1) := by decide +kernel
theorem dL_law_540 : decode cL_law 540 = .ok (.aload_n 0, 1) := by decide +kernel
theorem dL_law_541 : decode cL_law 541 = .ok (.iload_n 3, 1) := by decide +kernel
theorem dL_law_542 : decode cL_law 542 = .ok (.iconst 4, 1) := by decide +kernel
theorem dL_law_543 : decode cL_law 543 = .ok (.iadd, 1) := by decide +kernel
theorem dL_law_544 : decode cL_law 544 = .ok (.iaload, 1) := by decide +kernel
theorem dL_law_545 : decode cL_law 545 = .ok (.aload_n 0, 1) := by decide +kernel
theorem dL_law_546 : decode cL_law 546 = .ok (.iload_n 3, 1) := by decide +kernel
theorem dL_law_547 : decode cL_law 547 = .ok (.iconst 5, 1) := by decide +kernel
theorem dL_law_548 : decode cL_law 548 = .ok (.iadd, 1) := by decide +kernel
theorem dL_law_549 : decode cL_law 549 = .ok (.iaload, 1) := by decide +kernel
theorem dL_law_550 : decode cL_law 550 = .ok (.invokevirtual 58, 3) := by decide +kernel
theorem dL_law_553 : decode cL_law 553 = .ok (.aload_n 2, 1) := by decide +kernel
theorem dL_law_554 : decode cL_law 554 = .ok (.aload_n 0, 1) := by decide +kernel
theorem dL_law_555 : decode cL_law 555 = .ok (.iload_n 3, 1) := by decide +kernel
theorem dL_law_556 : decode cL_law 556 = .ok (.iconst 1, 1) := by decide +kernel
theorem dL_law_557 : decode cL_law 557 = .ok (.iadd, 1) := by decide +kernel
theorem dL_law_558 : decode cL_law 558 = .ok (.iaload, 1) := by decide +kernel
theorem dL_law_559 : decode cL_law 559 = .ok (.aload_n 0, 1) := by decide +kernel
theorem dL_law_560 : decode cL_law 560 = .ok (.iload_n 3, 1) := by decide +kernel
theorem dL_law_561 : decode cL_law 561 = .ok (.iconst 2, 1) := by decide +kernel
theorem dL_law_562 : decode cL_law 562 = .ok (.iadd, 1) := by decide +kernel
theorem dL_law_563 : decode cL_law 563 = .ok (.iaload, 1) := by decide +kernel
theorem dL_law_564 : decode cL_law 564 = .ok (.aload_n 0, 1) := by decide +kernel
theorem dL_law_565 : decode cL_law 565 = .ok (.iload_n 3, 1) := by decide +kernel
theorem dL_law_566 : decode cL_law 566 = .ok (.iconst 3, 1) := by decide +kernel
theorem dL_law_567 : decode cL_law 567 = .ok (.iadd, 1) := by decide +kernel
theorem dL_law_568 : decode cL_law 568 = .ok (.iaload, 1) := by decide +kernel
theorem dL_law_569 : decode cL_law 569 = .ok (.aload_n 0, 1) := by decide +kernel
theorem dL_law_570 : decode cL_law 570 = .ok (.iload_n 3, 1) := by decide +kernel
theorem dL_law_571 : decode cL_law 571 = .ok (.iconst 4, 1) := by decide +kernel
theorem dL_law_572 : decode cL_law 572 = .ok (.iadd, 1) := by decide +kernel
theorem dL_law_573 : decode cL_law 573 = .ok (.iaload, 1) := by decide +kernel
theorem dL_law_574 : decode cL_law 574 = .ok (.aload_n 0, 1) := by decide +kernel
theorem dL_law_575 : decode cL_law 575 = .ok (.iload_n 3, 1) := by decide +kernel
theorem dL_law_576 : decode cL_law 576 = .ok (.iconst 5, 1) := by decide +kernel
theorem dL_law_577 : decode cL_law 577 = .ok (.iadd, 1) := by decide +kernel
theorem dL_law_578 : decode cL_law 578 = .ok (.iaload, 1) := by decide +kernel
theorem dL_law_579 : decode cL_law 579 = .ok (.invokevirtual 61, 3) := by decide +kernel
theorem dL_law_582 : decode cL_law 582 = .ok (.if_icmp .eq 295, 3) := by decide +kernel
theorem dL_law_585 : decode cL_law 585 = .ok (.iconst 0, 1) := by decide +kernel
theorem dL_law_586 : decode cL_law 586 = .ok (.ireturn, 1) := by decide +kernel
theorem dL_law_587 : decode cL_law 587 = .ok (.aload_n 1, 1) := by decide +kernel
theorem dL_law_588 : decode cL_law 588 = .ok (.aload_n 0, 1) := by decide +kernel
theorem dL_law_589 : decode cL_law 589 = .ok (.iload_n 3, 1) := by decide +kernel
theorem dL_law_590 : decode cL_law 590 = .ok (.iconst 1, 1) := by decide +kernel
theorem dL_law_591 : decode cL_law 591 = .ok (.iadd, 1) := by decide +kernel
theorem dL_law_592 : decode cL_law 592 = .ok (.iaload, 1) := by decide +kernel
theorem dL_law_593 : decode cL_law 593 = .ok (.aload_n 0, 1) := by decide +kernel
theorem dL_law_594 : decode cL_law 594 = .ok (.iload_n 3, 1) := by decide +kernel
theorem dL_law_595 : decode cL_law 595 = .ok (.iconst 2, 1) := by decide +kernel
theorem dL_law_596 : decode cL_law 596 = .ok (.iadd, 1) := by decide +kernel
theorem dL_law_597 : decode cL_law 597 = .ok (.iaload, 1) := by decide +kernel
theorem dL_law_598 : decode cL_law 598 = .ok (.aload_n 0, 1) := by decide +kernel
theorem dL_law_599 : decode cL_law 599 = .ok (.iload_n 3, 1) := by decide +kernel
theorem dL_law_600 : decode cL_law 600 = .ok (.iconst 3, 1) := by decide +kernel
theorem dL_law_601 : decode cL_law 601 = .ok (.iadd, 1) := by decide +kernel
theorem dL_law_602 : decode cL_law 602 = .ok (.iaload, 1) := by decide +kernel
theorem dL_law_603 : decode cL_law 603 = .ok (.invokevirtual 62, 3) := by decide +kernel
theorem dL_law_606 : decode cL_law 606 = .ok (.aload_n 2, 1) := by decide +kernel
theorem dL_law_607 : decode cL_law 607 = .ok (.aload_n 0, 1) := by decide +kernel
theorem dL_law_608 : decode cL_law 608 = .ok (.iload_n 3, 1) := by decide +kernel
theorem dL_law_609 : decode cL_law 609 = .ok (.iconst 1, 1) := by decide +kernel
theorem dL_law_610 : decode cL_law 610 = .ok (.iadd, 1) := by decide +kernel
theorem dL_law_611 : decode cL_law 611 = .ok (.iaload, 1) := by decide +kernel
theorem dL_law_612 : decode cL_law 612 = .ok (.aload_n 0, 1) := by decide +kernel
theorem dL_law_613 : decode cL_law 613 = .ok (.iload_n 3, 1) := by decide +kernel
theorem dL_law_614 : decode cL_law 614 = .ok (.iconst 2, 1) := by decide +kernel
theorem dL_law_615 : decode cL_law 615 = .ok (.iadd, 1) := by decide +kernel
theorem dL_law_616 : decode cL_law 616 = .ok (.iaload, 1) := by decide +kernel
theorem dL_law_617 : decode cL_law 617 = .ok (.aload_n 0, 1) := by decide +kernel
theorem dL_law_618 : decode cL_law 618 = .ok (.iload_n 3, 1) := by decide +kernel
theorem dL_law_619 : decode cL_law 619 = .ok (.iconst 3, 1) := by decide +kernel
theorem dL_law_620 : decode cL_law 620 = .ok (.iadd, 1) := by decide +kernel
theorem dL_law_621 : decode cL_law 621 = .ok (.iaload, 1) := by decide +kernel
theorem dL_law_622 : decode cL_law 622 = .ok (.invokevirtual 65, 3) := by decide +kernel
theorem dL_law_625 : decode cL_law 625 = .ok (.if_icmp .eq 252, 3) := by decide +kernel
theorem dL_law_628 : decode cL_law 628 = .ok (.iconst 0, 1) := by decide +kernel
theorem dL_law_629 : decode cL_law 629 = .ok (.ireturn, 1) := by decide +kernel
theorem dL_law_630 : decode cL_law 630 = .ok (.aload_n 1, 1) := by decide +kernel
theorem dL_law_631 : decode cL_law 631 = .ok (.aload_n 0, 1) := by decide +kernel
theorem dL_law_632 : decode cL_law 632 = .ok (.iload_n 3, 1) := by decide +kernel
theorem dL_law_633 : decode cL_law 633 = .ok (.iconst 1, 1) := by decide +kernel
theorem dL_law_634 : decode cL_law 634 = .ok (.iadd, 1) := by decide +kernel
theorem dL_law_635 : decode cL_law 635 = .ok (.iaload, 1) := by decide +kernel
theorem dL_law_636 : decode cL_law 636 = .ok (.aload_n 0, 1) := by decide +kernel
theorem dL_law_637 : decode cL_law 637 = .ok (.iload_n 3, 1) := by decide +kernel
theorem dL_law_638 : decode cL_law 638 = .ok (.iconst 2, 1) := by decide +kernel
theorem dL_law_639 : decode cL_law 639 = .ok (.iadd, 1) := by decide +kernel
theorem dL_law_640 : decode cL_law 640 = .ok (.iaload, 1) := by decide +kernel
theorem dL_law_641 : decode cL_law 641 = .ok (.aload_n 0, 1) := by decide +kernel
theorem dL_law_642 : decode cL_law 642 = .ok (.iload_n 3, 1) := by decide +kernel
theorem dL_law_643 : decode cL_law 643 = .ok (.iconst 3, 1) := by decide +kernel
theorem dL_law_644 : decode cL_law 644 = .ok (.iadd, 1) := by decide +kernel
theorem dL_law_645 : decode cL_law 645 = .ok (.iaload, 1) := by decide +kernel
theorem dL_law_646 : decode cL_law 646 = .ok (.invokevirtual 66, 3) := by decide +kernel
theorem dL_law_649 : decode cL_law 649 = .ok (.aload_n 2, 1) := by decide +kernel
theorem dL_law_650 : decode cL_law 650 = .ok (.aload_n 0, 1) := by decide +kernel
theorem dL_law_651 : decode cL_law 651 = .ok (.iload_n 3, 1) := by decide +kernel
theorem dL_law_652 : decode cL_law 652 = .ok (.iconst 1, 1) := by decide +kernel
theorem dL_law_653 : decode cL_law 653 = .ok (.iadd, 1) := by decide +kernel
theorem dL_law_654 : decode cL_law 654 = .ok (.iaload, 1) := by decide +kernel
theorem dL_law_655 : decode cL_law 655 = .ok (.aload_n 0, 1) := by decide +kernel
theorem dL_law_656 : decode cL_law 656 = .ok (.iload_n 3, 1) := by decide +kernel
theorem dL_law_657 : decode cL_law 657 = .ok (.iconst 2, 1) := by decide +kernel
theorem dL_law_658 : decode cL_law 658 = .ok (.iadd, 1) := by decide +kernel
theorem dL_law_659 : decode cL_law 659 = .ok (.iaload, 1) := by decide +kernel
theorem dL_law_660 : decode cL_law 660 = .ok (.aload_n 0, 1) := by decide +kernel
theorem dL_law_661 : decode cL_law 661 = .ok (.iload_n 3, 1) := by decide +kernel
theorem dL_law_662 : decode cL_law 662 = .ok (.iconst 3, 1) := by decide +kernel
theorem dL_law_663 : decode cL_law 663 = .ok (.iadd, 1) := by decide +kernel
theorem dL_law_664 : decode cL_law 664 = .ok (.iaload, 1) := by decide +kernel
theorem dL_law_665 : decode cL_law 665 = .ok (.invokevirtual 69, 3) := by decide +kernel
theorem dL_law_668 : decode cL_law 668 = .ok (.if_icmp .eq 209, 3) := by decide +kernel
theorem dL_law_671 : decode cL_law 671 = .ok (.iconst 0, 1) := by decide +kernel
theorem dL_law_672 : decode cL_law 672 = .ok (.ireturn, 1) := by decide +kernel
theorem dL_law_673 : decode cL_law 673 = .ok (.aload_n 1, 1) := by decide +kernel
theorem dL_law_674 : decode cL_law 674 = .ok (.aload_n 0, 1) := by decide +kernel
theorem dL_law_675 : decode cL_law 675 = .ok (.iload_n 3, 1) := by decide +kernel
theorem dL_law_676 : decode cL_law 676 = .ok (.iconst 1, 1) := by decide +kernel
theorem dL_law_677 : decode cL_law 677 = .ok (.iadd, 1) := by decide +kernel
theorem dL_law_678 : decode cL_law 678 = .ok (.iaload, 1) := by decide +kernel
theorem dL_law_679 : decode cL_law 679 = .ok (.aload_n 0, 1) := by decide +kernel
theorem dL_law_680 : decode cL_law 680 = .ok (.iload_n 3, 1) := by decide +kernel
theorem dL_law_681 : decode cL_law 681 = .ok (.iconst 2, 1) := by decide +kernel
theorem dL_law_682 : decode cL_law 682 = .ok (.iadd, 1) := by decide +kernel
theorem dL_law_683 : decode cL_law 683 = .ok (.iaload, 1) := by decide +kernel
theorem dL_law_684 : decode cL_law 684 = .ok (.aload_n 0, 1) := by decide +kernel
theorem dL_law_685 : decode cL_law 685 = .ok (.iload_n 3, 1) := by decide +kernel
theorem dL_law_686 : decode cL_law 686 = .ok (.iconst 3, 1) := by decide +kernel
theorem dL_law_687 : decode cL_law 687 = .ok (.iadd, 1) := by decide +kernel
theorem dL_law_688 : decode cL_law 688 = .ok (.iaload, 1) := by decide +kernel
theorem dL_law_689 : decode cL_law 689 = .ok (.aload_n 0, 1) := by decide +kernel
theorem dL_law_690 : decode cL_law 690 = .ok (.iload_n 3, 1) := by decide +kernel
theorem dL_law_691 : decode cL_law 691 = .ok (.iconst 4, 1) := by decide +kernel
theorem dL_law_692 : decode cL_law 692 = .ok (.iadd, 1) := by decide +kernel
theorem dL_law_693 : decode cL_law 693 = .ok (.iaload, 1) := by decide +kernel
theorem dL_law_694 : decode cL_law 694 = .ok (.invokevirtual 70, 3) := by decide +kernel
theorem dL_law_697 : decode cL_law 697 = .ok (.aload_n 2, 1) := by decide +kernel
theorem dL_law_698 : decode cL_law 698 = .ok (.aload_n 0, 1) := by decide +kernel
theorem dL_law_699 : decode cL_law 699 = .ok (.iload_n 3, 1) := by decide +kernel
theorem dL_law_700 : decode cL_law 700 = .ok (.iconst 1, 1) := by decide +kernel
theorem dL_law_701 : decode cL_law 701 = .ok (.iadd, 1) := by decide +kernel
theorem dL_law_702 : decode cL_law 702 = .ok (.iaload, 1) := by decide +kernel
theorem dL_law_703 : decode cL_law 703 = .ok (.aload_n 0, 1) := by decide +kernel
theorem dL_law_704 : decode cL_law 704 = .ok (.iload_n 3, 1) := by decide +kernel
theorem dL_law_705 : decode cL_law 705 = .ok (.iconst 2, 1) := by decide +kernel
theorem dL_law_706 : decode cL_law 706 = .ok (.iadd, 1) := by decide +kernel
theorem dL_law_707 : decode cL_law 707 = .ok (.iaload, 1) := by decide +kernel
theorem dL_law_708 : decode cL_law 708 = .ok (.aload_n 0, 1) := by decide +kernel
theorem dL_law_709 : decode cL_law 709 = .ok (.iload_n 3, 1) := by decide +kernel
theorem dL_law_710 : decode cL_law 710 = .ok (.iconst 3, 1) := by decide +kernel
theorem dL_law_711 : decode cL_law 711 = .ok (.iadd, 1) := by decide +kernel
theorem dL_law_712 : decode cL_law 712 = .ok (.iaload, 1) := by decide +kernel
theorem dL_law_713 : decode cL_law 713 = .ok (.aload_n 0, 1) := by decide +kernel
theorem dL_law_714 : decode cL_law 714 = .ok (.iload_n 3, 1) := by decide +kernel
theorem dL_law_715 : decode cL_law 715 = .ok (.iconst 4, 1) := by decide +kernel
theorem dL_law_716 : decode cL_law 716 = .ok (.iadd, 1) := by decide +kernel
theorem dL_law_717 : decode cL_law 717 = .ok (.iaload, 1) := by decide +kernel
theorem dL_law_718 : decode cL_law 718 = .ok (.invokevirtual 74, 3) := by decide +kernel
theorem dL_law_721 : decode cL_law 721 = .ok (.if_icmp .eq 156, 3) := by decide +kernel
theorem dL_law_724 : decode cL_law 724 = .ok (.iconst 0, 1) := by decide +kernel
theorem dL_law_725 : decode cL_law 725 = .ok (.ireturn, 1) := by decide +kernel
theorem dL_law_726 : decode cL_law 726 = .ok (.aload_n 1, 1) := by decide +kernel
theorem dL_law_727 : decode cL_law 727 = .ok (.aload_n 0, 1) := by decide +kernel
theorem dL_law_728 : decode cL_law 728 = .ok (.iload_n 3, 1) := by decide +kernel
theorem dL_law_729 : decode cL_law 729 = .ok (.iconst 1, 1) := by decide +kernel
theorem dL_law_730 : decode cL_law 730 = .ok (.iadd, 1) := by decide +kernel
theorem dL_law_731 : decode cL_law 731 = .ok (.iaload, 1) := by decide +kernel
theorem dL_law_732 : decode cL_law 732 = .ok (.i2l, 1) := by decide +kernel
theorem dL_law_733 : decode cL_law 733 = .ok (.bipush 32, 2) := by decide +kernel
theorem dL_law_735 : decode cL_law 735 = .ok (.lshl, 1) := by decide +kernel
theorem dL_law_736 : decode cL_law 736 = .ok (.aload_n 0, 1) := by decide +kernel
theorem dL_law_737 : decode cL_law 737 = .ok (.iload_n 3, 1) := by decide +kernel
theorem dL_law_738 : decode cL_law 738 = .ok (.iconst 2, 1) := by decide +kernel
theorem dL_law_739 : decode cL_law 739 = .ok (.iadd, 1) := by decide +kernel
theorem dL_law_740 : decode cL_law 740 = .ok (.iaload, 1) := by decide +kernel
theorem dL_law_741 : decode cL_law 741 = .ok (.i2l, 1) := by decide +kernel
theorem dL_law_742 : decode cL_law 742 = .ok (.ldc2_w 75, 3) := by decide +kernel
